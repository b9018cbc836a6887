section
-- ===== PART A: goes FIRST, ahead of the names: the tables' words, and 'selects' of the private methods out of them =====
/-- a private method of a class that the tables say can be made, by its rows of tables_1 -/
def lw_okq (q : MethodName × Nat) : Prop := (q.1.cls ≠ "java/lang/invoke/MethodHandle" ∧ q.1.cls ≠ "java/lang/invoke/VarHandle") ∧ Cond.instantiable q.1.cls q.2 ∈ tables_1 ∧ Cond.privateMethod q.1 ∈ tables_1 ∧ Cond.instanceMethod q.1 ∈ tables_1
theorem lw_p0 : lw_okq (⟨"Buildlots", "scoreFrom", "(I)F"⟩, 7) := ⟨⟨by decide +kernel, by decide +kernel⟩, List.mem_of_getElem? (i := 19) (by decide +kernel), List.mem_of_getElem? (i := 150) (by decide +kernel), List.mem_of_getElem? (i := 151) (by decide +kernel)⟩
theorem lw_p1 : lw_okq (⟨"Buildlots", "requireSigner", "(I)V"⟩, 7) := ⟨⟨by decide +kernel, by decide +kernel⟩, List.mem_of_getElem? (i := 19) (by decide +kernel), List.mem_of_getElem? (i := 177) (by decide +kernel), List.mem_of_getElem? (i := 178) (by decide +kernel)⟩
theorem lw_p2 : lw_okq (⟨"java/lang/Throwable", "fillInStackTrace", "(I)Ljava/lang/Throwable;"⟩, 6) := ⟨⟨by decide +kernel, by decide +kernel⟩, List.mem_of_getElem? (i := 221) (by decide +kernel), List.mem_of_getElem? (i := 219) (by decide +kernel), List.mem_of_getElem? (i := 220) (by decide +kernel)⟩
theorem lw_p3 : lw_okq (⟨"Buildlots$Keys", "append", "(III)I"⟩, 5) := ⟨⟨by decide +kernel, by decide +kernel⟩, List.mem_of_getElem? (i := 27) (by decide +kernel), List.mem_of_getElem? (i := 268) (by decide +kernel), List.mem_of_getElem? (i := 269) (by decide +kernel)⟩
theorem lw_p4 : lw_okq (⟨"Buildlots", "requireKey", "(I)V"⟩, 7) := ⟨⟨by decide +kernel, by decide +kernel⟩, List.mem_of_getElem? (i := 19) (by decide +kernel), List.mem_of_getElem? (i := 280) (by decide +kernel), List.mem_of_getElem? (i := 281) (by decide +kernel)⟩
theorem lw_p5 : lw_okq (⟨"Buildlots", "trustedBuilds", "()I"⟩, 7) := ⟨⟨by decide +kernel, by decide +kernel⟩, List.mem_of_getElem? (i := 19) (by decide +kernel), List.mem_of_getElem? (i := 301) (by decide +kernel), List.mem_of_getElem? (i := 302) (by decide +kernel)⟩
theorem lw_p6 : lw_okq (⟨"Buildlots", "suffices", "(II)Z"⟩, 7) := ⟨⟨by decide +kernel, by decide +kernel⟩, List.mem_of_getElem? (i := 19) (by decide +kernel), List.mem_of_getElem? (i := 305) (by decide +kernel), List.mem_of_getElem? (i := 306) (by decide +kernel)⟩
theorem lw_p7 : lw_okq (⟨"Buildlots$Builds", "keepVouchers", "(LBuildlots$Keys;I)V"⟩, 10) := ⟨⟨by decide +kernel, by decide +kernel⟩, List.mem_of_getElem? (i := 54) (by decide +kernel), List.mem_of_getElem? (i := 309) (by decide +kernel), List.mem_of_getElem? (i := 310) (by decide +kernel)⟩
theorem lw_p8 : lw_okq (⟨"Buildlots$Keys", "live", "(I)I"⟩, 5) := ⟨⟨by decide +kernel, by decide +kernel⟩, List.mem_of_getElem? (i := 27) (by decide +kernel), List.mem_of_getElem? (i := 313) (by decide +kernel), List.mem_of_getElem? (i := 314) (by decide +kernel)⟩
theorem lw_p9 : lw_okq (⟨"Buildlots$Keys", "liveOn", "(II)Z"⟩, 5) := ⟨⟨by decide +kernel, by decide +kernel⟩, List.mem_of_getElem? (i := 27) (by decide +kernel), List.mem_of_getElem? (i := 317) (by decide +kernel), List.mem_of_getElem? (i := 318) (by decide +kernel)⟩
theorem lw_p10 : lw_okq (⟨"Buildlots$Keys", "signersOf", "(I)I"⟩, 5) := ⟨⟨by decide +kernel, by decide +kernel⟩, List.mem_of_getElem? (i := 27) (by decide +kernel), List.mem_of_getElem? (i := 323) (by decide +kernel), List.mem_of_getElem? (i := 324) (by decide +kernel)⟩
theorem lw_p11 : lw_okq (⟨"Buildlots", "requireName", "(I)V"⟩, 7) := ⟨⟨by decide +kernel, by decide +kernel⟩, List.mem_of_getElem? (i := 19) (by decide +kernel), List.mem_of_getElem? (i := 365) (by decide +kernel), List.mem_of_getElem? (i := 366) (by decide +kernel)⟩
theorem lw_p12 : lw_okq (⟨"Buildlots$Builds", "all", "()I"⟩, 10) := ⟨⟨by decide +kernel, by decide +kernel⟩, List.mem_of_getElem? (i := 54) (by decide +kernel), List.mem_of_getElem? (i := 379) (by decide +kernel), List.mem_of_getElem? (i := 380) (by decide +kernel)⟩
theorem lw_p13 : lw_okq (⟨"Buildlots$Builds", "recalled", "()I"⟩, 10) := ⟨⟨by decide +kernel, by decide +kernel⟩, List.mem_of_getElem? (i := 54) (by decide +kernel), List.mem_of_getElem? (i := 385) (by decide +kernel), List.mem_of_getElem? (i := 386) (by decide +kernel)⟩
theorem lw_p14 : lw_okq (⟨"Buildlots$Builds", "append", "(III)I"⟩, 10) := ⟨⟨by decide +kernel, by decide +kernel⟩, List.mem_of_getElem? (i := 54) (by decide +kernel), List.mem_of_getElem? (i := 406) (by decide +kernel), List.mem_of_getElem? (i := 407) (by decide +kernel)⟩
theorem lw_p15 : lw_okq (⟨"Buildlots$Builds", "countOf", "(I)I"⟩, 10) := ⟨⟨by decide +kernel, by decide +kernel⟩, List.mem_of_getElem? (i := 54) (by decide +kernel), List.mem_of_getElem? (i := 410) (by decide +kernel), List.mem_of_getElem? (i := 411) (by decide +kernel)⟩
def lw_privs_1 : List (MethodName × Nat) := [(⟨"Buildlots", "scoreFrom", "(I)F"⟩, 7), (⟨"Buildlots", "requireSigner", "(I)V"⟩, 7), (⟨"java/lang/Throwable", "fillInStackTrace", "(I)Ljava/lang/Throwable;"⟩, 6), (⟨"Buildlots$Keys", "append", "(III)I"⟩, 5), (⟨"Buildlots", "requireKey", "(I)V"⟩, 7), (⟨"Buildlots", "trustedBuilds", "()I"⟩, 7), (⟨"Buildlots", "suffices", "(II)Z"⟩, 7), (⟨"Buildlots$Builds", "keepVouchers", "(LBuildlots$Keys;I)V"⟩, 10), (⟨"Buildlots$Keys", "live", "(I)I"⟩, 5), (⟨"Buildlots$Keys", "liveOn", "(II)Z"⟩, 5), (⟨"Buildlots$Keys", "signersOf", "(I)I"⟩, 5), (⟨"Buildlots", "requireName", "(I)V"⟩, 7), (⟨"Buildlots$Builds", "all", "()I"⟩, 10), (⟨"Buildlots$Builds", "recalled", "()I"⟩, 10), (⟨"Buildlots$Builds", "append", "(III)I"⟩, 10), (⟨"Buildlots$Builds", "countOf", "(I)I"⟩, 10)]
theorem lw_r1 : ∀ q ∈ lw_privs_1, lw_okq q := List.forall_mem_cons.mpr ⟨lw_p0, List.forall_mem_cons.mpr ⟨lw_p1, List.forall_mem_cons.mpr ⟨lw_p2, List.forall_mem_cons.mpr ⟨lw_p3, List.forall_mem_cons.mpr ⟨lw_p4, List.forall_mem_cons.mpr ⟨lw_p5, List.forall_mem_cons.mpr ⟨lw_p6, List.forall_mem_cons.mpr ⟨lw_p7, List.forall_mem_cons.mpr ⟨lw_p8, List.forall_mem_cons.mpr ⟨lw_p9, List.forall_mem_cons.mpr ⟨lw_p10, List.forall_mem_cons.mpr ⟨lw_p11, List.forall_mem_cons.mpr ⟨lw_p12, List.forall_mem_cons.mpr ⟨lw_p13, List.forall_mem_cons.mpr ⟨lw_p14, List.forall_mem_cons.mpr ⟨lw_p15, fun _ h => absurd h List.not_mem_nil⟩⟩⟩⟩⟩⟩⟩⟩⟩⟩⟩⟩⟩⟩⟩⟩
theorem lw_p16 : lw_okq (⟨"Buildlots$Builds", "withTheirSources", "(I)I"⟩, 10) := ⟨⟨by decide +kernel, by decide +kernel⟩, List.mem_of_getElem? (i := 54) (by decide +kernel), List.mem_of_getElem? (i := 414) (by decide +kernel), List.mem_of_getElem? (i := 415) (by decide +kernel)⟩
theorem lw_p17 : lw_okq (⟨"Buildlots", "requireBuild", "(I)V"⟩, 7) := ⟨⟨by decide +kernel, by decide +kernel⟩, List.mem_of_getElem? (i := 19) (by decide +kernel), List.mem_of_getElem? (i := 426) (by decide +kernel), List.mem_of_getElem? (i := 427) (by decide +kernel)⟩
theorem lw_p18 : lw_okq (⟨"Buildlots$Builds", "newestOf", "(II)I"⟩, 10) := ⟨⟨by decide +kernel, by decide +kernel⟩, List.mem_of_getElem? (i := 54) (by decide +kernel), List.mem_of_getElem? (i := 460) (by decide +kernel), List.mem_of_getElem? (i := 461) (by decide +kernel)⟩
theorem lw_p19 : lw_okq (⟨"Buildlots$Mirrors", "append", "()I"⟩, 3) := ⟨⟨by decide +kernel, by decide +kernel⟩, List.mem_of_getElem? (i := 101) (by decide +kernel), List.mem_of_getElem? (i := 587) (by decide +kernel), List.mem_of_getElem? (i := 588) (by decide +kernel)⟩
theorem lw_p20 : lw_okq (⟨"Buildlots", "requireMirror", "(I)V"⟩, 7) := ⟨⟨by decide +kernel, by decide +kernel⟩, List.mem_of_getElem? (i := 19) (by decide +kernel), List.mem_of_getElem? (i := 598) (by decide +kernel), List.mem_of_getElem? (i := 599) (by decide +kernel)⟩
theorem lw_p21 : lw_okq (⟨"Buildlots", "hasExpired", "(I)Z"⟩, 7) := ⟨⟨by decide +kernel, by decide +kernel⟩, List.mem_of_getElem? (i := 19) (by decide +kernel), List.mem_of_getElem? (i := 610) (by decide +kernel), List.mem_of_getElem? (i := 611) (by decide +kernel)⟩
theorem lw_p22 : lw_okq (⟨"BuildlotsModel", "fails", "(I)Z"⟩, 23) := ⟨⟨by decide +kernel, by decide +kernel⟩, List.mem_of_getElem? (i := 638) (by decide +kernel), List.mem_of_getElem? (i := 726) (by decide +kernel), List.mem_of_getElem? (i := 727) (by decide +kernel)⟩
theorem lw_p23 : lw_okq (⟨"BuildlotsModel", "isNoKey", "(I)Z"⟩, 23) := ⟨⟨by decide +kernel, by decide +kernel⟩, List.mem_of_getElem? (i := 638) (by decide +kernel), List.mem_of_getElem? (i := 734) (by decide +kernel), List.mem_of_getElem? (i := 735) (by decide +kernel)⟩
theorem lw_p24 : lw_okq (⟨"BuildlotsModel", "trusted", "()I"⟩, 23) := ⟨⟨by decide +kernel, by decide +kernel⟩, List.mem_of_getElem? (i := 638) (by decide +kernel), List.mem_of_getElem? (i := 738) (by decide +kernel), List.mem_of_getElem? (i := 739) (by decide +kernel)⟩
theorem lw_p25 : lw_okq (⟨"BuildlotsModel", "trustedWithout", "(I)I"⟩, 23) := ⟨⟨by decide +kernel, by decide +kernel⟩, List.mem_of_getElem? (i := 638) (by decide +kernel), List.mem_of_getElem? (i := 742) (by decide +kernel), List.mem_of_getElem? (i := 743) (by decide +kernel)⟩
theorem lw_p26 : lw_okq (⟨"BuildlotsModel", "isEnough", "(II)Z"⟩, 23) := ⟨⟨by decide +kernel, by decide +kernel⟩, List.mem_of_getElem? (i := 638) (by decide +kernel), List.mem_of_getElem? (i := 746) (by decide +kernel), List.mem_of_getElem? (i := 747) (by decide +kernel)⟩
theorem lw_p27 : lw_okq (⟨"BuildlotsModel", "scoreOf", "(II)F"⟩, 23) := ⟨⟨by decide +kernel, by decide +kernel⟩, List.mem_of_getElem? (i := 638) (by decide +kernel), List.mem_of_getElem? (i := 750) (by decide +kernel), List.mem_of_getElem? (i := 751) (by decide +kernel)⟩
theorem lw_p28 : lw_okq (⟨"BuildlotsModel", "backs", "(III)Z"⟩, 23) := ⟨⟨by decide +kernel, by decide +kernel⟩, List.mem_of_getElem? (i := 638) (by decide +kernel), List.mem_of_getElem? (i := 754) (by decide +kernel), List.mem_of_getElem? (i := 755) (by decide +kernel)⟩
theorem lw_p29 : lw_okq (⟨"BuildlotsModel", "lives", "(I)Z"⟩, 23) := ⟨⟨by decide +kernel, by decide +kernel⟩, List.mem_of_getElem? (i := 638) (by decide +kernel), List.mem_of_getElem? (i := 758) (by decide +kernel), List.mem_of_getElem? (i := 759) (by decide +kernel)⟩
theorem lw_p30 : lw_okq (⟨"BuildlotsModel", "areRecalled", "(I)Z"⟩, 23) := ⟨⟨by decide +kernel, by decide +kernel⟩, List.mem_of_getElem? (i := 638) (by decide +kernel), List.mem_of_getElem? (i := 789) (by decide +kernel), List.mem_of_getElem? (i := 790) (by decide +kernel)⟩
theorem lw_p31 : lw_okq (⟨"BuildlotsModel", "isGone", "(I)Z"⟩, 23) := ⟨⟨by decide +kernel, by decide +kernel⟩, List.mem_of_getElem? (i := 638) (by decide +kernel), List.mem_of_getElem? (i := 793) (by decide +kernel), List.mem_of_getElem? (i := 794) (by decide +kernel)⟩
def lw_privs_2 : List (MethodName × Nat) := [(⟨"Buildlots$Builds", "withTheirSources", "(I)I"⟩, 10), (⟨"Buildlots", "requireBuild", "(I)V"⟩, 7), (⟨"Buildlots$Builds", "newestOf", "(II)I"⟩, 10), (⟨"Buildlots$Mirrors", "append", "()I"⟩, 3), (⟨"Buildlots", "requireMirror", "(I)V"⟩, 7), (⟨"Buildlots", "hasExpired", "(I)Z"⟩, 7), (⟨"BuildlotsModel", "fails", "(I)Z"⟩, 23), (⟨"BuildlotsModel", "isNoKey", "(I)Z"⟩, 23), (⟨"BuildlotsModel", "trusted", "()I"⟩, 23), (⟨"BuildlotsModel", "trustedWithout", "(I)I"⟩, 23), (⟨"BuildlotsModel", "isEnough", "(II)Z"⟩, 23), (⟨"BuildlotsModel", "scoreOf", "(II)F"⟩, 23), (⟨"BuildlotsModel", "backs", "(III)Z"⟩, 23), (⟨"BuildlotsModel", "lives", "(I)Z"⟩, 23), (⟨"BuildlotsModel", "areRecalled", "(I)Z"⟩, 23), (⟨"BuildlotsModel", "isGone", "(I)Z"⟩, 23)]
theorem lw_r2 : ∀ q ∈ lw_privs_2, lw_okq q := List.forall_mem_cons.mpr ⟨lw_p16, List.forall_mem_cons.mpr ⟨lw_p17, List.forall_mem_cons.mpr ⟨lw_p18, List.forall_mem_cons.mpr ⟨lw_p19, List.forall_mem_cons.mpr ⟨lw_p20, List.forall_mem_cons.mpr ⟨lw_p21, List.forall_mem_cons.mpr ⟨lw_p22, List.forall_mem_cons.mpr ⟨lw_p23, List.forall_mem_cons.mpr ⟨lw_p24, List.forall_mem_cons.mpr ⟨lw_p25, List.forall_mem_cons.mpr ⟨lw_p26, List.forall_mem_cons.mpr ⟨lw_p27, List.forall_mem_cons.mpr ⟨lw_p28, List.forall_mem_cons.mpr ⟨lw_p29, List.forall_mem_cons.mpr ⟨lw_p30, List.forall_mem_cons.mpr ⟨lw_p31, fun _ h => absurd h List.not_mem_nil⟩⟩⟩⟩⟩⟩⟩⟩⟩⟩⟩⟩⟩⟩⟩⟩
theorem lw_p32 : lw_okq (⟨"BuildlotsModel", "isNoBuild", "(I)Z"⟩, 23) := ⟨⟨by decide +kernel, by decide +kernel⟩, List.mem_of_getElem? (i := 638) (by decide +kernel), List.mem_of_getElem? (i := 801) (by decide +kernel), List.mem_of_getElem? (i := 802) (by decide +kernel)⟩
theorem lw_p33 : lw_okq (⟨"BuildlotsModel", "recalled", "()I"⟩, 23) := ⟨⟨by decide +kernel, by decide +kernel⟩, List.mem_of_getElem? (i := 638) (by decide +kernel), List.mem_of_getElem? (i := 821) (by decide +kernel), List.mem_of_getElem? (i := 822) (by decide +kernel)⟩
theorem lw_p34 : lw_okq (⟨"BuildlotsModel", "greatest", "(II)I"⟩, 23) := ⟨⟨by decide +kernel, by decide +kernel⟩, List.mem_of_getElem? (i := 638) (by decide +kernel), List.mem_of_getElem? (i := 825) (by decide +kernel), List.mem_of_getElem? (i := 826) (by decide +kernel)⟩
theorem lw_p35 : lw_okq (⟨"BuildlotsModel", "vouched", "(II)Z"⟩, 23) := ⟨⟨by decide +kernel, by decide +kernel⟩, List.mem_of_getElem? (i := 638) (by decide +kernel), List.mem_of_getElem? (i := 837) (by decide +kernel), List.mem_of_getElem? (i := 838) (by decide +kernel)⟩
theorem lw_p36 : lw_okq (⟨"BuildlotsModel", "marks", "(IZ)I"⟩, 23) := ⟨⟨by decide +kernel, by decide +kernel⟩, List.mem_of_getElem? (i := 638) (by decide +kernel), List.mem_of_getElem? (i := 875) (by decide +kernel), List.mem_of_getElem? (i := 876) (by decide +kernel)⟩
theorem lw_p37 : lw_okq (⟨"BuildlotsModel", "isNoMirror", "(I)Z"⟩, 23) := ⟨⟨by decide +kernel, by decide +kernel⟩, List.mem_of_getElem? (i := 638) (by decide +kernel), List.mem_of_getElem? (i := 903) (by decide +kernel), List.mem_of_getElem? (i := 904) (by decide +kernel)⟩
theorem lw_p38 : lw_okq (⟨"BuildlotsModel", "isOld", "(I)Z"⟩, 23) := ⟨⟨by decide +kernel, by decide +kernel⟩, List.mem_of_getElem? (i := 638) (by decide +kernel), List.mem_of_getElem? (i := 911) (by decide +kernel), List.mem_of_getElem? (i := 912) (by decide +kernel)⟩
theorem lw_p39 : lw_okq (⟨"BuildlotsModel", "tells", "(I)I"⟩, 23) := ⟨⟨by decide +kernel, by decide +kernel⟩, List.mem_of_getElem? (i := 638) (by decide +kernel), List.mem_of_getElem? (i := 931) (by decide +kernel), List.mem_of_getElem? (i := 932) (by decide +kernel)⟩
def lw_privs_3 : List (MethodName × Nat) := [(⟨"BuildlotsModel", "isNoBuild", "(I)Z"⟩, 23), (⟨"BuildlotsModel", "recalled", "()I"⟩, 23), (⟨"BuildlotsModel", "greatest", "(II)I"⟩, 23), (⟨"BuildlotsModel", "vouched", "(II)Z"⟩, 23), (⟨"BuildlotsModel", "marks", "(IZ)I"⟩, 23), (⟨"BuildlotsModel", "isNoMirror", "(I)Z"⟩, 23), (⟨"BuildlotsModel", "isOld", "(I)Z"⟩, 23), (⟨"BuildlotsModel", "tells", "(I)I"⟩, 23)]
theorem lw_r3 : ∀ q ∈ lw_privs_3, lw_okq q := List.forall_mem_cons.mpr ⟨lw_p32, List.forall_mem_cons.mpr ⟨lw_p33, List.forall_mem_cons.mpr ⟨lw_p34, List.forall_mem_cons.mpr ⟨lw_p35, List.forall_mem_cons.mpr ⟨lw_p36, List.forall_mem_cons.mpr ⟨lw_p37, List.forall_mem_cons.mpr ⟨lw_p38, List.forall_mem_cons.mpr ⟨lw_p39, fun _ h => absurd h List.not_mem_nil⟩⟩⟩⟩⟩⟩⟩⟩
def lw_privs : List (MethodName × Nat) := lw_privs_1 ++ (lw_privs_2 ++ (lw_privs_3))
def lw_tbl : List Cond := k2_sels lw_privs ++ tables_1
theorem lw_privs_ok : ∀ q ∈ lw_privs, lw_okq q := by
  show ∀ q ∈ lw_privs_1 ++ (lw_privs_2 ++ (lw_privs_3)), lw_okq q
  exact List.forall_mem_append.mpr ⟨lw_r1, List.forall_mem_append.mpr ⟨lw_r2, lw_r3⟩⟩
/-- the streams that the claim lets the run draw from -/
abbrev lw_cs : List Choice := [Jvm.Choice.named "NaN.bits"]
theorem lw_bits : nanBits ∈ lw_cs := by first | decide | exact List.mem_cons_self | simp [lw_cs, nanBits]
end
section
/-! ===== BEGIN words of one list among another's, by their places ===== -/
theorem goodIn_r {big : List Cond} (ws : List Cond) (ps : List Nat) (hp : ws = ps.filterMap (fun i => big[i]?)) (h : ws.all goodWord = true) : GoodIn big ws := by
  intro w hw
  have h1 := List.all_eq_true.mp h w hw
  rw [hp] at hw
  obtain ⟨i, -, hi⟩ := List.mem_filterMap.mp hw
  have hm : w ∈ big := by first | exact List.mem_of_getElem? hi | exact List.getElem?_mem hi
  exact ⟨hm, good_of_word h1⟩
theorem goodIn_app {big a b : List Cond} (ha : GoodIn big a) (hb : GoodIn big b) : GoodIn big (a ++ b) := fun w h => (List.mem_append.mp h).elim (ha w) (hb w)
theorem goodIn_ca {big a b : List Cond} {c : Cond} (ha : GoodIn big (c :: a)) (hb : GoodIn big b) : GoodIn big (c :: (a ++ b)) := fun w h => (List.mem_cons.mp h).elim (fun e => ha w (List.mem_cons.mpr (Or.inl e))) (fun h => (List.mem_append.mp h).elim (fun h => ha w (List.mem_cons.mpr (Or.inr h))) (hb w))
theorem goodIn_sub {big ws : List Cond} (hm : ∀ w ∈ ws, w ∈ big) (h : ws.all goodWord = true) : GoodIn big ws := fun w hw => ⟨hm w hw, good_of_word (List.all_eq_true.mp h w hw)⟩
/-! ===== END ===== -/

/-! ===== BEGIN exceptions that leave a method, and their catching by the caller (launches without stack traces) ===== -/
section VXA
/-! The laws vx_back, vx_callV, vx_callS, vx_callSW, vx_throw0, vx_throwS follow proofs of the library, with one case more: JvmDerived/Free/Laws.lean (Back.of_free), Shelf42/LK1.lean (callV, callS), Shelf/KitTraced.lean (throwNew0V, throwNewS). -/
/-- where a method has thrown q: the class by its name, the cell, what was written, the world -/
def vx_T (XC : String → State → State → Prop) (st : State) (q : Addr) (t : State) (mc ms : Nat) (free : Addr → Prop) : Prop :=
  ∃ (E : String) (ce : Cell) (L : List Loc), XC E st t ∧ t.heap[q]? = some ce ∧ ce.vm = .none ∧ st.vm.findClass E = some ce.cls ∧ st.WarmedH t.vm ∧ st.sameButNew ({ t with vm := st.vm } : State) L mc ms ∧ ∀ z ∈ L, free z.base
def vx_Q (Qc : Array Value → State → Outcome → State → Prop) (XC : String → State → State → Prop) (mc ms : Nat) (free : Addr → Prop) : Array Value → State → Outcome → State → Prop := fun a st o t =>
  (Qc a st o t ∧ ∃ L, FrameEnd st o t L mc ms ∧ ∀ q ∈ L, free q.base) ∨ ∃ q, o = .threw q ∧ vx_T XC st q t mc ms free
/-- a callee that returns or throws -/
def vx_Met (l : Launch) (y : MethodName) (ws : List Cond) (rm : Room) (Pc : Array Value → State → Prop) (Qc : Array Value → State → Outcome → State → Prop) (XC : String → State → State → Prop) (mc ms : Nat) (free : Addr → Prop) : Prop :=
  MetFree l y (headSpec ws rm) Pc (fun _ _ _ _ _ => True) (vx_Q Qc XC mc ms free)
def vx_Post (XC : String → State → State → Prop) (mc ms : Nat) (free : Addr → Prop) : Pt → Array Value → Addr → Pt → Prop := fun A a q B =>
  ∃ (g : JFrame) (mk : MethodId) (t : State) (L : List Loc) (E : String) (ce : Cell), B.U.heap = t.heap ∧ B.U.vm = t.vm ∧ XC E (A.U.calling g mk a) t ∧ t.heap[q]? = some ce ∧ ce.vm = .none ∧ A.U.vm.findClass E = some ce.cls ∧ B.locs = A.locs ++ L ∧ (∀ z ∈ L, free z.base) ∧ B.cells = A.cells + mc ∧ B.slots = A.slots + ms
def vx_Back (l : Launch) (R : Room) (p : Program) (e : Env) (below : List Frame) (s : State) (sargs : Array Value) (y : MethodName) (len W9 : Nat)
    (Pre : Pt → Array Value → Prop) (Post : Pt → Array Value → Option Value → Pt → Prop) (PostX : Pt → Array Value → Addr → Pt → Prop) : Prop :=
  ∀ (m : MethodId) (meth : Method) (c : Code) (A : Pt) (g : JFrame) (ig : Instr) (mk : MethodId) (a : Array Value),
    Stand p l e R s m sargs below meth c A.U A.locs A.cells A.slots → g.method = m → g.locals.size = c.maxLocals → decode c.code g.pc = .ok (ig, len) →
    2 * g.monitorRoom + (g.stack.map fun v => v.category).sum ≤ W9 → A.U.methodNamed? y = some mk → Pre A a →
    (∃ (v : Option Value) (B : Pt), Stand p l e R s m sargs below meth c B.U B.locs B.cells B.slots ∧ Post A a v B ∧
      Steps p.tables e below (doInvoke e (A.U.setTop g) [] mk a).1 (B.U.setTop { g with pc := g.pc + len, stack := v.toList ++ g.stack })) ∨
    (∃ (q : Addr) (B : Pt), Stand p l e R s m sargs below meth c B.U B.locs B.cells B.slots ∧ PostX A a q B ∧
      Steps p.tables e below (doInvoke e (A.U.setTop g) [] mk a).1 ((B.U.setTop g).pushFrame (.throwing q)))
section Payer
variable {l : Launch} {R : Room} {p : Program} {e : Env} {below : List Frame} {s : State} {sargs : Array Value} {y : MethodName} {len W9 : Nat}
theorem vx_back {ws : List Cond} {rm : Room} {Pc : Array Value → State → Prop} {Qc : Array Value → State → Outcome → State → Prop} {XC : String → State → State → Prop} {mc ms : Nat} {free : Addr → Prop} {bytes : ByteArray} {maxL : Nat} {ret : Option FieldType}
    (hM : vx_Met l y ws rm Pc Qc XC mc ms free) (hblind : FrameBlind Pc) (hrc : rm.cells = mc) (hrs : rm.slots = ms)
    (hframes : rm.frames + 1 ≤ R.frames) (hlocals : W9 + (maxL + 11) + rm.locals ≤ R.locals)
    (hws : ∀ w ∈ ws, ∀ a' U, s.WarmedH U.vm → w.before a' U = true) (hcode : Cond.code y bytes maxL ret ∈ ws) (hinit : ∀ a' U, s.WarmedH U.vm → (Cond.initialized y.cls).before a' U = true) :
    vx_Back l R p e below s sargs y len W9 (PreOf R mc ms Pc) (PostOf Qc mc ms free) (vx_Post XC mc ms free) := by
  intro m meth c A g ig mk a X hg hsize hdg hW hn hp
  have h1 : (headSpec ws rm).pre.before a A.U = true := atoms_intro fun w hw => hws w hw _ _ X.warmed
  have h2 : (Cond.code y bytes maxL ret).before a A.U = true := hws _ hcode _ _ X.warmed
  have h3 : (Cond.initialized y.cls).before a A.U = true := hinit _ _ X.warmed
  have h4 : A.cells + (headSpec ws rm).room.cells ≤ R.cells := by rw [show (headSpec ws rm).room.cells = mc from hrc]; exact hp.1
  have h5 : A.slots + (headSpec ws rm).room.slots ≤ R.slots := by rw [show (headSpec ws rm).room.slots = ms from hrs]; exact hp.2.1
  have hPc : Pc a (A.U.calling g mk a) := hblind _ _ _ _ hp.2.2
  obtain ⟨U, Ls, c0, s0⟩ := A
  dsimp only [Pt.U, Pt.locs, Pt.cells, Pt.slots] at h1 h2 h3 h4 h5 X hn hPc ⊢
  obtain ⟨methY, cY, hmY, hcY, -, hlY, -, -, -, -⟩ := Cond.code_spec hn h2
  obtain ⟨kY, hkY, -⟩ := className_of_methodNamed hn
  have hinitY : kY.init = .initialized := Cond.initialized_spec (findClass_of_methodNamed hn) hkY h3
  have h : At U g.method c below := by rw [hg]; exact X.here
  have hlocals9 : W9 + (maxL + 11) + (headSpec ws rm).room.locals ≤ R.locals := hlocals
  have happ : (headSpec ws rm).appliesLoose y e.platform (U.calling g mk a) = true :=
    Spec.appliesLoose_calling (g := g) h hdg hn hkY hinitY
      (X.room_calling (g := g) (R' := (headSpec ws rm).room) hsize hmY hcY hframes (by rw [hlY]; omega) h4 h5) h1
  obtain ⟨mid, hmid⟩ := h.above
  have hfr : (U.setTop g).frames = (.java g :: mid) ++ below := by rw [State.frames_setTop' g h.top, hmid]; rfl
  obtain ⟨o, s₂, hsteps, -, hend, hq⟩ := Steps.callFree hM p X.admits X.cas X.clock (acts := []) hfr happ hPc trivial
  have hq' : vx_Q Qc XC mc ms free a (U.calling g mk a) o s₂ := hq
  rw [State.frames_setTop' g h.top] at hend
  obtain ⟨g₀, hg0⟩ := Option.isSome_iff_exists.mp h.top
  obtain ⟨r, hr⟩ := State.topJava?_eq_some.mp hg0
  have hr' : (({ U with heap := s₂.heap, slotsUsed := s₂.slotsUsed } : State).setVm s₂.vm).frames = .java g₀ :: r := hr
  rcases hq' with ⟨hqc, L, hfe, hL⟩ | ⟨q, rfl, E, ce, L, hx, hce, hcv, hcl, hW₂, hsm, hL⟩
  · obtain ⟨⟨v, rfl⟩, hW₂, e2, q2, q3, q4, q5, q6⟩ := id hfe
    have e3 : s₂ = ({ (U.calling g mk a).setFrames s₂.frames with heap := s₂.heap, slotsUsed := s₂.slotsUsed } : State).setVm s₂.vm := by
      have : s₂ = ({ s₂ with vm := (U.calling g mk a).vm } : State).setVm s₂.vm := rfl
      rw [e2] at this
      exact this
    obtain ⟨c₂, i₂, len₂, hc₂, hd₂, hf₂⟩ := hend
    have hW' : U.WarmedH s₂.vm := hW₂
    have hcc : c₂ = c := by
      have h1 : s₂.code? g.method = U.code? g.method := by
        rw [State.code?_eq, State.code?_eq, hW'.alike.method?]
      exact Option.some.inj (hc₂.symm.trans (h1.trans h.code))
    subst hcc
    have hlen : len₂ = len := by rw [hdg] at hd₂; cases hd₂; rfl
    subst hlen
    have hs₂ : s₂ = (({ U with heap := s₂.heap, slotsUsed := s₂.slotsUsed } : State).setVm s₂.vm).setTop { g with pc := g.pc + len₂, stack := v.toList ++ g.stack } := by
      refine e3.trans ?_
      rw [hf₂, State.calling_eq h.top, State.setFrames_setFrames, State.setTop_of_frames _ hr', hr]
      rfl
    have hsame : U.sameButNew ({ U with heap := s₂.heap, slotsUsed := s₂.slotsUsed } : State) L mc ms := by
      refine ⟨?_, q2, q3, q4, q5, q6⟩
      obtain ⟨t, ht, -⟩ := State.frames_cons hr
      show ({ U with heap := s₂.heap, slotsUsed := s₂.slotsUsed } : State) = { U.setFrames U.frames with heap := s₂.heap, slotsUsed := s₂.slotsUsed }
      rw [State.setFrames_self ht]
    subst hg
    refine Or.inl ⟨v, ⟨(({ U with heap := s₂.heap, slotsUsed := s₂.slotsUsed } : State).setVm s₂.vm), Ls ++ L, c0 + mc, s0 + ms⟩,
      ⟨X.admits, X.cas, X.clock, X.frames, X.room, X.hears, X.method, X.code, (X.here.setHeapUsed s₂.heap s₂.slotsUsed).setVm hW'.alike, X.tail, State.WarmedH.trans X.warmed hW', X.limits, X.bytes, X.same.trans (hsame.setVm s.vm)⟩,
      ⟨g, mk, s₂, L, rfl, rfl, hqc, rfl, hL, rfl, rfl⟩, ?_⟩
    show Steps p.tables e below _ ((({ U with heap := s₂.heap, slotsUsed := s₂.slotsUsed } : State).setVm s₂.vm).setTop { g with pc := g.pc + len₂, stack := v.toList ++ g.stack })
    rw [← hs₂]
    exact hsteps
  · obtain ⟨e2, q2, q3, q4, q5, q6⟩ := id hsm
    have e3 : s₂ = ({ (U.calling g mk a).setFrames s₂.frames with heap := s₂.heap, slotsUsed := s₂.slotsUsed } : State).setVm s₂.vm := by
      have : s₂ = ({ s₂ with vm := (U.calling g mk a).vm } : State).setVm s₂.vm := rfl
      rw [e2] at this
      exact this
    have hf₂ : s₂.frames = .throwing q :: .java g :: U.frames.tail := hend
    have hW' : U.WarmedH s₂.vm := hW₂
    have hs₂ : s₂ = ((({ U with heap := s₂.heap, slotsUsed := s₂.slotsUsed } : State).setVm s₂.vm).setTop g).pushFrame (.throwing q) := by
      refine e3.trans ?_
      rw [hf₂, State.calling_eq h.top, State.setFrames_setFrames, State.pushFrame, State.frames_setTop _ hr', State.setTop_of_frames _ hr', State.setFrames_setFrames, hr]
      rfl
    have hsame : U.sameButNew ({ U with heap := s₂.heap, slotsUsed := s₂.slotsUsed } : State) L mc ms := by
      refine ⟨?_, q2, q3, q4, q5, q6⟩
      obtain ⟨t, ht, -⟩ := State.frames_cons hr
      show ({ U with heap := s₂.heap, slotsUsed := s₂.slotsUsed } : State) = { U.setFrames U.frames with heap := s₂.heap, slotsUsed := s₂.slotsUsed }
      rw [State.setFrames_self ht]
    subst hg
    refine Or.inr ⟨q, ⟨(({ U with heap := s₂.heap, slotsUsed := s₂.slotsUsed } : State).setVm s₂.vm), Ls ++ L, c0 + mc, s0 + ms⟩,
      ⟨X.admits, X.cas, X.clock, X.frames, X.room, X.hears, X.method, X.code, (X.here.setHeapUsed s₂.heap s₂.slotsUsed).setVm hW'.alike, X.tail, State.WarmedH.trans X.warmed hW', X.limits, X.bytes, X.same.trans (hsame.setVm s.vm)⟩,
      ⟨g, mk, s₂, L, E, ce, rfl, rfl, hx, hce, hcv, hcl, rfl, hL, rfl, rfl⟩, ?_⟩
    show Steps p.tables e below _ (((({ U with heap := s₂.heap, slotsUsed := s₂.slotsUsed } : State).setVm s₂.vm).setTop g).pushFrame (.throwing q))
    rw [← hs₂]
    exact hsteps
end Payer
section Calls
variable {p : Program} {l : Launch} {e : Env} {R : Room} {s : State} {m : MethodId} {args : Array Value} {below : List Frame} {meth : Method} {c : Code} {T : State} {locs : List Loc} {cells slots : Nat}
theorem vx_callV (X : Stand p l e R s m args below meth c T locs cells slots) (hexec : p.tables.exec = Jvm.exec) {own C : String} {index : Nat} {y : MethodName} {bytes : ByteArray} {maxL : Nat} {ret : Option FieldType}
    (hown : s.vm.findClass own = some m.cls) (hlink : (Cond.methodLink own index y).before args s = true) (hinst : (Cond.instanceMethod y).before args s = true) (hsel : (Cond.selects C y y).before args s = true)
    (hcode : (Cond.code y bytes maxL ret).before args s = true) (hy : y.cls ≠ "java/lang/invoke/MethodHandle" ∧ y.cls ≠ "java/lang/invoke/VarHandle")
    {W9 : Nat} {Pre : Pt → Array Value → Prop} {Post : Pt → Array Value → Option Value → Pt → Prop} {PostX : Pt → Array Value → Addr → Pt → Prop} (hK : vx_Back l R p e below s args y 3 W9 Pre Post PostX)
    {b : Addr} {cellB : Cell} (hcell : T.heap[b]? = some cellB) (hobj : cellB.vm.isStatics = false) (hcls : s.vm.findClass C = some cellB.cls)
    {g : JFrame} (hg : g.method = m) (hsize : g.locals.size = c.maxLocals) {argsL rest : List Value} (hlen : ∀ sig, parseMethodDescriptor y.desc = some sig → argsL.length = sig.parameters.length)
    (hstack : g.stack = argsL.reverse ++ .ref b :: rest) (hW : 2 * g.monitorRoom + (rest.map fun v => v.category).sum ≤ W9) (hdg : decode c.code g.pc = .ok (.invokevirtual index, 3))
    (hpre : ∀ vm₁, s.WarmedH vm₁ → Pre ⟨T.setVm vm₁, locs, cells, slots⟩ (Value.ref b :: argsL).toArray) :
    (∃ (v : Option Value) (vm₁ : Vm) (B : Pt), s.WarmedH vm₁ ∧ Stand p l e R s m args below meth c B.U B.locs B.cells B.slots ∧ Post ⟨T.setVm vm₁, locs, cells, slots⟩ (Value.ref b :: argsL).toArray v B ∧
      ∀ target, Steps p.tables e below (B.U.setTop { g with pc := g.pc + 3, stack := v.toList ++ rest }) target → Steps p.tables e below (T.setTop g) target) ∨
    (∃ (q : Addr) (vm₁ : Vm) (B : Pt), s.WarmedH vm₁ ∧ Stand p l e R s m args below meth c B.U B.locs B.cells B.slots ∧ PostX ⟨T.setVm vm₁, locs, cells, slots⟩ (Value.ref b :: argsL).toArray q B ∧
      Steps p.tables e below (T.setTop g) ((B.U.setTop { g with stack := rest }).pushFrame (.throwing q))) := by
  obtain ⟨mk, methM, hnamed, hmethM, hstM, habM⟩ := Cond.instanceMethod_spec hinst
  obtain ⟨methM', cM, hmethM', -, -, -, -, -, -, hsigM⟩ := Cond.code_spec hnamed hcode
  cases hmethM.symm.trans hmethM'
  obtain ⟨c2, r2, m2, q1, q2, q3, q4, kP, hkP, hkPi⟩ := Cond.selects_spec hsel
  cases hcls.symm.trans q1
  cases (State.methodFound?_of_named hnamed hy).symm.trans q2
  cases hnamed.symm.trans q3
  have hselP : selectMethod e.platform s.vm cellB.cls mk = .method mk := by rw [Launch.admits_selectMethod X.admits]; exact q4
  obtain ⟨vm₁, X₁, hstep₁⟩ := X.invokevirtual hexec hown hlink hnamed hmethM hstM hkP hkPi hy (a := b) (cell := cellB) hcell
    (fun z h => by rw [h] at hobj; cases hobj) hselP hmethM habM hkP hkPi (g := g) hg (argsL := argsL) (rest := rest) (hlen _ hsigM) hstack hdg
  rcases hK m meth c ⟨T.setVm vm₁, locs, cells, slots⟩ { g with stack := rest } (.invokevirtual index) mk (Value.ref b :: argsL).toArray X₁ hg hsize hdg hW (X₁.named hnamed) (hpre vm₁ X₁.warmed) with ⟨v, B, X', hpost, hsteps⟩ | ⟨q, B, X', hpost, hsteps⟩
  · exact Or.inl ⟨v, vm₁, B, X₁.warmed, X', hpost, fun target h => hstep₁ _ fun acts => by rw [doInvoke_state]; exact hsteps.trans h⟩
  · exact Or.inr ⟨q, vm₁, B, X₁.warmed, X', hpost, hstep₁ _ fun acts => by rw [doInvoke_state]; exact hsteps⟩
theorem vx_callS (X : Stand p l e R s m args below meth c T locs cells slots) (hexec : p.tables.exec = Jvm.exec) {own : String} {index : Nat} {y : MethodName} {bytes : ByteArray} {maxL : Nat} {ret : Option FieldType}
    (hown : s.vm.findClass own = some m.cls) (hlink : (Cond.methodLink own index y).before args s = true) (hstat : (Cond.static y).before args s = true) (hinit : (Cond.initialized y.cls).before args s = true)
    (hcode : (Cond.code y bytes maxL ret).before args s = true) (hy : y.cls ≠ "java/lang/invoke/MethodHandle" ∧ y.cls ≠ "java/lang/invoke/VarHandle")
    {W9 : Nat} {Pre : Pt → Array Value → Prop} {Post : Pt → Array Value → Option Value → Pt → Prop} {PostX : Pt → Array Value → Addr → Pt → Prop} (hK : vx_Back l R p e below s args y 3 W9 Pre Post PostX)
    {g : JFrame} (hg : g.method = m) (hsize : g.locals.size = c.maxLocals) {argsL rest : List Value} (hlen : ∀ sig, parseMethodDescriptor y.desc = some sig → argsL.length = sig.parameters.length)
    (hstack : g.stack = argsL.reverse ++ rest) (hW : 2 * g.monitorRoom + (rest.map fun v => v.category).sum ≤ W9) (hdg : decode c.code g.pc = .ok (.invokestatic index, 3))
    (hpre : ∀ vm₁, s.WarmedH vm₁ → Pre ⟨T.setVm vm₁, locs, cells, slots⟩ argsL.toArray) :
    (∃ (v : Option Value) (vm₁ : Vm) (B : Pt), s.WarmedH vm₁ ∧ Stand p l e R s m args below meth c B.U B.locs B.cells B.slots ∧ Post ⟨T.setVm vm₁, locs, cells, slots⟩ argsL.toArray v B ∧
      ∀ target, Steps p.tables e below (B.U.setTop { g with pc := g.pc + 3, stack := v.toList ++ rest }) target → Steps p.tables e below (T.setTop g) target) ∨
    (∃ (q : Addr) (vm₁ : Vm) (B : Pt), s.WarmedH vm₁ ∧ Stand p l e R s m args below meth c B.U B.locs B.cells B.slots ∧ PostX ⟨T.setVm vm₁, locs, cells, slots⟩ argsL.toArray q B ∧
      Steps p.tables e below (T.setTop g) ((B.U.setTop { g with stack := rest }).pushFrame (.throwing q))) := by
  obtain ⟨mk, hnamed⟩ := Cond.code_named hcode
  obtain ⟨methM, cM, hmethM, -, -, -, -, -, -, hsigM⟩ := Cond.code_spec hnamed hcode
  have hstatic : methM.isStatic = true := Cond.static_spec hnamed hmethM hstat
  obtain ⟨kP, hkP, -⟩ := className_of_methodNamed hnamed
  have hinitP : kP.init = .initialized := Cond.initialized_spec (findClass_of_methodNamed hnamed) hkP hinit
  obtain ⟨vm₁, X₁, hstep₁⟩ := X.invokestatic hexec hown hlink hnamed hmethM hstatic hkP hinitP hy (g := g) hg (argsL := argsL) (rest := rest) (hlen _ hsigM) hstack hdg
  rcases hK m meth c ⟨T.setVm vm₁, locs, cells, slots⟩ { g with stack := rest } (.invokestatic index) mk argsL.toArray X₁ hg hsize hdg hW (X₁.named hnamed) (hpre vm₁ X₁.warmed) with ⟨v, B, X', hpost, hsteps⟩ | ⟨q, B, X', hpost, hsteps⟩
  · exact Or.inl ⟨v, vm₁, B, X₁.warmed, X', hpost, fun target h => hstep₁ _ fun acts => by rw [doInvoke_state]; exact hsteps.trans h⟩
  · exact Or.inr ⟨q, vm₁, B, X₁.warmed, X', hpost, hstep₁ _ fun acts => by rw [doInvoke_state]; exact hsteps⟩
end Calls
theorem vx_cls {s : State} {T : State} {vm₁ : Vm} {E : String} {k : ClassId} (hW : s.WarmedH vm₁) (h : (T.setVm vm₁).vm.findClass E = some k) : s.vm.findClass E = some k := by
  have h1 : vm₁.findClass E = some k := h
  rw [hW.alike.findClass] at h1
  exact h1
/-- the method's frame g, with q thrown over it -/
def vx_W (p : Program) (l : Launch) (e : Env) (R : Room) (s : State) (m : MethodId) (args : Array Value) (below : List Frame) (meth : Method) (c : Code) (H : Heap) (locs : List Loc) (cells slots : Nat) (Q : State → Prop) (g : JFrame) (q : Addr) : Prop :=
  ∀ T : State, T.heap = H → Stand p l e R s m args below meth c T locs cells slots → ∃ t, Steps p.tables e below ((T.setTop g).pushFrame (.throwing q)) t ∧ Q t
def vx_Run (p : Program) (l : Launch) (e : Env) (R : Room) (s : State) (m : MethodId) (args : Array Value) (below : List Frame) (meth : Method) (c : Code) (H : Heap) (locs : List Loc) (cells slots mc ms : Nat) (g : JFrame) (rest : List Value) (Qa : State → Outcome → State → Prop) (XC : String → State → State → Prop) (free : Addr → Prop) : Prop :=
  ∀ T : State, T.heap = H → Stand p l e R s m args below meth c T locs cells slots →
    (∃ (v : Option Value) (st₀ t T' : State) (L : List Loc), st₀.heap = H ∧ Stand p l e R s m args below meth c T' (locs ++ L) (cells + mc) (slots + ms) ∧ (∀ q ∈ L, free q.base) ∧ T'.heap = t.heap ∧ T'.vm = t.vm ∧ Qa st₀ (.returned v) t ∧
      Goes p e below T g T' { g with pc := g.pc + 3, stack := v.toList ++ rest }) ∨
    (∃ (q : Addr) (st₀ t T' : State) (L : List Loc) (E : String) (ce : Cell), st₀.heap = H ∧ Stand p l e R s m args below meth c T' (locs ++ L) (cells + mc) (slots + ms) ∧ (∀ z ∈ L, free z.base) ∧ T'.heap = t.heap ∧ T'.vm = t.vm ∧ XC E st₀ t ∧ t.heap[q]? = some ce ∧ ce.vm = .none ∧ s.vm.findClass E = some ce.cls ∧
      Steps p.tables e below (T.setTop g) ((T'.setTop { g with stack := rest }).pushFrame (.throwing q)))
def vx_X {S : Type} (px : S → Prop) (B : String → S → State → Prop) (A : Nat → Prop) : String → State → State → Prop := fun E st t => ∃ u : S, px u ∧ B E u t ∧ va_F A st t
section Runs
variable {p : Program} {l : Launch} {e : Env} {R : Room} {s : State} {m : MethodId} {args : Array Value} {below : List Frame} {meth : Method} {c : Code} {H : Heap} {locs : List Loc} {cells slots : Nat}
variable {y : MethodName} {bytes cc : ByteArray} {maxL nL mc ms n index : Nat} {ret : Option FieldType} {ws : List Cond} {rm : Room} {Pc : Array Value → State → Prop} {Qc : Array Value → State → Outcome → State → Prop} {XC : String → State → State → Prop} {free : Addr → Prop} {Ts : List Cond} {own C : String} {b : Addr} {As rest : List Value} {g : JFrame}
theorem vx_callBack (cb : CallB R s args own index y bytes maxL ret ws rm mc ms n) (hM : vx_Met l y ws rm Pc Qc XC mc ms free) (hbl : FrameBlind Pc) : vx_Back l R p e below s args y 3 8 (PreOf R mc ms Pc) (PostOf Qc mc ms free) (vx_Post XC mc ms free) := by
  obtain ⟨hrc, hrs, hfr, hlo, hws, hcw, -, hini, -⟩ := cb
  exact vx_back (bytes := bytes) (maxL := maxL) (ret := ret) hM hbl hrc hrs hfr hlo hws hcw (fun a' U hW => word_at hW (Or.inl (by first | rfl | simp [Cond.onTables, Cond.keeps, Cond.steady])) hini)
theorem vx_runV (S : CallFix p m c cc nL s args Ts own) (hM : vx_Met l y ws rm Pc Qc XC mc ms free) (cw : CallW R s args own C index y bytes maxL ret ws rm mc ms n) (hp : PreV s H C b Pc As)
    (hg : g.method = m) (hn : As.length = n) (hsize : g.locals.size = nL) (hstack : g.stack = As.reverse ++ .ref b :: rest) (hW : 2 * g.monitorRoom + (rest.map fun v => v.category).sum ≤ 8) (hdg : decode cc g.pc = .ok (.invokevirtual index, 3)) (hf : cells + mc ≤ R.cells ∧ slots + ms ≤ R.slots) :
    vx_Run p l e R s m args below meth c H locs cells slots mc ms g rest (Qc (Value.ref b :: As).toArray) XC free := by
  have hK : vx_Back l R p e below s args y 3 8 (PreOf R mc ms Pc) (PostOf Qc mc ms free) (vx_Post XC mc ms free) := vx_callBack cw.1 hM hp.1
  obtain ⟨⟨-, -, -, -, -, -, hcode, -, hy, hlen, hl⟩, hin, hse⟩ := cw
  obtain ⟨hx, hb, hml, ho, -⟩ := S
  obtain ⟨-, ⟨cellB, hcB, hoB, hclB⟩, hPc⟩ := hp
  intro T hT X
  rcases vx_callV X hx (C := C) (bytes := bytes) (maxL := maxL) (ret := ret) ho hl hin hse hcode hy hK (by rw [hT]; exact hcB) hoB hclB hg (hsize.trans hml.symm) (argsL := As) (rest := rest) (fun sig h => hn.trans (hlen sig h)) hstack hW (by rw [hb]; exact hdg)
    (fun vm₁ hW₁ => ⟨hf.1, hf.2, hPc (T.setVm vm₁) hT hW₁⟩) with ⟨v, vm₁, ⟨U', l2, c2, s2⟩, hW₁, X', ⟨g', mk, t, L, e1, e2, hq, h1, hL, h2, h3⟩, st⟩ | ⟨q, vm₁, ⟨U', l2, c2, s2⟩, hW₁, X', ⟨g', mk, t, L, E, ce, e1, e2, hq, hce, hcv, hcl, h1, hL, h2, h3⟩, st⟩
  · dsimp only [Pt.U, Pt.locs, Pt.cells, Pt.slots] at X' e1 e2 h1 h2 h3 st
    subst h1; subst h2; subst h3
    exact Or.inl ⟨v, (T.setVm vm₁).calling g' mk (Value.ref b :: As).toArray, t, U', L, hT, X', hL, e1, e2, hq, st⟩
  · dsimp only [Pt.U, Pt.locs, Pt.cells, Pt.slots] at X' e1 e2 h1 h2 h3 st hcl
    subst h1; subst h2; subst h3
    exact Or.inr ⟨q, (T.setVm vm₁).calling g' mk (Value.ref b :: As).toArray, t, U', L, E, ce, hT, X', hL, e1, e2, hq, hce, hcv, vx_cls hW₁ hcl, st⟩
theorem vx_runS (S : CallFix p m c cc nL s args Ts own) (hM : vx_Met l y ws rm Pc Qc XC mc ms free) (cw : CallB R s args own index y bytes maxL ret ws rm mc ms n ∧ (Cond.static y).before args s = true) (hp : PreS s H Pc As)
    (hg : g.method = m) (hn : As.length = n) (hsize : g.locals.size = nL) (hstack : g.stack = As.reverse ++ rest) (hW : 2 * g.monitorRoom + (rest.map fun v => v.category).sum ≤ 8) (hdg : decode cc g.pc = .ok (.invokestatic index, 3)) (hf : cells + mc ≤ R.cells ∧ slots + ms ≤ R.slots) :
    vx_Run p l e R s m args below meth c H locs cells slots mc ms g rest (Qc As.toArray) XC free := by
  have hK : vx_Back l R p e below s args y 3 8 (PreOf R mc ms Pc) (PostOf Qc mc ms free) (vx_Post XC mc ms free) := vx_callBack cw.1 hM hp.1
  obtain ⟨⟨-, -, -, -, -, -, hcode, hini, hy, hlen, hl⟩, hstt⟩ := cw
  obtain ⟨hx, hb, hml, ho, -⟩ := S
  intro T hT X
  rcases vx_callS X hx (bytes := bytes) (maxL := maxL) (ret := ret) ho hl hstt hini hcode hy hK hg (hsize.trans hml.symm) (argsL := As) (rest := rest) (fun sig h => hn.trans (hlen sig h)) hstack hW (by rw [hb]; exact hdg)
    (fun vm₁ hW₁ => ⟨hf.1, hf.2, hp.2 (T.setVm vm₁) hT hW₁⟩) with ⟨v, vm₁, ⟨U', l2, c2, s2⟩, hW₁, X', ⟨g', mk, t, L, e1, e2, hq, h1, hL, h2, h3⟩, st⟩ | ⟨q, vm₁, ⟨U', l2, c2, s2⟩, hW₁, X', ⟨g', mk, t, L, E, ce, e1, e2, hq, hce, hcv, hcl, h1, hL, h2, h3⟩, st⟩
  · dsimp only [Pt.U, Pt.locs, Pt.cells, Pt.slots] at X' e1 e2 h1 h2 h3 st
    subst h1; subst h2; subst h3
    exact Or.inl ⟨v, (T.setVm vm₁).calling g' mk As.toArray, t, U', L, hT, X', hL, e1, e2, hq, st⟩
  · dsimp only [Pt.U, Pt.locs, Pt.cells, Pt.slots] at X' e1 e2 h1 h2 h3 st hcl
    subst h1; subst h2; subst h3
    exact Or.inr ⟨q, (T.setVm vm₁).calling g' mk As.toArray, t, U', L, E, ce, hT, X', hL, e1, e2, hq, hce, hcv, vx_cls hW₁ hcl, st⟩
end Runs
section Rows
variable {p : Program} {l : Launch} {e : Env} {R : Room} {s : State} {m : MethodId} {args : Array Value} {below : List Frame} {meth : Method} {c : Code} {H : Heap} {locs : List Loc} {cells slots : Nat} {Q : State → Prop}
variable {mc ms : Nat} {free : Addr → Prop} {A0 A1 : Nat → Prop} {H0 : Heap} {a : Array Value} {pc : Nat} {ls : Array Slot} {st0 rest : List Value}
theorem vx_keep {st₀ t T' : State} {L : List Loc} (h0 : st₀.heap = H) (e1 : T'.heap = t.heap) (hS : va_S A0 H0 H locs) (hA : ∀ q, q < H.size → A1 q → A0 q) (hf : ∀ q, free q → A0 q) (hL : ∀ q ∈ L, free q.base) (hF : va_F A1 st₀ t) :
    H.size ≤ T'.heap.size ∧ (∀ q : Nat, q < H.size → ¬ A1 q → T'.heap[q]? = H[q]?) ∧ va_S A0 H0 T'.heap (locs ++ L) := by
  obtain ⟨hz, hk⟩ := hF
  rw [h0] at hz hk
  exact ⟨by rw [e1]; exact hz, fun q h1 h2 => by rw [e1]; exact hk q h1 h2,
    ⟨Nat.le_trans hS.1 (by rw [e1]; exact hz), fun q h1 h2 => by rw [e1, hk q (Nat.lt_of_lt_of_le h1 hS.1) (fun z => h2 (hA q (Nat.lt_of_lt_of_le h1 hS.1) z))]; exact hS.2.1 q h1 h2, fun q hq => by
      rcases List.mem_append.mp hq with h | h
      · exact hS.2.2 q h
      · exact hf _ (hL q h)⟩⟩
theorem vx_calli {S SX : Type} {post : Int32 → S → Prop} {px : SX → Prop} {B : S → State → Prop} {BX : String → SX → State → Prop} {AX : Nat → Prop} (hr : vx_Run p l e R s m args below meth c H locs cells slots mc ms (F0 m pc ls st0) rest (va_Qi post B A1 a) (vx_X px BX AX) free) (hS : va_S A0 H0 H locs) (hA : ∀ q, q < H.size → A1 q → A0 q) (hf : ∀ q, free q → A0 q) (hAX : ∀ q, q < H.size → AX q → A0 q)
    (kx : ∀ (E : String) (ce : Cell) (q9 : Addr) (u : SX) (t : State) (H1 : Heap) (locs1 : List Loc), t.heap = H1 → s.vm.Alike t.vm → px u → BX E u t → H.size ≤ H1.size → (∀ q : Nat, q < H.size → ¬ AX q → H1[q]? = H[q]?) → va_S A0 H0 H1 locs1 → H1[q9]? = some ce → ce.vm = .none → s.vm.findClass E = some ce.cls → vx_W p l e R s m args below meth c H1 locs1 (cells + mc) (slots + ms) Q (F0 m pc ls rest) q9)
    (kk : ∀ (r : Int32) (u : S) (t : State) (H1 : Heap) (locs1 : List Loc), t.heap = H1 → s.vm.Alike t.vm → post r u → B u t → H.size ≤ H1.size → (∀ q : Nat, q < H.size → ¬ A1 q → H1[q]? = H[q]?) → va_S A0 H0 H1 locs1 → W p l e R s m args below meth c H1 locs1 (cells + mc) (slots + ms) Q (F0 m (pc + 3) ls (.int r :: rest))) : W p l e R s m args below meth c H locs cells slots Q (F0 m pc ls st0) := by
  intro T hT X
  rcases hr T hT X with ⟨v, st₀, t, T', L, h0, X', hL, e1, e2, ⟨⟨r, u, hv, hp, hb⟩, hF⟩, st⟩ | ⟨q, st₀, t, T', L, E, ce, h0, X', hL, e1, e2, ⟨u, hp, hb, hF⟩, hce, hcv, hcl, st⟩
  · cases hv
    obtain ⟨k1, k2, k3⟩ := vx_keep h0 e1 hS hA hf hL hF
    obtain ⟨t2, a1, b1⟩ := kk r u t T'.heap (locs ++ L) e1.symm (by rw [← e2]; exact X'.warmed.alike) hp hb k1 k2 k3 T' rfl X'
    exact ⟨t2, st t2 a1, b1⟩
  · obtain ⟨k1, k2, k3⟩ := vx_keep h0 e1 hS hAX hf hL hF
    obtain ⟨t2, a1, b1⟩ := kx E ce q u t T'.heap (locs ++ L) e1.symm (by rw [← e2]; exact X'.warmed.alike) hp hb k1 k2 k3 (by rw [e1]; exact hce) hcv hcl T' rfl X'
    exact ⟨t2, st.trans a1, b1⟩
theorem vx_calll {S SX : Type} {post : Int64 → S → Prop} {px : SX → Prop} {B : S → State → Prop} {BX : String → SX → State → Prop} {AX : Nat → Prop} (hr : vx_Run p l e R s m args below meth c H locs cells slots mc ms (F0 m pc ls st0) rest (va_Ql post B A1 a) (vx_X px BX AX) free) (hS : va_S A0 H0 H locs) (hA : ∀ q, q < H.size → A1 q → A0 q) (hf : ∀ q, free q → A0 q) (hAX : ∀ q, q < H.size → AX q → A0 q)
    (kx : ∀ (E : String) (ce : Cell) (q9 : Addr) (u : SX) (t : State) (H1 : Heap) (locs1 : List Loc), t.heap = H1 → s.vm.Alike t.vm → px u → BX E u t → H.size ≤ H1.size → (∀ q : Nat, q < H.size → ¬ AX q → H1[q]? = H[q]?) → va_S A0 H0 H1 locs1 → H1[q9]? = some ce → ce.vm = .none → s.vm.findClass E = some ce.cls → vx_W p l e R s m args below meth c H1 locs1 (cells + mc) (slots + ms) Q (F0 m pc ls rest) q9)
    (kk : ∀ (r : Int64) (u : S) (t : State) (H1 : Heap) (locs1 : List Loc), t.heap = H1 → s.vm.Alike t.vm → post r u → B u t → H.size ≤ H1.size → (∀ q : Nat, q < H.size → ¬ A1 q → H1[q]? = H[q]?) → va_S A0 H0 H1 locs1 → W p l e R s m args below meth c H1 locs1 (cells + mc) (slots + ms) Q (F0 m (pc + 3) ls (.long r :: rest))) : W p l e R s m args below meth c H locs cells slots Q (F0 m pc ls st0) := by
  intro T hT X
  rcases hr T hT X with ⟨v, st₀, t, T', L, h0, X', hL, e1, e2, ⟨⟨r, u, hv, hp, hb⟩, hF⟩, st⟩ | ⟨q, st₀, t, T', L, E, ce, h0, X', hL, e1, e2, ⟨u, hp, hb, hF⟩, hce, hcv, hcl, st⟩
  · cases hv
    obtain ⟨k1, k2, k3⟩ := vx_keep h0 e1 hS hA hf hL hF
    obtain ⟨t2, a1, b1⟩ := kk r u t T'.heap (locs ++ L) e1.symm (by rw [← e2]; exact X'.warmed.alike) hp hb k1 k2 k3 T' rfl X'
    exact ⟨t2, st t2 a1, b1⟩
  · obtain ⟨k1, k2, k3⟩ := vx_keep h0 e1 hS hAX hf hL hF
    obtain ⟨t2, a1, b1⟩ := kx E ce q u t T'.heap (locs ++ L) e1.symm (by rw [← e2]; exact X'.warmed.alike) hp hb k1 k2 k3 (by rw [e1]; exact hce) hcv hcl T' rfl X'
    exact ⟨t2, st.trans a1, b1⟩
theorem vx_callf {S SX : Type} {post : UInt32 → S → Prop} {px : SX → Prop} {B : S → State → Prop} {BX : String → SX → State → Prop} {AX : Nat → Prop} (hr : vx_Run p l e R s m args below meth c H locs cells slots mc ms (F0 m pc ls st0) rest (va_Qf post B A1 a) (vx_X px BX AX) free) (hS : va_S A0 H0 H locs) (hA : ∀ q, q < H.size → A1 q → A0 q) (hf : ∀ q, free q → A0 q) (hAX : ∀ q, q < H.size → AX q → A0 q)
    (kx : ∀ (E : String) (ce : Cell) (q9 : Addr) (u : SX) (t : State) (H1 : Heap) (locs1 : List Loc), t.heap = H1 → s.vm.Alike t.vm → px u → BX E u t → H.size ≤ H1.size → (∀ q : Nat, q < H.size → ¬ AX q → H1[q]? = H[q]?) → va_S A0 H0 H1 locs1 → H1[q9]? = some ce → ce.vm = .none → s.vm.findClass E = some ce.cls → vx_W p l e R s m args below meth c H1 locs1 (cells + mc) (slots + ms) Q (F0 m pc ls rest) q9)
    (kk : ∀ (r : UInt32) (u : S) (t : State) (H1 : Heap) (locs1 : List Loc), t.heap = H1 → s.vm.Alike t.vm → post r u → B u t → H.size ≤ H1.size → (∀ q : Nat, q < H.size → ¬ A1 q → H1[q]? = H[q]?) → va_S A0 H0 H1 locs1 → W p l e R s m args below meth c H1 locs1 (cells + mc) (slots + ms) Q (F0 m (pc + 3) ls (.float r :: rest))) : W p l e R s m args below meth c H locs cells slots Q (F0 m pc ls st0) := by
  intro T hT X
  rcases hr T hT X with ⟨v, st₀, t, T', L, h0, X', hL, e1, e2, ⟨⟨r, u, hv, hp, hb⟩, hF⟩, st⟩ | ⟨q, st₀, t, T', L, E, ce, h0, X', hL, e1, e2, ⟨u, hp, hb, hF⟩, hce, hcv, hcl, st⟩
  · cases hv
    obtain ⟨k1, k2, k3⟩ := vx_keep h0 e1 hS hA hf hL hF
    obtain ⟨t2, a1, b1⟩ := kk r u t T'.heap (locs ++ L) e1.symm (by rw [← e2]; exact X'.warmed.alike) hp hb k1 k2 k3 T' rfl X'
    exact ⟨t2, st t2 a1, b1⟩
  · obtain ⟨k1, k2, k3⟩ := vx_keep h0 e1 hS hAX hf hL hF
    obtain ⟨t2, a1, b1⟩ := kx E ce q u t T'.heap (locs ++ L) e1.symm (by rw [← e2]; exact X'.warmed.alike) hp hb k1 k2 k3 (by rw [e1]; exact hce) hcv hcl T' rfl X'
    exact ⟨t2, st.trans a1, b1⟩
theorem vx_calld {S SX : Type} {post : UInt64 → S → Prop} {px : SX → Prop} {B : S → State → Prop} {BX : String → SX → State → Prop} {AX : Nat → Prop} (hr : vx_Run p l e R s m args below meth c H locs cells slots mc ms (F0 m pc ls st0) rest (va_Qd post B A1 a) (vx_X px BX AX) free) (hS : va_S A0 H0 H locs) (hA : ∀ q, q < H.size → A1 q → A0 q) (hf : ∀ q, free q → A0 q) (hAX : ∀ q, q < H.size → AX q → A0 q)
    (kx : ∀ (E : String) (ce : Cell) (q9 : Addr) (u : SX) (t : State) (H1 : Heap) (locs1 : List Loc), t.heap = H1 → s.vm.Alike t.vm → px u → BX E u t → H.size ≤ H1.size → (∀ q : Nat, q < H.size → ¬ AX q → H1[q]? = H[q]?) → va_S A0 H0 H1 locs1 → H1[q9]? = some ce → ce.vm = .none → s.vm.findClass E = some ce.cls → vx_W p l e R s m args below meth c H1 locs1 (cells + mc) (slots + ms) Q (F0 m pc ls rest) q9)
    (kk : ∀ (r : UInt64) (u : S) (t : State) (H1 : Heap) (locs1 : List Loc), t.heap = H1 → s.vm.Alike t.vm → post r u → B u t → H.size ≤ H1.size → (∀ q : Nat, q < H.size → ¬ A1 q → H1[q]? = H[q]?) → va_S A0 H0 H1 locs1 → W p l e R s m args below meth c H1 locs1 (cells + mc) (slots + ms) Q (F0 m (pc + 3) ls (.double r :: rest))) : W p l e R s m args below meth c H locs cells slots Q (F0 m pc ls st0) := by
  intro T hT X
  rcases hr T hT X with ⟨v, st₀, t, T', L, h0, X', hL, e1, e2, ⟨⟨r, u, hv, hp, hb⟩, hF⟩, st⟩ | ⟨q, st₀, t, T', L, E, ce, h0, X', hL, e1, e2, ⟨u, hp, hb, hF⟩, hce, hcv, hcl, st⟩
  · cases hv
    obtain ⟨k1, k2, k3⟩ := vx_keep h0 e1 hS hA hf hL hF
    obtain ⟨t2, a1, b1⟩ := kk r u t T'.heap (locs ++ L) e1.symm (by rw [← e2]; exact X'.warmed.alike) hp hb k1 k2 k3 T' rfl X'
    exact ⟨t2, st t2 a1, b1⟩
  · obtain ⟨k1, k2, k3⟩ := vx_keep h0 e1 hS hAX hf hL hF
    obtain ⟨t2, a1, b1⟩ := kx E ce q u t T'.heap (locs ++ L) e1.symm (by rw [← e2]; exact X'.warmed.alike) hp hb k1 k2 k3 (by rw [e1]; exact hce) hcv hcl T' rfl X'
    exact ⟨t2, st.trans a1, b1⟩
theorem vx_callv {S SX : Type} {post : S → Prop} {px : SX → Prop} {B : S → State → Prop} {BX : String → SX → State → Prop} {AX : Nat → Prop} (hr : vx_Run p l e R s m args below meth c H locs cells slots mc ms (F0 m pc ls st0) rest (va_Qv post B A1 a) (vx_X px BX AX) free) (hS : va_S A0 H0 H locs) (hA : ∀ q, q < H.size → A1 q → A0 q) (hf : ∀ q, free q → A0 q) (hAX : ∀ q, q < H.size → AX q → A0 q)
    (kx : ∀ (E : String) (ce : Cell) (q9 : Addr) (u : SX) (t : State) (H1 : Heap) (locs1 : List Loc), t.heap = H1 → s.vm.Alike t.vm → px u → BX E u t → H.size ≤ H1.size → (∀ q : Nat, q < H.size → ¬ AX q → H1[q]? = H[q]?) → va_S A0 H0 H1 locs1 → H1[q9]? = some ce → ce.vm = .none → s.vm.findClass E = some ce.cls → vx_W p l e R s m args below meth c H1 locs1 (cells + mc) (slots + ms) Q (F0 m pc ls rest) q9)
    (kk : ∀ (u : S) (t : State) (H1 : Heap) (locs1 : List Loc), t.heap = H1 → s.vm.Alike t.vm → post u → B u t → H.size ≤ H1.size → (∀ q : Nat, q < H.size → ¬ A1 q → H1[q]? = H[q]?) → va_S A0 H0 H1 locs1 → W p l e R s m args below meth c H1 locs1 (cells + mc) (slots + ms) Q (F0 m (pc + 3) ls (rest))) : W p l e R s m args below meth c H locs cells slots Q (F0 m pc ls st0) := by
  intro T hT X
  rcases hr T hT X with ⟨v, st₀, t, T', L, h0, X', hL, e1, e2, ⟨⟨u, hv, hp, hb⟩, hF⟩, st⟩ | ⟨q, st₀, t, T', L, E, ce, h0, X', hL, e1, e2, ⟨u, hp, hb, hF⟩, hce, hcv, hcl, st⟩
  · cases hv
    obtain ⟨k1, k2, k3⟩ := vx_keep h0 e1 hS hA hf hL hF
    obtain ⟨t2, a1, b1⟩ := kk u t T'.heap (locs ++ L) e1.symm (by rw [← e2]; exact X'.warmed.alike) hp hb k1 k2 k3 T' rfl X'
    exact ⟨t2, st t2 a1, b1⟩
  · obtain ⟨k1, k2, k3⟩ := vx_keep h0 e1 hS hAX hf hL hF
    obtain ⟨t2, a1, b1⟩ := kx E ce q u t T'.heap (locs ++ L) e1.symm (by rw [← e2]; exact X'.warmed.alike) hp hb k1 k2 k3 (by rw [e1]; exact hce) hcv hcl T' rfl X'
    exact ⟨t2, st.trans a1, b1⟩
/-- caught by the row x of this method's table; the rows ahead don't take it -/
theorem vx_catch {own name : String} {E : String} {ce : Cell} {q : Addr} (hown : s.vm.findClass own = some m.cls) (pre : List ExceptionTableEntry) (x : ExceptionTableEntry) (suf : List ExceptionTableEntry) (hsplit : c.exceptionTable.toList = pre ++ x :: suf)
    (hpass : ∀ z ∈ pre, covers z pc = false ∨ (z.catchType ≠ 0 ∧ ∃ nm : String, (Cond.classLink own z.catchType nm).before args s = true ∧ va_Nc E nm s)) (hx : covers x pc = true) (h0 : x.catchType ≠ 0)
    (hlink : (Cond.classLink own x.catchType name).before args s = true) (hcast : (Cond.castable E name).before args s = true) (hcell : H[q]? = some ce) (hv : ce.vm = .none) (hcl : s.vm.findClass E = some ce.cls)
    (kk : W p l e R s m args below meth c H locs cells slots Q (F0 m x.handlerPc ls [.ref q])) : vx_W p l e R s m args below meth c H locs cells slots Q (F0 m pc ls rest) q := by
  intro T hT X
  have hpl : e.platform.magicAccessors = ({} : Platform).magicAccessors := by rw [X.admits.platform]
  obtain ⟨c3, c4, hc3, hc4, hasg⟩ := Cond.castable_spec hcast
  cases Option.some.inj (hc3.symm.trans hcl)
  obtain ⟨c5, hc5, hcl5⟩ := Cond.classLink_spec hown hlink e.platform hpl
  cases Option.some.inj (hc4.symm.trans hc5)
  obtain ⟨vm', X', st⟩ := X.thenCaughtThrough q (g := F0 m pc ls rest) rfl (Steps.refl _) (by rw [hT]; exact hcell) (by rw [hv]; rfl) (by obtain ⟨k9, h9, -⟩ := Vm.findClass_spec hcl; exact ⟨k9, h9⟩) pre x suf hsplit
    (fun z hz => by
      rcases hpass z hz with h | ⟨hz0, nm, hl1, hn1⟩
      · exact Or.inl h
      · obtain ⟨c6, hc6, hcl6⟩ := Cond.classLink_spec hown hl1 e.platform hpl
        obtain ⟨a8, b8, h1, h2, h3⟩ := hn1
        cases Option.some.inj (h1.symm.trans hcl)
        cases Option.some.inj (h2.symm.trans hc6)
        exact Or.inr ⟨hz0, _, hcl6, h3⟩) hx (Or.inr ⟨h0, c4, hcl5, hasg⟩)
  obtain ⟨t, a1, b1⟩ := kk (T.setVm vm') hT X'
  exact ⟨t, st.trans a1, b1⟩
end Rows
section Ends
variable {p : Program} {l : Launch} {e : Env} {R : Room} {s : State} {m : MethodId} {args : Array Value} {below : List Frame} {meth : Method} {c : Code} {H : Heap} {locs : List Loc} {cells slots : Nat} {Q : State → Prop}
variable {mc ms : Nat} {free : Addr → Prop} {A0 A1 : Nat → Prop} {H0 : Heap} {a : Array Value} {ls : Array Slot} {st0 rest : List Value}
variable {Qc : Array Value → State → Outcome → State → Prop} {XC : String → State → State → Prop}
/-- what a body that may throw owes at its end -/
def vx_MQ (below : List Frame) (Qc : Array Value → State → Outcome → State → Prop) (XC : String → State → State → Prop) (a : Array Value) (s : State) (mc ms : Nat) (free : Addr → Prop) : State → Prop := fun t =>
  ∃ o, t.status = .running ∧ Ended t below o ∧ vx_Q Qc XC mc ms free a s o t
theorem vx_ret {g : JFrame} {mc ms : Nat} (k : W p l e R s m args below meth c H locs cells slots (MQ below Qc args s mc ms free) g) : W p l e R s m args below meth c H locs cells slots (vx_MQ below Qc XC args s mc ms free) g := by
  intro T hT X
  obtain ⟨t, a1, o, b1, b2, b3, b4⟩ := k T hT X
  exact ⟨t, a1, o, b1, b2, Or.inl ⟨b3, b4⟩⟩
/-- not caught here: it goes on to the caller -/
theorem vx_widen {g : JFrame} {q : Addr} {k n : Nat} (h1 : cells ≤ k) (h2 : slots ≤ n) (kk : vx_W p l e R s m args below meth c H locs k n Q g q) : vx_W p l e R s m args below meth c H locs cells slots Q g q := fun T hT X => kk T hT (stand_widen X h1 h2)
theorem vx_out {pc : Nat} {E : String} {ce : Cell} {q : Addr} {mc ms : Nat} (hout : ∀ x ∈ c.exceptionTable.toList, covers x pc = false) (hlocks : meth.locks = false) (hcell : H[q]? = some ce) (hv : ce.vm = .none) (hcl : s.vm.findClass E = some ce.cls)
    (hx : ∀ t : State, t.heap = H → s.vm.Alike t.vm → XC E s t) (hf : ∀ z ∈ locs, free z.base) (hc : cells ≤ mc) (hs : slots ≤ ms) :
    vx_W p l e R s m args below meth c H locs cells slots (vx_MQ below Qc XC args s mc ms free) (F0 m pc ls rest) q := by
  intro T hT X
  obtain ⟨st1, hrun, hend, hW, hsm⟩ := X.leaveThrown q (g := F0 m pc ls rest) rfl rfl rfl hout hlocks
  have hcell9 : (T.setFrames (.throwing q :: below)).heap[q]? = some ce := by
    show T.heap[q]? = some ce
    rw [hT]; exact hcell
  exact ⟨_, st1, .threw q, hrun, hend, Or.inr ⟨q, rfl, E, ce, locs, hx _ hT hW.alike, hcell9, hv, hcl, hW, hsm.mono hc hs, hf⟩⟩
theorem vx_frame {U : State} {k n : Nat} (h : s.sameButNew ({ U with vm := s.vm } : State) locs k n) : s.heap.size ≤ U.heap.size ∧ ∀ q : Nat, q < s.heap.size → (∀ z ∈ locs, z.base ≠ q) → U.heap[q]? = s.heap[q]? := by
  obtain ⟨-, h2, -, -, -, h6⟩ := h
  refine ⟨h2, fun q hq hz => ?_⟩
  obtain ⟨c9, e1, e2, e3, e4⟩ := h6 q _ (Array.getElem?_eq_getElem hq)
  have hs : c9.slots = (s.heap[q]).slots := Array.ext_getElem? fun i => e4 i fun hm => hz _ hm rfl
  have h9 : c9 = s.heap[q] := by
    rw [hs] at e2
    exact e2
  have e5 : U.heap[q]? = some c9 := e1
  rw [e5, h9, Array.getElem?_eq_getElem hq]
/-- the words of a throw but the four that speak of the heap -/
def vx_no (w : Cond) : Bool := decide (w ≠ .isRef (.static Bundle.tN "UNASSIGNED_STACK" Bundle.steD)) && decide (w ≠ .isRef (.static Bundle.tN "SUPPRESSED_SENTINEL" Bundle.listD)) && decide (w ≠ .laysStatic Bundle.tN "UNASSIGNED_STACK" Bundle.steD) && decide (w ≠ .laysStatic Bundle.tN "SUPPRESSED_SENTINEL" Bundle.listD)
def vx_at0 (own : String) (ic : Nat) (X : String) (names : List String) : List Cond := (Bundle.ownAtoms0 own ic X names).filter vx_no
def vx_atS (own : String) (ic : Nat) (X : String) (names : List String) : List Cond := (Bundle.ownAtoms own ic X names).filter vx_no
/-- a word that the tables alone decide, or a good one -/
def vx_ot (w : Cond) : Bool := w.onTables || goodWord w
theorem vx_ot_at {args a' : Array Value} {s U : State} {w : Cond} (hW : s.WarmedH U.vm) (hvm : s.vm = U.vm) (hg : vx_ot w = true) (h : w.before args s = true) : w.before a' U = true := by
  simp only [vx_ot, Bool.or_eq_true] at hg
  rcases hg with hg | hg
  · exact va_tabs hg hvm h
  · exact word_at hW (good_of_word hg) h
/-- a list's words: the good ones out of the method's own list, the others by premises of their own -/
theorem vx_hat {args : Array Value} {s : State} {L B : List Cond} (h1 : ∀ w ∈ L.filter goodWord, w.before args s = true) (h2 : ∀ w ∈ L.filter (fun w => !goodWord w), w ∈ B) (h3 : ∀ w ∈ B, w.before args s = true) : ∀ w ∈ L, w.before args s = true := by
  intro w hw
  by_cases g : goodWord w = true
  · exact h1 w (List.mem_filter.mpr ⟨hw, g⟩)
  · refine h3 w (h2 w (List.mem_filter.mpr ⟨hw, ?_⟩))
    show (!goodWord w) = true
    cases hgw : goodWord w
    · rfl
    · exact absurd hgw g
theorem vx_c {args : Array Value} {s : State} {w : Cond} {B : List Cond} (h : w.before args s = true) (t : ∀ w ∈ B, w.before args s = true) : ∀ w' ∈ w :: B, w'.before args s = true := fun w' h' => (List.mem_cons.mp h').elim (fun e => by rw [e]; exact h) (t w')
theorem vx_n {args : Array Value} {s : State} : ∀ w ∈ ([] : List Cond), w.before args s = true := fun _ h => nomatch h
theorem vx_own {args : Array Value} {s : State} {L : List Cond} (h1 : ∀ w ∈ L.filter vx_no, w.before args s = true)
    (hU : (Cond.isRef (.static Bundle.tN "UNASSIGNED_STACK" Bundle.steD)).before args s = true) (hN : (Cond.isRef (.static Bundle.tN "SUPPRESSED_SENTINEL" Bundle.listD)).before args s = true)
    (lU : (Cond.laysStatic Bundle.tN "UNASSIGNED_STACK" Bundle.steD).before args s = true) (lN : (Cond.laysStatic Bundle.tN "SUPPRESSED_SENTINEL" Bundle.listD).before args s = true) : ∀ w ∈ L, w.before args s = true := by
  intro w hw
  by_cases e1 : w = .isRef (.static Bundle.tN "UNASSIGNED_STACK" Bundle.steD)
  · rw [e1]; exact hU
  · by_cases e2 : w = .isRef (.static Bundle.tN "SUPPRESSED_SENTINEL" Bundle.listD)
    · rw [e2]; exact hN
    · by_cases e3 : w = .laysStatic Bundle.tN "UNASSIGNED_STACK" Bundle.steD
      · rw [e3]; exact lU
      · by_cases e4 : w = .laysStatic Bundle.tN "SUPPRESSED_SENTINEL" Bundle.listD
        · rw [e4]; exact lN
        · exact h1 w (List.mem_filter.mpr ⟨hw, by unfold vx_no; rw [decide_eq_true e1, decide_eq_true e2, decide_eq_true e3, decide_eq_true e4]; rfl⟩)
/-- where a static field lies, its class's statics cell in H -/
def vx_L (C n d : String) (A : Nat → Prop) (U : State) (H : Heap) : Prop := ∃ (c : ClassId) (k : Class) (i : Nat) (f : Field) (a : Nat) (cell : Cell), U.vm.findClass C = some c ∧ U.fieldFound? C n d = some (c, k, i, f) ∧ f.isStatic = true ∧ k.statics = some a ∧ H[a]? = some cell ∧ cell.vm.isStatics = true ∧ cell.cls = c ∧ f.slot < cell.slots.size ∧ k.staticTypes[f.slot]? = some f.type ∧ ¬ A a
theorem vx_L.moved {C n d : String} {A : Nat → Prop} {u U : State} {H : Heap} (hvm : u.vm.Alike U.vm) (h : vx_L C n d A u H) : vx_L C n d A U H := by
  obtain ⟨c, k, i, f, a, cell, h1, h2, h3, h4, h5, h6, h7, h8, h9, h10⟩ := h
  obtain ⟨k', hi', he⟩ := State.fieldFound?_setVm hvm h2
  exact ⟨c, k', i, f, a, cell, by rw [hvm.findClass]; exact h1, hi', h3, by rw [he]; exact h4, h5, h6, h7, h8, by rw [he]; exact h9, h10⟩
theorem vx_L.kept {C n d : String} {A : Nat → Prop} {U : State} {H H1 : Heap} (h : vx_L C n d A U H) (hq : ∀ a : Nat, a < H.size → ¬ A a → H1[a]? = H[a]?) : vx_L C n d A U H1 := by
  obtain ⟨c, k, i, f, a, cell, h1, h2, h3, h4, h5, h6, h7, h8, h9, h10⟩ := h
  exact ⟨c, k, i, f, a, cell, h1, h2, h3, h4, by rw [hq a (Array.getElem?_eq_some_iff.mp h5).1 h10]; exact h5, h6, h7, h8, h9, h10⟩
theorem vx_L.narrow {C n d : String} {A B : Nat → Prop} {U : State} {H : Heap} (h : vx_L C n d A U H) (hAB : ∀ q, B q → A q) : vx_L C n d B U H := by
  obtain ⟨c, k, i, f, a, cell, h1, h2, h3, h4, h5, h6, h7, h8, h9, h10⟩ := h
  exact ⟨c, k, i, f, a, cell, h1, h2, h3, h4, h5, h6, h7, h8, h9, fun z => h10 (hAB _ z)⟩
theorem vx_L.word {C n d : String} {A : Nat → Prop} {s : State} {args : Array Value} (h : vx_L C n d A s s.heap) : (Cond.laysStatic C n d).before args s = true := by
  obtain ⟨c, k, i, f, a, cell, h1, h2, h3, h4, h5, h6, h7, h8, h9, -⟩ := h
  show (Cond.laysStatic C n d).holds args s none s [] = true
  exact Cond.laysStatic_of h1 h2 h3 h4 h5 h6 h7 h8 h9
/-- .. and what it holds: null or some reference -/
def vx_Zq (C n d : String) (A : Nat → Prop) (U : State) (H : Heap) : Prop := va_Zq C n d A U H ∧ vx_L C n d A U H
theorem vx_Zq.moved {C n d : String} {A : Nat → Prop} {u U : State} {H : Heap} (hvm : u.vm.Alike U.vm) (h : vx_Zq C n d A u H) : vx_Zq C n d A U H := ⟨va_Zq.moved hvm h.1, vx_L.moved hvm h.2⟩
theorem vx_Zq.kept {C n d : String} {A : Nat → Prop} {U : State} {H H1 : Heap} (h : vx_Zq C n d A U H) (hq : ∀ a : Nat, a < H.size → ¬ A a → H1[a]? = H[a]?) : vx_Zq C n d A U H1 := ⟨va_Zq.kept h.1 hq, vx_L.kept h.2 hq⟩
theorem vx_Zq.narrow {C n d : String} {A B : Nat → Prop} {U : State} {H : Heap} (h : vx_Zq C n d A U H) (hAB : ∀ q, B q → A q) : vx_Zq C n d B U H := ⟨va_Zq.narrow h.1 hAB, vx_L.narrow h.2 hAB⟩
theorem vx_Zqof {args : Array Value} {s : State} {C n d : String} {A : Nat → Prop} (hl : (Cond.laysStatic C n d).before args s = true) (hini : (Cond.initialized C).before args s = true) (h : (Cond.isRef (.static C n d)).before args s = true) (hA : ∀ a : Nat, a < s.heap.size → ¬ A a) : vx_Zq C n d A s s.heap := by
  refine ⟨va_Zqof hl hini h hA, ?_⟩
  obtain ⟨c, k, i, f, a, cell, h1, h2, h3, h4, h5, h6, h7, h8, h9⟩ := Cond.laysStatic_spec hl
  exact ⟨c, k, i, f, a, cell, h1, h2, h3, h4, h5, h6, h7, h8, h9, hA a (Array.getElem?_eq_some_iff.mp h5).1⟩
theorem vx_isRef {C n d : String} {v : Value} {A : Nat → Prop} {s : State} {args : Array Value} (h : va_Z C n d v A s s.heap) (hv : v.isRef = true) : (Cond.isRef (.static C n d)).before args s = true := by
  obtain ⟨cf, kf, fi, f, a, cell, h1, h2, h3, h4, h5, h6, h7, -⟩ := h
  have he : (Term.static C n d).eval args s none [] s = some v := by
    simp [Term.eval, State.fieldNamed?, h1, h2, h4, h5, h6, h7]
  simp only [Cond.before, Cond.holds, Cond.value, he]
  cases v <;> simp_all [Value.isRef]
theorem vx_isRefq {C n d : String} {A : Nat → Prop} {s : State} {args : Array Value} (h : va_Zq C n d A s s.heap) : (Cond.isRef (.static C n d)).before args s = true := by
  rcases h with h | ⟨t, h⟩
  · exact vx_isRef h rfl
  · exact vx_isRef h rfl
/-- the same frame, seen from here: as if the method were called anew in this heap -/
theorem vx_rebase {T : State} (X : Stand p l e R s m args below meth c T locs cells slots) {R' : Room} (hf : R'.frames ≤ R.frames) (hl : R'.locals ≤ R.locals) (hc : cells + R'.cells ≤ R.cells) (hs : slots + R'.slots ≤ R.slots) :
    Stand p l e R' ((T.setVm s.vm).setFrames (.invoking m args :: below)) m args below meth c T [] 0 0 := by
  have htop : (T.setVm s.vm).topJava?.isSome := X.here.top
  have hF : ((T.setVm s.vm).setFrames (.invoking m args :: below)).frames = .invoking m args :: below := State.frames_setFrames _ (State.cur_lt_of_top htop)
  obtain ⟨g₀, hg0⟩ := Option.isSome_iff_exists.mp htop
  obtain ⟨r, hr⟩ := State.topJava?_eq_some.mp hg0
  have hl9 : e.platform.stackLimits (T.setVm s.vm).me = e.platform.stackLimits s.me := X.limits
  have hb9 : (T.setVm s.vm).me.stackBytes = s.me.stackBytes := X.bytes
  refine ⟨X.admits, X.cas, X.clock, hF, ?_, X.hears, X.method, X.code, X.here, X.tail, X.warmed, ?_, ?_, ?_⟩
  · have h := X.room
    have hU : ((T.setVm s.vm).setFrames (.invoking m args :: below)).localsInUse = s.localsInUse := by
      rw [State.localsInUse_invoking hF (meth := meth) (c := c) X.method X.code, State.localsInUse_invoking X.frames X.method X.code]
    simp only [State.hasRoom, Bool.and_eq_true, decide_eq_true_eq] at h ⊢
    obtain ⟨⟨⟨⟨h1, h2, h3, h4, h5, h6⟩, h7⟩, h8⟩, h9⟩ := h
    rw [X.frames, List.length_cons] at h2 h3
    have q1 := X.heapSize
    have q2 := X.used
    simp only [hF, hU, List.length_cons, State.stackLimits_setFrames, State.stackBytes_setFrames, hl9, hb9]
    refine ⟨⟨⟨⟨by omega, by omega, by omega, by omega, by omega, h6⟩, ?_⟩, ?_⟩, X.book⟩
    · show T.heap.size + R'.cells ≤ e.platform.maxCells
      omega
    · show T.slotsUsed + R'.slots ≤ e.platform.maxSlots
      omega
  · rw [State.stackLimits_setFrames]; rfl
  · rw [State.stackBytes_setFrames]; rfl
  · refine ⟨?_, Nat.le_refl _, Nat.le_refl _, ?_, ?_, fun a c9 h9 => ⟨c9, h9, rfl, rfl, fun _ _ => rfl⟩⟩
    · obtain ⟨t, ht, -⟩ := State.frames_cons hr
      show T.setVm s.vm = { ((T.setVm s.vm).setFrames (.invoking m args :: below)).setFrames (T.setVm s.vm).frames with heap := T.heap, slotsUsed := T.slotsUsed }
      rw [State.setFrames_setFrames, State.setFrames_self ht]
      rfl
    · show T.slotsUsed = T.slotsUsed + ((T.heap.toList.drop T.heap.size).map (·.slots.size)).sum
      rw [List.drop_eq_nil_of_le (Nat.le_of_eq Array.length_toList)]
      rfl
    · show ((T.heap.toList.drop T.heap.size).map (·.slots.size)).sum ≤ 0
      rw [List.drop_eq_nil_of_le (Nat.le_of_eq Array.length_toList)]
      exact Nat.le_refl _
/-- 'throw new E()': new; dup; invokespecial; athrow -/
theorem vx_throw0 {cc : ByteArray} {pc : Nat} (hexec : p.tables.exec = Jvm.exec) (hb : c.code = cc) (hl : l.stackTraces = false) {own cls : String} {names : List String} {ik ic mc ms : Nat} {A : Nat → Prop}
    (hown : s.vm.findClass own = some m.cls) (hcls : Bundle.fit cls = true) (hnames : ∀ n ∈ names, Bundle.fit n = true)
    (hk : (Cond.classLink own ik cls).before args s = true) (hini : (Cond.initialized cls).before args s = true) (hat : ∀ w ∈ vx_at0 own ic cls names, w.before args s = true)
    (hgood : ∀ w ∈ Cond.classLink own ik cls :: Cond.initialized cls :: vx_at0 own ic cls names, vx_ot w = true)
    (hU : vx_Zq Bundle.tN "UNASSIGNED_STACK" Bundle.steD A s s.heap) (hN : vx_Zq Bundle.tN "SUPPRESSED_SENTINEL" Bundle.listD A s s.heap) (hS : va_S A s.heap H locs) (hsize : ls.size = c.maxLocals)
    (d0 : decode cc pc = .ok (.new ik, 3)) (d3 : decode cc (pc + 3) = .ok (.dup, 1)) (d4 : decode cc (pc + 4) = .ok (.invokespecial ic, 3)) (d7 : decode cc (pc + 7) = .ok (.athrow, 1))
    (hout : ∀ x ∈ c.exceptionTable.toList, covers x (pc + 7) = false)
    (hRframes : names.length + 3 < R.frames) (hRlocals : (rest.map fun v => v.category).sum + (13 * (names.length + 1) + 42) ≤ R.locals) (hRcells : cells + 1 ≤ R.cells) (hRslots : slots + 6 ≤ R.slots) (hlocks : meth.locks = false)
    (hx : ∀ t : State, s.vm.Alike t.vm → H.size ≤ t.heap.size → (∀ q : Nat, q < H.size → t.heap[q]? = H[q]?) → XC cls s t)
    (hf : ∀ z ∈ locs, free z.base) (hc : cells + 1 ≤ mc) (hs : slots + 6 ≤ ms) :
    W p l e R s m args below meth c H locs cells slots (vx_MQ below Qc XC args s mc ms free) (F0 m pc ls rest) := by
  intro T hT X
  have htr : e.platform.stackTraces = false := (show e.platform.stackTraces = l.stackTraces by rw [X.admits.platform]).trans hl
  have Y := vx_rebase X (R' := { frames := R.frames, locals := R.locals, cells := 1, slots := 6 }) (Nat.le_refl _) (Nat.le_refl _) hRcells hRslots
  obtain ⟨s', hA⟩ : ∃ z, z = (T.setVm s.vm).setFrames (.invoking m args :: below) := ⟨_, rfl⟩
  rw [← hA] at Y
  have hvm : s'.vm = s.vm := by rw [hA]; rfl
  have hhp : s'.heap = H := by rw [hA]; exact hT
  have hW0 : s.WarmedH s'.vm := by rw [hvm]; exact State.WarmedH.refl s
  have hat' : ∀ w ∈ vx_at0 own ic cls names, w.before args s' = true := fun w hw => vx_ot_at hW0 hvm.symm (hgood w (List.mem_cons_of_mem _ (List.mem_cons_of_mem _ hw))) (hat w hw)
  have hk' : (Cond.classLink own ik cls).before args s' = true := vx_ot_at hW0 hvm.symm (hgood _ List.mem_cons_self) hk
  have hini' : (Cond.initialized cls).before args s' = true := vx_ot_at hW0 hvm.symm (hgood _ (List.mem_cons_of_mem _ List.mem_cons_self)) hini
  have hU' : vx_Zq Bundle.tN "UNASSIGNED_STACK" Bundle.steD A s' s'.heap := by rw [hhp]; exact vx_Zq.moved hW0.alike (hU.kept hS.2.1)
  have hN' : vx_Zq Bundle.tN "SUPPRESSED_SENTINEL" Bundle.listD A s' s'.heap := by rw [hhp]; exact vx_Zq.moved hW0.alike (hN.kept hS.2.1)
  have h : ∀ w ∈ Bundle.ownAtoms0 own ic cls names, w.before args s' = true := vx_own hat' (vx_isRefq hU'.1) (vx_isRefq hN'.1) hU'.2.word hN'.2.word
  have hown' : s'.vm.findClass own = some m.cls := by rw [hvm]; exact hown
  have hins : (Cond.instantiable cls 6).before args s' = true := h _ (by simp [Bundle.ownAtoms0])
  obtain ⟨vm₁, cX, kX, hfX, hkX, -, -, X₁, st1⟩ := Y.newCold hexec (own := own) (C := cls) (index := ik) (n := 6) hown' hk' hins hini'
    (g := F0 m pc ls rest) rfl (by rw [hb]; exact d0) (Nat.le_refl _) (Nat.le_refl _)
  generalize hT1 : (T.setVm vm₁).pushCell { cls := cX, slots := kX.instanceTypes.map defaultValue, vm := .none } = T1 at X₁ st1
  have hcat : (Value.ref T.heap.size).category = 1 := rfl
  have hcellA : T1.heap[T.heap.size]? = some (freshCell cX kX) := by rw [← hT1]; exact State.heap_pushCell_size _ _
  have d3' : decode c.code (pc + 3) = .ok (.dup, 1) := by rw [hb]; exact d3
  obtain ⟨U, hsteps, hrun, hend, hW, hsame, ce, hce, hO⟩ := X₁.ctorThrow0 hexec htr (own := own) (cls := cls) (names := names) (ic := ic) hown' hcls hnames h (fun x hx => nomatch hx) hfX hkX hcellA (by rw [hhp, hT]; exact Nat.le_refl _)
    (g := { method := m, pc := pc + 4, locals := ls, stack := .ref T.heap.size :: .ref T.heap.size :: rest, locked := none }) rfl hsize rfl rfl (rest := rest) rfl
    (by rw [hb]; exact d4) (by rw [hb]; exact d7) hout hRframes (by simp only [List.map_cons, List.sum_cons, hcat]; omega) hlocks
  obtain ⟨f1, f2⟩ := vx_frame hsame
  rw [hhp] at f1 f2
  have hWs : s.WarmedH U.vm := State.WarmedH.trans hW0 hW
  have hcl : s.vm.findClass cls = some ce.cls := by
    have h9 := hO.cls
    rw [hvm] at h9
    exact h9
  have hall : s.sameButNew ({ U with vm := s.vm } : State) locs mc ms := by
    subst hA
    obtain ⟨e1, e2⟩ := hsame
    rw [State.setFrames_setFrames] at e1
    have h2 : (T.setVm s.vm).sameButNew ({ U with vm := s.vm } : State) [] (0 + 1) (0 + 6) := ⟨e1, e2⟩
    have h3 := X.same.trans h2
    rw [List.append_nil] at h3
    exact h3.mono hc hs
  refine ⟨U, ?_, .threw T.heap.size, hrun, hend, Or.inr ⟨T.heap.size, rfl, cls, ce, locs, hx U hWs.alike f1 (fun q hq => f2 q hq (fun z hz => nomatch hz)), hce, hO.vm, hcl, hWs, hall, hf⟩⟩
  refine st1 _ ?_
  show Steps p.tables e below (T1.setTop { method := m, pc := pc + 3, locals := ls, stack := .ref T.heap.size :: rest, locked := none }) _
  jvm_step X₁.here [X₁.here.top, hexec, d3', Value.category]
  exact hsteps
/-- 'throw new E("text")': new; dup; ldc; invokespecial; athrow -/
theorem vx_throwS {cc : ByteArray} {pc : Nat} (hexec : p.tables.exec = Jvm.exec) (hb : c.code = cc) (hl : l.stackTraces = false) {own cls text : String} {names : List String} {ik is ic mc ms sa : Nat} {A : Nat → Prop}
    (hown : s.vm.findClass own = some m.cls) (hcls : Bundle.fit cls = true) (hnames : ∀ n ∈ names, Bundle.fit n = true)
    (hk : (Cond.classLink own ik cls).before args s = true) (hini : (Cond.initialized cls).before args s = true) (hstr : vk_R own is text sa s) (hat : ∀ w ∈ vx_atS own ic cls names, w.before args s = true)
    (hgood : ∀ w ∈ Cond.classLink own ik cls :: Cond.initialized cls :: vx_atS own ic cls names, vx_ot w = true)
    (hU : vx_Zq Bundle.tN "UNASSIGNED_STACK" Bundle.steD A s s.heap) (hN : vx_Zq Bundle.tN "SUPPRESSED_SENTINEL" Bundle.listD A s s.heap) (hS : va_S A s.heap H locs) (hsize : ls.size = c.maxLocals)
    (d0 : decode cc pc = .ok (.new ik, 3)) (d3 : decode cc (pc + 3) = .ok (.dup, 1)) (d4 : decode cc (pc + 4) = .ok (.ldc is, 2)) (d6 : decode cc (pc + 6) = .ok (.invokespecial ic, 3)) (d9 : decode cc (pc + 9) = .ok (.athrow, 1))
    (hout : ∀ x ∈ c.exceptionTable.toList, covers x (pc + 9) = false)
    (hRframes : names.length + 3 < R.frames) (hRlocals : (rest.map fun v => v.category).sum + (13 * (names.length + 1) + 43) ≤ R.locals) (hRcells : cells + 1 ≤ R.cells) (hRslots : slots + 6 ≤ R.slots) (hlocks : meth.locks = false)
    (hx : ∀ t : State, s.vm.Alike t.vm → H.size ≤ t.heap.size → (∀ q : Nat, q < H.size → t.heap[q]? = H[q]?) → XC cls s t)
    (hf : ∀ z ∈ locs, free z.base) (hc : cells + 1 ≤ mc) (hs : slots + 6 ≤ ms) :
    W p l e R s m args below meth c H locs cells slots (vx_MQ below Qc XC args s mc ms free) (F0 m pc ls rest) := by
  intro T hT X
  have htr : e.platform.stackTraces = false := (show e.platform.stackTraces = l.stackTraces by rw [X.admits.platform]).trans hl
  have Y := vx_rebase X (R' := { frames := R.frames, locals := R.locals, cells := 1, slots := 6 }) (Nat.le_refl _) (Nat.le_refl _) hRcells hRslots
  obtain ⟨s', hA⟩ : ∃ z, z = (T.setVm s.vm).setFrames (.invoking m args :: below) := ⟨_, rfl⟩
  rw [← hA] at Y
  have hvm : s'.vm = s.vm := by rw [hA]; rfl
  have hhp : s'.heap = H := by rw [hA]; exact hT
  have hW0 : s.WarmedH s'.vm := by rw [hvm]; exact State.WarmedH.refl s
  have hat' : ∀ w ∈ vx_atS own ic cls names, w.before args s' = true := fun w hw => vx_ot_at hW0 hvm.symm (hgood w (List.mem_cons_of_mem _ (List.mem_cons_of_mem _ hw))) (hat w hw)
  have hk' : (Cond.classLink own ik cls).before args s' = true := vx_ot_at hW0 hvm.symm (hgood _ List.mem_cons_self) hk
  have hini' : (Cond.initialized cls).before args s' = true := vx_ot_at hW0 hvm.symm (hgood _ (List.mem_cons_of_mem _ List.mem_cons_self)) hini
  have hU' : vx_Zq Bundle.tN "UNASSIGNED_STACK" Bundle.steD A s' s'.heap := by rw [hhp]; exact vx_Zq.moved hW0.alike (hU.kept hS.2.1)
  have hN' : vx_Zq Bundle.tN "SUPPRESSED_SENTINEL" Bundle.listD A s' s'.heap := by rw [hhp]; exact vx_Zq.moved hW0.alike (hN.kept hS.2.1)
  have h : ∀ w ∈ Bundle.ownAtoms own ic cls names, w.before args s' = true := vx_own hat' (vx_isRefq hU'.1) (vx_isRefq hN'.1) hU'.2.word hN'.2.word
  have hown' : s'.vm.findClass own = some m.cls := by rw [hvm]; exact hown
  have hins : (Cond.instantiable cls 6).before args s' = true := h _ (by simp [Bundle.ownAtoms])
  obtain ⟨vm₁, cX, kX, hfX, hkX, -, -, X₁, st1⟩ := Y.newCold hexec (own := own) (C := cls) (index := ik) (n := 6) hown' hk' hins hini'
    (g := F0 m pc ls rest) rfl (by rw [hb]; exact d0) (Nat.le_refl _) (Nat.le_refl _)
  generalize hT1 : (T.setVm vm₁).pushCell { cls := cX, slots := kX.instanceTypes.map defaultValue, vm := .none } = T1 at X₁ st1
  have hcat : (Value.ref T.heap.size).category = 1 := rfl
  have hcellA : T1.heap[T.heap.size]? = some (freshCell cX kX) := by rw [← hT1]; exact State.heap_pushCell_size _ _
  have d3' : decode c.code (pc + 3) = .ok (.dup, 1) := by rw [hb]; exact d3
  have d4' : decode c.code (pc + 4) = .ok (.ldc is, 2) := by rw [hb]; exact d4
  have hstr' : vk_R own is text sa s' := vk_R.warm hW0 hstr
  obtain ⟨U, hsteps, hrun, hend, hW, hsame, ce, hce, hO⟩ := X₁.ctorThrowS hexec htr (own := own) (cls := cls) (names := names) (ic := ic) hown' hcls hnames h (fun x hx => nomatch hx) hfX hkX hcellA (by rw [hhp, hT]; exact Nat.le_refl _) (msg := .ref sa) rfl
    (g := { method := m, pc := pc + 6, locals := ls, stack := .ref sa :: .ref T.heap.size :: .ref T.heap.size :: rest, locked := none }) rfl hsize rfl rfl (rest := rest) rfl
    (by rw [hb]; exact d6) (by rw [hb]; exact d9) hout hRframes (by simp only [List.map_cons, List.sum_cons, hcat]; omega) hlocks
  obtain ⟨f1, f2⟩ := vx_frame hsame
  rw [hhp] at f1 f2
  have hWs : s.WarmedH U.vm := State.WarmedH.trans hW0 hW
  have hcl : s.vm.findClass cls = some ce.cls := by
    have h9 := hO.cls
    rw [hvm] at h9
    exact h9
  have hall : s.sameButNew ({ U with vm := s.vm } : State) locs mc ms := by
    subst hA
    obtain ⟨e1, e2⟩ := hsame
    rw [State.setFrames_setFrames] at e1
    have h2 : (T.setVm s.vm).sameButNew ({ U with vm := s.vm } : State) [] (0 + 1) (0 + 6) := ⟨e1, e2⟩
    have h3 := X.same.trans h2
    rw [List.append_nil] at h3
    exact h3.mono hc hs
  refine ⟨U, ?_, .threw T.heap.size, hrun, hend, Or.inr ⟨T.heap.size, rfl, cls, ce, locs, hx U hWs.alike f1 (fun q hq => f2 q hq (fun z hz => nomatch hz)), hce, hO.vm, hcl, hWs, hall, hf⟩⟩
  refine st1 _ ?_
  show Steps p.tables e below (T1.setTop { method := m, pc := pc + 3, locals := ls, stack := .ref T.heap.size :: rest, locked := none }) _
  jvm_step X₁.here [X₁.here.top, hexec, d3', Value.category]
  exact X₁.ldcString hexec (own := own) (text := text) (index := is) (a := sa) hown' hstr'.1 hstr'.2
    (g := { method := m, pc := pc + 4, locals := ls, stack := .ref T.heap.size :: .ref T.heap.size :: rest, locked := none }) rfl d4' _ hsteps
/-- 'throw new E("text")', the text by a wide index -/
theorem vx_throwSW {cc : ByteArray} {pc : Nat} (hexec : p.tables.exec = Jvm.exec) (hb : c.code = cc) (hl : l.stackTraces = false) {own cls text : String} {names : List String} {ik is ic mc ms sa : Nat} {A : Nat → Prop}
    (hown : s.vm.findClass own = some m.cls) (hcls : Bundle.fit cls = true) (hnames : ∀ n ∈ names, Bundle.fit n = true)
    (hk : (Cond.classLink own ik cls).before args s = true) (hini : (Cond.initialized cls).before args s = true) (hstr : vk_R own is text sa s) (hat : ∀ w ∈ vx_atS own ic cls names, w.before args s = true)
    (hgood : ∀ w ∈ Cond.classLink own ik cls :: Cond.initialized cls :: vx_atS own ic cls names, vx_ot w = true)
    (hU : vx_Zq Bundle.tN "UNASSIGNED_STACK" Bundle.steD A s s.heap) (hN : vx_Zq Bundle.tN "SUPPRESSED_SENTINEL" Bundle.listD A s s.heap) (hS : va_S A s.heap H locs) (hsize : ls.size = c.maxLocals)
    (d0 : decode cc pc = .ok (.new ik, 3)) (d3 : decode cc (pc + 3) = .ok (.dup, 1)) (d4 : decode cc (pc + 4) = .ok (.ldc_w is, 3)) (d7 : decode cc (pc + 7) = .ok (.invokespecial ic, 3)) (d10 : decode cc (pc + 10) = .ok (.athrow, 1))
    (hout : ∀ x ∈ c.exceptionTable.toList, covers x (pc + 10) = false)
    (hRframes : names.length + 3 < R.frames) (hRlocals : (rest.map fun v => v.category).sum + (13 * (names.length + 1) + 43) ≤ R.locals) (hRcells : cells + 1 ≤ R.cells) (hRslots : slots + 6 ≤ R.slots) (hlocks : meth.locks = false)
    (hx : ∀ t : State, s.vm.Alike t.vm → H.size ≤ t.heap.size → (∀ q : Nat, q < H.size → t.heap[q]? = H[q]?) → XC cls s t)
    (hf : ∀ z ∈ locs, free z.base) (hc : cells + 1 ≤ mc) (hs : slots + 6 ≤ ms) :
    W p l e R s m args below meth c H locs cells slots (vx_MQ below Qc XC args s mc ms free) (F0 m pc ls rest) := by
  intro T hT X
  have htr : e.platform.stackTraces = false := (show e.platform.stackTraces = l.stackTraces by rw [X.admits.platform]).trans hl
  have Y := vx_rebase X (R' := { frames := R.frames, locals := R.locals, cells := 1, slots := 6 }) (Nat.le_refl _) (Nat.le_refl _) hRcells hRslots
  obtain ⟨s', hA⟩ : ∃ z, z = (T.setVm s.vm).setFrames (.invoking m args :: below) := ⟨_, rfl⟩
  rw [← hA] at Y
  have hvm : s'.vm = s.vm := by rw [hA]; rfl
  have hhp : s'.heap = H := by rw [hA]; exact hT
  have hW0 : s.WarmedH s'.vm := by rw [hvm]; exact State.WarmedH.refl s
  have hat' : ∀ w ∈ vx_atS own ic cls names, w.before args s' = true := fun w hw => vx_ot_at hW0 hvm.symm (hgood w (List.mem_cons_of_mem _ (List.mem_cons_of_mem _ hw))) (hat w hw)
  have hk' : (Cond.classLink own ik cls).before args s' = true := vx_ot_at hW0 hvm.symm (hgood _ List.mem_cons_self) hk
  have hini' : (Cond.initialized cls).before args s' = true := vx_ot_at hW0 hvm.symm (hgood _ (List.mem_cons_of_mem _ List.mem_cons_self)) hini
  have hU' : vx_Zq Bundle.tN "UNASSIGNED_STACK" Bundle.steD A s' s'.heap := by rw [hhp]; exact vx_Zq.moved hW0.alike (hU.kept hS.2.1)
  have hN' : vx_Zq Bundle.tN "SUPPRESSED_SENTINEL" Bundle.listD A s' s'.heap := by rw [hhp]; exact vx_Zq.moved hW0.alike (hN.kept hS.2.1)
  have h : ∀ w ∈ Bundle.ownAtoms own ic cls names, w.before args s' = true := vx_own hat' (vx_isRefq hU'.1) (vx_isRefq hN'.1) hU'.2.word hN'.2.word
  have hown' : s'.vm.findClass own = some m.cls := by rw [hvm]; exact hown
  have hins : (Cond.instantiable cls 6).before args s' = true := h _ (by simp [Bundle.ownAtoms])
  obtain ⟨vm₁, cX, kX, hfX, hkX, -, -, X₁, st1⟩ := Y.newCold hexec (own := own) (C := cls) (index := ik) (n := 6) hown' hk' hins hini'
    (g := F0 m pc ls rest) rfl (by rw [hb]; exact d0) (Nat.le_refl _) (Nat.le_refl _)
  generalize hT1 : (T.setVm vm₁).pushCell { cls := cX, slots := kX.instanceTypes.map defaultValue, vm := .none } = T1 at X₁ st1
  have hcat : (Value.ref T.heap.size).category = 1 := rfl
  have hcellA : T1.heap[T.heap.size]? = some (freshCell cX kX) := by rw [← hT1]; exact State.heap_pushCell_size _ _
  have d3' : decode c.code (pc + 3) = .ok (.dup, 1) := by rw [hb]; exact d3
  have d4' : decode c.code (pc + 4) = .ok (.ldc_w is, 3) := by rw [hb]; exact d4
  have hstr' : vk_R own is text sa s' := vk_R.warm hW0 hstr
  obtain ⟨U, hsteps, hrun, hend, hW, hsame, ce, hce, hO⟩ := X₁.ctorThrowS hexec htr (own := own) (cls := cls) (names := names) (ic := ic) hown' hcls hnames h (fun x hx => nomatch hx) hfX hkX hcellA (by rw [hhp, hT]; exact Nat.le_refl _) (msg := .ref sa) rfl
    (g := { method := m, pc := pc + 7, locals := ls, stack := .ref sa :: .ref T.heap.size :: .ref T.heap.size :: rest, locked := none }) rfl hsize rfl rfl (rest := rest) rfl
    (by rw [hb]; exact d7) (by rw [hb]; exact d10) hout hRframes (by simp only [List.map_cons, List.sum_cons, hcat]; omega) hlocks
  obtain ⟨f1, f2⟩ := vx_frame hsame
  rw [hhp] at f1 f2
  have hWs : s.WarmedH U.vm := State.WarmedH.trans hW0 hW
  have hcl : s.vm.findClass cls = some ce.cls := by
    have h9 := hO.cls
    rw [hvm] at h9
    exact h9
  have hall : s.sameButNew ({ U with vm := s.vm } : State) locs mc ms := by
    subst hA
    obtain ⟨e1, e2⟩ := hsame
    rw [State.setFrames_setFrames] at e1
    have h2 : (T.setVm s.vm).sameButNew ({ U with vm := s.vm } : State) [] (0 + 1) (0 + 6) := ⟨e1, e2⟩
    have h3 := X.same.trans h2
    rw [List.append_nil] at h3
    exact h3.mono hc hs
  refine ⟨U, ?_, .threw T.heap.size, hrun, hend, Or.inr ⟨T.heap.size, rfl, cls, ce, locs, hx U hWs.alike f1 (fun q hq => f2 q hq (fun z hz => nomatch hz)), hce, hO.vm, hcl, hWs, hall, hf⟩⟩
  refine st1 _ ?_
  show Steps p.tables e below (T1.setTop { method := m, pc := pc + 3, locals := ls, stack := .ref T.heap.size :: rest, locked := none }) _
  jvm_step X₁.here [X₁.here.top, hexec, d3', Value.category]
  exact X₁.ldcStringW hexec (own := own) (text := text) (index := is) (a := sa) hown' hstr'.1 hstr'.2
    (g := { method := m, pc := pc + 4, locals := ls, stack := .ref T.heap.size :: .ref T.heap.size :: rest, locked := none }) rfl d4' _ hsteps
end Ends
section Bodies
variable {l : Launch}
theorem vx_ofW {y : MethodName} {ws ws' : List Cond} {rm : Room} {Pc : Array Value → State → Prop} {Qc : Array Value → State → Outcome → State → Prop} {XC : String → State → State → Prop} {mc ms : Nat} {free : Addr → Prop} {cc : ByteArray} {maxL : Nat} {ret : Option FieldType}
    (hy : plainName y.cls = true) (hw : ws = Cond.code y cc maxL ret :: ws')
    (body : ∀ p e s m args below meth c s₁, BodyLoose p l y (headSpec ws rm) cc maxL ret e s m args below meth c s₁ → c.maxLocals = maxL → (∀ x ∈ c.exceptionTable.toList, False) → Pc args s →
      W p l e (headSpec ws rm).room s m args below meth c s.heap [] 0 0 (vx_MQ below Qc XC args s mc ms free) (entryFrame m args maxL)) : vx_Met l y ws rm Pc Qc XC mc ms free := by
  refine MetFree.of_bodyS (code := cc) (maxLocals := maxL) (ret := ret) hy ?_ ?_
  · intro args s m h hn
    obtain ⟨meth, c, h1, h2, h3, h4, h5, h6, -, -⟩ := Cond.code_spec hn (atoms_spec (ws := ws) h _ (by rw [hw]; exact List.mem_cons_self))
    exact ⟨meth, c, h1, h2, h3, h4, h5, h6⟩
  · intro p e s m args below meth c s₁ B hml hP _
    have hh0 : s₁.heap = s.heap := by rw [B.state]; rfl
    have ht : ∀ x ∈ c.exceptionTable.toList, False := by
      obtain ⟨meth9, c9, h1, h2, -, -, -, -, h7, -⟩ := Cond.code_spec B.named (atoms_spec (ws := ws) B.pre _ (by rw [hw]; exact List.mem_cons_self))
      cases Option.some.inj (h1.symm.trans B.method)
      cases Option.some.inj (h2.symm.trans (Stand.of_body B).code)
      intro x hx
      rw [Array.isEmpty_iff.mp h7] at hx
      cases hx
    obtain ⟨t, a1, o, b1, b2, b3⟩ := body p e s m args below meth c s₁ B hml ht hP s₁ hh0 (Stand.of_body B)
    exact ⟨t, o, a1, b1, b2, b3⟩
/-- the table of a body with handlers -/
theorem vx_table {p : Program} {x y : MethodName} {S : Spec} {cc bytes : ByteArray} {maxL maxL' : Nat} {ret ret' : Option FieldType} {e : Env} {s s₁ : State} {m : MethodId} {args : Array Value} {below : List Frame} {meth : Method} {c : Code} {hh : List (Nat × Nat × Nat × Nat)}
    (B : BodyLoose p l y S cc maxL ret e s m args below meth c s₁) (h : (Cond.codeWith y bytes maxL' ret' hh).before args s = true) : c.exceptionTable.toList = tableOf hh := by
  obtain ⟨m9, meth9, c9, hn9, h1, h2, -, -, h6, -⟩ := Cond.codeWith_spec h
  cases Option.some.inj (hn9.symm.trans B.named)
  cases Option.some.inj (h1.symm.trans B.method)
  cases Option.some.inj (h2.symm.trans (Stand.of_body B).code)
  rw [← h6, table_eq]
end Bodies
end VXA
/-! ===== END ===== -/
/-! ===== BEGIN a static call of a method with an exception table ===== -/
section VXS
variable {p : Program} {l : Launch} {e : Env} {R : Room} {s : State} {m : MethodId} {args : Array Value} {below : List Frame} {meth : Method} {c : Code} {T : State} {H : Heap} {locs : List Loc} {cells slots : Nat}
abbrev vx_CSW (R : Room) (s : State) (args : Array Value) (own : String) (index : Nat) (y : MethodName) (bytes : ByteArray) (maxL : Nat) (ret : Option FieldType) (hh : List (Nat × Nat × Nat × Nat)) (ws : List Cond) (rm : Room) (mc ms n : Nat) : Prop :=
  (rm.cells = mc ∧ rm.slots = ms ∧ rm.frames + 1 ≤ R.frames ∧ 8 + (maxL + 11) + rm.locals ≤ R.locals ∧ (∀ w ∈ ws, ∀ (a' : Array Value) (U : State), s.WarmedH U.vm → w.before a' U = true) ∧ Cond.codeWith y bytes maxL ret hh ∈ ws) ∧
  (Cond.codeWith y bytes maxL ret hh).before args s = true ∧ (Cond.initialized y.cls).before args s = true ∧ (y.cls ≠ "java/lang/invoke/MethodHandle" ∧ y.cls ≠ "java/lang/invoke/VarHandle") ∧
  (∀ sig, parseMethodDescriptor y.desc = some sig → n = sig.parameters.length) ∧ (Cond.methodLink own index y).before args s = true ∧ (Cond.static y).before args s = true
theorem vx_cwSW {own : String} {index maxL mc ms : Nat} {y : MethodName} {bytes : ByteArray} {ret : Option FieldType} {hh : List (Nat × Nat × Nat × Nat)} {Ts ws ws' : List Cond} {rm : Room} (n : Nat) (ht : ∀ w ∈ Ts, w.before args s = true) (hT : GoodIn Ts (va_wsS own index y ws)) (hw : ws = Cond.codeWith y bytes maxL ret hh :: ws') (hrc : rm.cells = mc) (hrs : rm.slots = ms)
    (hd : y.cls ≠ "java/lang/invoke/MethodHandle" ∧ y.cls ≠ "java/lang/invoke/VarHandle" ∧ (parseMethodDescriptor y.desc).map (fun d => d.parameters.length) = some n) (hR : rm.frames + 1 ≤ R.frames ∧ 8 + (maxL + 11) + rm.locals ≤ R.locals) :
    vx_CSW R s args own index y bytes maxL ret hh ws rm mc ms n := by
  have ok : ∀ w ∈ va_wsS own index y ws, w.before args s = true := fun w h => ht w (hT w h).1
  have hG : GoodIn Ts ws := fun w h => hT w (by unfold va_wsS; exact List.mem_append_right _ h)
  have hc : Cond.codeWith y bytes maxL ret hh ∈ ws := by rw [hw]; exact List.mem_cons_self
  refine ⟨⟨hrc, hrs, hR.1, hR.2, pay_in ht hG, hc⟩, ht _ (hG _ hc).1, ok _ (by simp [va_wsS]), ⟨hd.1, hd.2.1⟩, fun sig h => ?_, ok _ (by simp [va_wsS]), ok _ (by simp [va_wsS])⟩
  have h2 := hd.2.2
  rw [h] at h2
  exact (Option.some.inj h2).symm
theorem vx_callSW (X : Stand p l e R s m args below meth c T locs cells slots) (hexec : p.tables.exec = Jvm.exec) {own : String} {index : Nat} {y : MethodName} {bytes : ByteArray} {maxL : Nat} {ret : Option FieldType} {hh : List (Nat × Nat × Nat × Nat)}
    (hown : s.vm.findClass own = some m.cls) (hlink : (Cond.methodLink own index y).before args s = true) (hstat : (Cond.static y).before args s = true) (hinit : (Cond.initialized y.cls).before args s = true)
    (hcode : (Cond.codeWith y bytes maxL ret hh).before args s = true) (hy : y.cls ≠ "java/lang/invoke/MethodHandle" ∧ y.cls ≠ "java/lang/invoke/VarHandle")
    {W9 : Nat} {Pre : Pt → Array Value → Prop} {Post : Pt → Array Value → Option Value → Pt → Prop} (hK : Back l R p e below s args y 3 W9 Pre Post)
    {g : JFrame} (hg : g.method = m) (hsize : g.locals.size = c.maxLocals) {argsL rest : List Value} (hlen : ∀ sig, parseMethodDescriptor y.desc = some sig → argsL.length = sig.parameters.length)
    (hstack : g.stack = argsL.reverse ++ rest) (hW : 2 * g.monitorRoom + (rest.map fun v => v.category).sum ≤ W9) (hdg : decode c.code g.pc = .ok (.invokestatic index, 3))
    (hpre : ∀ vm₁, s.WarmedH vm₁ → Pre ⟨T.setVm vm₁, locs, cells, slots⟩ argsL.toArray) :
    ∃ (v : Option Value) (vm₁ : Vm) (B : Pt), s.WarmedH vm₁ ∧ Stand p l e R s m args below meth c B.U B.locs B.cells B.slots ∧ Post ⟨T.setVm vm₁, locs, cells, slots⟩ argsL.toArray v B ∧
      ∀ target, Steps p.tables e below (B.U.setTop { g with pc := g.pc + 3, stack := v.toList ++ rest }) target → Steps p.tables e below (T.setTop g) target := by
  obtain ⟨mk, methM, cM, hnamed, hmethM, -, -, -, -, -, -, hsigM⟩ := Cond.codeWith_spec hcode
  have hstatic : methM.isStatic = true := Cond.static_spec hnamed hmethM hstat
  obtain ⟨kP, hkP, -⟩ := className_of_methodNamed hnamed
  have hinitP : kP.init = .initialized := Cond.initialized_spec (findClass_of_methodNamed hnamed) hkP hinit
  obtain ⟨vm₁, X₁, hstep₁⟩ := X.invokestatic hexec hown hlink hnamed hmethM hstatic hkP hinitP hy (g := g) hg (argsL := argsL) (rest := rest) (hlen _ hsigM) hstack hdg
  obtain ⟨v, B, X', hpost, hsteps⟩ := hK m meth c ⟨T.setVm vm₁, locs, cells, slots⟩ { g with stack := rest } (.invokestatic index) mk argsL.toArray X₁ hg hsize hdg hW (X₁.named hnamed) (hpre vm₁ X₁.warmed)
  exact ⟨v, vm₁, B, X₁.warmed, X', hpost, fun target h => hstep₁ _ fun acts => by rw [doInvoke_state]; exact hsteps.trans h⟩
theorem vx_runSW {y : MethodName} {bytes cc : ByteArray} {maxL nL mc ms n index : Nat} {ret : Option FieldType} {hh : List (Nat × Nat × Nat × Nat)} {ws : List Cond} {rm : Room} {Pc : Array Value → State → Prop} {Qc : Array Value → State → Outcome → State → Prop} {free : Addr → Prop} {Ts : List Cond} {own : String} {As rest : List Value} {g : JFrame}
    (S : CallFix p m c cc nL s args Ts own) (hM : Met l y ws rm Pc Qc mc ms free) (cw : vx_CSW R s args own index y bytes maxL ret hh ws rm mc ms n) (hp : PreS s H Pc As)
    (hg : g.method = m) (hn : As.length = n) (hsize : g.locals.size = nL) (hstack : g.stack = As.reverse ++ rest) (hW : 2 * g.monitorRoom + (rest.map fun v => v.category).sum ≤ 8) (hdg : decode cc g.pc = .ok (.invokestatic index, 3)) (hf : cells + mc ≤ R.cells ∧ slots + ms ≤ R.slots) :
    va_Run p l e R s m args below meth c H locs cells slots mc ms g rest (Qc As.toArray) (free) := by
  obtain ⟨⟨hrc, hrs, hfr, hlo, hws, hcw⟩, hcode, hini, hy, hlen, hl, hstt⟩ := cw
  have hK : Back l R p e below s args y 3 8 (PreOf R mc ms Pc) (PostOf Qc mc ms free) := va_backW (hh := hh) (bytes := bytes) (maxL := maxL) (ret := ret) hM hp.1 hrc hrs hfr hlo hws hcw (fun a' U hW => word_at hW (Or.inl (by first | rfl | simp [Cond.onTables, Cond.keeps, Cond.steady])) hini)
  obtain ⟨hx, hb, hml, ho, -⟩ := S
  intro T hT X
  obtain ⟨v, vm₁, ⟨U', l2, c2, s2⟩, hW₁, X', ⟨g', mk, t, L, e1, e2, hq, h1, hL, h2, h3⟩, st⟩ := vx_callSW X hx (hh := hh) (bytes := bytes) (maxL := maxL) (ret := ret) ho hl hstt hini hcode hy hK hg (hsize.trans hml.symm) (argsL := As) (rest := rest) (fun sig h => hn.trans (hlen sig h)) hstack hW (by rw [hb]; exact hdg)
    (fun vm₁ hW₁ => ⟨hf.1, hf.2, hp.2 (T.setVm vm₁) hT hW₁⟩)
  dsimp only [Pt.U, Pt.locs, Pt.cells, Pt.slots] at X' e1 e2 h1 h2 h3 st
  subst h1; subst h2; subst h3
  exact ⟨v, (T.setVm vm₁).calling g' mk As.toArray, t, U', L, hT, X', hL, e1, e2, hq, st⟩
/-- not caught here, past rows that name other classes: it goes on to the caller -/
theorem vx_outP {p : Program} {l : Launch} {e : Env} {R : Room} {s : State} {m : MethodId} {args : Array Value} {below : List Frame} {meth : Method} {c : Code} {H : Heap} {locs : List Loc} {cells slots : Nat} {free : Addr → Prop} {ls : Array Slot} {rest : List Value} {Qc : Array Value → State → Outcome → State → Prop} {XC : String → State → State → Prop}
    {pc : Nat} {own E : String} {ce : Cell} {q : Addr} {mc ms : Nat} (hown : s.vm.findClass own = some m.cls) (hlocks : meth.locks = false)
    (hpass : ∀ z ∈ c.exceptionTable.toList, covers z pc = false ∨ (z.catchType ≠ 0 ∧ ∃ nm : String, (Cond.classLink own z.catchType nm).before args s = true ∧ va_Nc E nm s)) (hcell : H[q]? = some ce) (hv : ce.vm = .none) (hcl : s.vm.findClass E = some ce.cls)
    (hx : ∀ t : State, t.heap = H → s.vm.Alike t.vm → XC E s t) (hf : ∀ z ∈ locs, free z.base) (hc : cells ≤ mc) (hs : slots ≤ ms) :
    vx_W p l e R s m args below meth c H locs cells slots (vx_MQ below Qc XC args s mc ms free) (F0 m pc ls rest) q := by
  intro T hT X
  have hpl : e.platform.magicAccessors = ({} : Platform).magicAccessors := by rw [X.admits.platform]
  obtain ⟨vm', hW', X', st⟩ := X.outThrough hlocks q (g := F0 m pc ls rest) rfl rfl rfl (cell := ce) (by rw [hT]; exact hcell) (by rw [hv]; rfl)
    (by obtain ⟨k9, h9, -⟩ := Vm.findClass_spec hcl; exact ⟨k9, h9⟩) (fun z hz => by
      rcases hpass z hz with h | ⟨hz0, nm, hl1, hn1⟩
      · exact Or.inl h
      · obtain ⟨c6, hc6, hcl6⟩ := Cond.classLink_spec hown hl1 e.platform hpl
        obtain ⟨a8, b8, h1, h2, h3⟩ := hn1
        cases Option.some.inj (h1.symm.trans hcl)
        cases Option.some.inj (h2.symm.trans hc6)
        exact Or.inr ⟨hz0, _, hcl6, h3⟩)
  obtain ⟨g₀, hfr⟩ := X'.frames_eq
  have hcell9 : ((T.setVm vm').setFrames (.throwing q :: below)).heap[q]? = some ce := by
    show T.heap[q]? = some ce
    rw [hT]; exact hcell
  have hend : Ended ((T.setVm vm').setFrames (.throwing q :: below)) below (.threw q) := State.frames_setFrames _ (State.cur_lt_of_frames hfr)
  refine ⟨(T.setVm vm').setFrames (.throwing q :: below), ?_, .threw q, X'.here.running, hend, Or.inr ⟨q, rfl, E, ce, locs, hx _ hT (X'.ends _).1.alike, hcell9, hv, hcl, (X'.ends _).1, (X'.ends _).2.mono hc hs, hf⟩⟩
  rw [X.pushThrowing_eq]
  exact st
/-- a thing of a world lies in the heap -/
theorem vx_lt {D : va_G} {cl : List vw_C} {ws : va_W} {H1 : Heap} (h : va_P D cl ws H1) {k : Nat} {q : Nat × va_E} (hk : ws[k]? = some q) : q.1 < H1.size := (h k q hk).lt
end VXS
/-! ===== END ===== -/
/-! ===== BEGIN methods with a table of their own: called by a name, returning or throwing ===== -/
section VXH
/-! vx_backW, vx_callVX, vx_callSX, vx_callVW, vx_runVW, vx_runVX, vx_runSX, vx_ofWH follow the same proofs as their sisters above (Free/Laws.lean, Shelf42/LK1.lean); vx_outP calls Shelf42/NT130.lean (outThrough). -/
section
variable {l : Launch} {R : Room} {p : Program} {e : Env} {below : List Frame} {s : State} {sargs : Array Value} {y : MethodName} {len W9 : Nat}
theorem vx_backW {ws : List Cond} {rm : Room} {Pc : Array Value → State → Prop} {Qc : Array Value → State → Outcome → State → Prop} {XC : String → State → State → Prop} {mc ms : Nat} {free : Addr → Prop} {bytes : ByteArray} {maxL : Nat} {ret : Option FieldType} {hh : List (Nat × Nat × Nat × Nat)}
    (hM : vx_Met l y ws rm Pc Qc XC mc ms free) (hblind : FrameBlind Pc) (hrc : rm.cells = mc) (hrs : rm.slots = ms)
    (hframes : rm.frames + 1 ≤ R.frames) (hlocals : W9 + (maxL + 11) + rm.locals ≤ R.locals)
    (hws : ∀ w ∈ ws, ∀ a' U, s.WarmedH U.vm → w.before a' U = true) (hcode : Cond.codeWith y bytes maxL ret hh ∈ ws) (hinit : ∀ a' U, s.WarmedH U.vm → (Cond.initialized y.cls).before a' U = true) :
    vx_Back l R p e below s sargs y len W9 (PreOf R mc ms Pc) (PostOf Qc mc ms free) (vx_Post XC mc ms free) := by
  intro m meth c A g ig mk a X hg hsize hdg hW hn hp
  have h1 : (headSpec ws rm).pre.before a A.U = true := atoms_intro fun w hw => hws w hw _ _ X.warmed
  have h2 : (Cond.codeWith y bytes maxL ret hh).before a A.U = true := hws _ hcode _ _ X.warmed
  have h3 : (Cond.initialized y.cls).before a A.U = true := hinit _ _ X.warmed
  have h4 : A.cells + (headSpec ws rm).room.cells ≤ R.cells := by rw [show (headSpec ws rm).room.cells = mc from hrc]; exact hp.1
  have h5 : A.slots + (headSpec ws rm).room.slots ≤ R.slots := by rw [show (headSpec ws rm).room.slots = ms from hrs]; exact hp.2.1
  have hPc : Pc a (A.U.calling g mk a) := hblind _ _ _ _ hp.2.2
  obtain ⟨U, Ls, c0, s0⟩ := A
  dsimp only [Pt.U, Pt.locs, Pt.cells, Pt.slots] at h1 h2 h3 h4 h5 X hn hPc ⊢
  obtain ⟨m9, methY, cY, hn9, hmY, hcY, -, hlY, -⟩ := Cond.codeWith_spec h2
  cases Option.some.inj (hn9.symm.trans hn)
  obtain ⟨kY, hkY, -⟩ := className_of_methodNamed hn
  have hinitY : kY.init = .initialized := Cond.initialized_spec (findClass_of_methodNamed hn) hkY h3
  have h : At U g.method c below := by rw [hg]; exact X.here
  have hlocals9 : W9 + (maxL + 11) + (headSpec ws rm).room.locals ≤ R.locals := hlocals
  have happ : (headSpec ws rm).appliesLoose y e.platform (U.calling g mk a) = true :=
    Spec.appliesLoose_calling (g := g) h hdg hn hkY hinitY
      (X.room_calling (g := g) (R' := (headSpec ws rm).room) hsize hmY hcY hframes (by rw [hlY]; omega) h4 h5) h1
  obtain ⟨mid, hmid⟩ := h.above
  have hfr : (U.setTop g).frames = (.java g :: mid) ++ below := by rw [State.frames_setTop' g h.top, hmid]; rfl
  obtain ⟨o, s₂, hsteps, -, hend, hq⟩ := Steps.callFree hM p X.admits X.cas X.clock (acts := []) hfr happ hPc trivial
  have hq' : vx_Q Qc XC mc ms free a (U.calling g mk a) o s₂ := hq
  rw [State.frames_setTop' g h.top] at hend
  obtain ⟨g₀, hg0⟩ := Option.isSome_iff_exists.mp h.top
  obtain ⟨r, hr⟩ := State.topJava?_eq_some.mp hg0
  have hr' : (({ U with heap := s₂.heap, slotsUsed := s₂.slotsUsed } : State).setVm s₂.vm).frames = .java g₀ :: r := hr
  rcases hq' with ⟨hqc, L, hfe, hL⟩ | ⟨q, rfl, E, ce, L, hx, hce, hcv, hcl, hW₂, hsm, hL⟩
  · obtain ⟨⟨v, rfl⟩, hW₂, e2, q2, q3, q4, q5, q6⟩ := id hfe
    have e3 : s₂ = ({ (U.calling g mk a).setFrames s₂.frames with heap := s₂.heap, slotsUsed := s₂.slotsUsed } : State).setVm s₂.vm := by
      have : s₂ = ({ s₂ with vm := (U.calling g mk a).vm } : State).setVm s₂.vm := rfl
      rw [e2] at this
      exact this
    obtain ⟨c₂, i₂, len₂, hc₂, hd₂, hf₂⟩ := hend
    have hW' : U.WarmedH s₂.vm := hW₂
    have hcc : c₂ = c := by
      have h1 : s₂.code? g.method = U.code? g.method := by
        rw [State.code?_eq, State.code?_eq, hW'.alike.method?]
      exact Option.some.inj (hc₂.symm.trans (h1.trans h.code))
    subst hcc
    have hlen : len₂ = len := by rw [hdg] at hd₂; cases hd₂; rfl
    subst hlen
    have hs₂ : s₂ = (({ U with heap := s₂.heap, slotsUsed := s₂.slotsUsed } : State).setVm s₂.vm).setTop { g with pc := g.pc + len₂, stack := v.toList ++ g.stack } := by
      refine e3.trans ?_
      rw [hf₂, State.calling_eq h.top, State.setFrames_setFrames, State.setTop_of_frames _ hr', hr]
      rfl
    have hsame : U.sameButNew ({ U with heap := s₂.heap, slotsUsed := s₂.slotsUsed } : State) L mc ms := by
      refine ⟨?_, q2, q3, q4, q5, q6⟩
      obtain ⟨t, ht, -⟩ := State.frames_cons hr
      show ({ U with heap := s₂.heap, slotsUsed := s₂.slotsUsed } : State) = { U.setFrames U.frames with heap := s₂.heap, slotsUsed := s₂.slotsUsed }
      rw [State.setFrames_self ht]
    subst hg
    refine Or.inl ⟨v, ⟨(({ U with heap := s₂.heap, slotsUsed := s₂.slotsUsed } : State).setVm s₂.vm), Ls ++ L, c0 + mc, s0 + ms⟩,
      ⟨X.admits, X.cas, X.clock, X.frames, X.room, X.hears, X.method, X.code, (X.here.setHeapUsed s₂.heap s₂.slotsUsed).setVm hW'.alike, X.tail, State.WarmedH.trans X.warmed hW', X.limits, X.bytes, X.same.trans (hsame.setVm s.vm)⟩,
      ⟨g, mk, s₂, L, rfl, rfl, hqc, rfl, hL, rfl, rfl⟩, ?_⟩
    show Steps p.tables e below _ ((({ U with heap := s₂.heap, slotsUsed := s₂.slotsUsed } : State).setVm s₂.vm).setTop { g with pc := g.pc + len₂, stack := v.toList ++ g.stack })
    rw [← hs₂]
    exact hsteps
  · obtain ⟨e2, q2, q3, q4, q5, q6⟩ := id hsm
    have e3 : s₂ = ({ (U.calling g mk a).setFrames s₂.frames with heap := s₂.heap, slotsUsed := s₂.slotsUsed } : State).setVm s₂.vm := by
      have : s₂ = ({ s₂ with vm := (U.calling g mk a).vm } : State).setVm s₂.vm := rfl
      rw [e2] at this
      exact this
    have hf₂ : s₂.frames = .throwing q :: .java g :: U.frames.tail := hend
    have hW' : U.WarmedH s₂.vm := hW₂
    have hs₂ : s₂ = ((({ U with heap := s₂.heap, slotsUsed := s₂.slotsUsed } : State).setVm s₂.vm).setTop g).pushFrame (.throwing q) := by
      refine e3.trans ?_
      rw [hf₂, State.calling_eq h.top, State.setFrames_setFrames, State.pushFrame, State.frames_setTop _ hr', State.setTop_of_frames _ hr', State.setFrames_setFrames, hr]
      rfl
    have hsame : U.sameButNew ({ U with heap := s₂.heap, slotsUsed := s₂.slotsUsed } : State) L mc ms := by
      refine ⟨?_, q2, q3, q4, q5, q6⟩
      obtain ⟨t, ht, -⟩ := State.frames_cons hr
      show ({ U with heap := s₂.heap, slotsUsed := s₂.slotsUsed } : State) = { U.setFrames U.frames with heap := s₂.heap, slotsUsed := s₂.slotsUsed }
      rw [State.setFrames_self ht]
    subst hg
    refine Or.inr ⟨q, ⟨(({ U with heap := s₂.heap, slotsUsed := s₂.slotsUsed } : State).setVm s₂.vm), Ls ++ L, c0 + mc, s0 + ms⟩,
      ⟨X.admits, X.cas, X.clock, X.frames, X.room, X.hears, X.method, X.code, (X.here.setHeapUsed s₂.heap s₂.slotsUsed).setVm hW'.alike, X.tail, State.WarmedH.trans X.warmed hW', X.limits, X.bytes, X.same.trans (hsame.setVm s.vm)⟩,
      ⟨g, mk, s₂, L, E, ce, rfl, rfl, hx, hce, hcv, hcl, rfl, hL, rfl, rfl⟩, ?_⟩
    show Steps p.tables e below _ (((({ U with heap := s₂.heap, slotsUsed := s₂.slotsUsed } : State).setVm s₂.vm).setTop g).pushFrame (.throwing q))
    rw [← hs₂]
    exact hsteps
end
variable {p : Program} {l : Launch} {e : Env} {R : Room} {s : State} {m : MethodId} {args : Array Value} {below : List Frame} {meth : Method} {c : Code} {T : State} {H : Heap} {locs : List Loc} {cells slots : Nat}
theorem vx_callVX (X : Stand p l e R s m args below meth c T locs cells slots) (hexec : p.tables.exec = Jvm.exec) {own C : String} {index : Nat} {y : MethodName} {bytes : ByteArray} {maxL : Nat} {ret : Option FieldType} {hh : List (Nat × Nat × Nat × Nat)}
    (hown : s.vm.findClass own = some m.cls) (hlink : (Cond.methodLink own index y).before args s = true) (hinst : (Cond.instanceMethod y).before args s = true) (hsel : (Cond.selects C y y).before args s = true)
    (hcode : (Cond.codeWith y bytes maxL ret hh).before args s = true) (hy : y.cls ≠ "java/lang/invoke/MethodHandle" ∧ y.cls ≠ "java/lang/invoke/VarHandle")
    {W9 : Nat} {Pre : Pt → Array Value → Prop} {Post : Pt → Array Value → Option Value → Pt → Prop} {PostX : Pt → Array Value → Addr → Pt → Prop} (hK : vx_Back l R p e below s args y 3 W9 Pre Post PostX)
    {b : Addr} {cellB : Cell} (hcell : T.heap[b]? = some cellB) (hobj : cellB.vm.isStatics = false) (hcls : s.vm.findClass C = some cellB.cls)
    {g : JFrame} (hg : g.method = m) (hsize : g.locals.size = c.maxLocals) {argsL rest : List Value} (hlen : ∀ sig, parseMethodDescriptor y.desc = some sig → argsL.length = sig.parameters.length)
    (hstack : g.stack = argsL.reverse ++ .ref b :: rest) (hW : 2 * g.monitorRoom + (rest.map fun v => v.category).sum ≤ W9) (hdg : decode c.code g.pc = .ok (.invokevirtual index, 3))
    (hpre : ∀ vm₁, s.WarmedH vm₁ → Pre ⟨T.setVm vm₁, locs, cells, slots⟩ (Value.ref b :: argsL).toArray) :
    (∃ (v : Option Value) (vm₁ : Vm) (B : Pt), s.WarmedH vm₁ ∧ Stand p l e R s m args below meth c B.U B.locs B.cells B.slots ∧ Post ⟨T.setVm vm₁, locs, cells, slots⟩ (Value.ref b :: argsL).toArray v B ∧
      ∀ target, Steps p.tables e below (B.U.setTop { g with pc := g.pc + 3, stack := v.toList ++ rest }) target → Steps p.tables e below (T.setTop g) target) ∨
    (∃ (q : Addr) (vm₁ : Vm) (B : Pt), s.WarmedH vm₁ ∧ Stand p l e R s m args below meth c B.U B.locs B.cells B.slots ∧ PostX ⟨T.setVm vm₁, locs, cells, slots⟩ (Value.ref b :: argsL).toArray q B ∧
      Steps p.tables e below (T.setTop g) ((B.U.setTop { g with stack := rest }).pushFrame (.throwing q))) := by
  obtain ⟨mk, methM, hnamed, hmethM, hstM, habM⟩ := Cond.instanceMethod_spec hinst
  obtain ⟨m8, methM', cM, hn8, hmethM', -, -, -, -, -, -, hsigM⟩ := Cond.codeWith_spec hcode
  cases Option.some.inj (hn8.symm.trans hnamed)
  cases hmethM.symm.trans hmethM'
  obtain ⟨c2, r2, m2, q1, q2, q3, q4, kP, hkP, hkPi⟩ := Cond.selects_spec hsel
  cases hcls.symm.trans q1
  cases (State.methodFound?_of_named hnamed hy).symm.trans q2
  cases hnamed.symm.trans q3
  have hselP : selectMethod e.platform s.vm cellB.cls mk = .method mk := by rw [Launch.admits_selectMethod X.admits]; exact q4
  obtain ⟨vm₁, X₁, hstep₁⟩ := X.invokevirtual hexec hown hlink hnamed hmethM hstM hkP hkPi hy (a := b) (cell := cellB) hcell
    (fun z h => by rw [h] at hobj; cases hobj) hselP hmethM habM hkP hkPi (g := g) hg (argsL := argsL) (rest := rest) (hlen _ hsigM) hstack hdg
  rcases hK m meth c ⟨T.setVm vm₁, locs, cells, slots⟩ { g with stack := rest } (.invokevirtual index) mk (Value.ref b :: argsL).toArray X₁ hg hsize hdg hW (X₁.named hnamed) (hpre vm₁ X₁.warmed) with ⟨v, B, X', hpost, hsteps⟩ | ⟨q, B, X', hpost, hsteps⟩
  · exact Or.inl ⟨v, vm₁, B, X₁.warmed, X', hpost, fun target h => hstep₁ _ fun acts => by rw [doInvoke_state]; exact hsteps.trans h⟩
  · exact Or.inr ⟨q, vm₁, B, X₁.warmed, X', hpost, hstep₁ _ fun acts => by rw [doInvoke_state]; exact hsteps⟩
theorem vx_callSX (X : Stand p l e R s m args below meth c T locs cells slots) (hexec : p.tables.exec = Jvm.exec) {own : String} {index : Nat} {y : MethodName} {bytes : ByteArray} {maxL : Nat} {ret : Option FieldType} {hh : List (Nat × Nat × Nat × Nat)}
    (hown : s.vm.findClass own = some m.cls) (hlink : (Cond.methodLink own index y).before args s = true) (hstat : (Cond.static y).before args s = true) (hinit : (Cond.initialized y.cls).before args s = true)
    (hcode : (Cond.codeWith y bytes maxL ret hh).before args s = true) (hy : y.cls ≠ "java/lang/invoke/MethodHandle" ∧ y.cls ≠ "java/lang/invoke/VarHandle")
    {W9 : Nat} {Pre : Pt → Array Value → Prop} {Post : Pt → Array Value → Option Value → Pt → Prop} {PostX : Pt → Array Value → Addr → Pt → Prop} (hK : vx_Back l R p e below s args y 3 W9 Pre Post PostX)
    {g : JFrame} (hg : g.method = m) (hsize : g.locals.size = c.maxLocals) {argsL rest : List Value} (hlen : ∀ sig, parseMethodDescriptor y.desc = some sig → argsL.length = sig.parameters.length)
    (hstack : g.stack = argsL.reverse ++ rest) (hW : 2 * g.monitorRoom + (rest.map fun v => v.category).sum ≤ W9) (hdg : decode c.code g.pc = .ok (.invokestatic index, 3))
    (hpre : ∀ vm₁, s.WarmedH vm₁ → Pre ⟨T.setVm vm₁, locs, cells, slots⟩ argsL.toArray) :
    (∃ (v : Option Value) (vm₁ : Vm) (B : Pt), s.WarmedH vm₁ ∧ Stand p l e R s m args below meth c B.U B.locs B.cells B.slots ∧ Post ⟨T.setVm vm₁, locs, cells, slots⟩ argsL.toArray v B ∧
      ∀ target, Steps p.tables e below (B.U.setTop { g with pc := g.pc + 3, stack := v.toList ++ rest }) target → Steps p.tables e below (T.setTop g) target) ∨
    (∃ (q : Addr) (vm₁ : Vm) (B : Pt), s.WarmedH vm₁ ∧ Stand p l e R s m args below meth c B.U B.locs B.cells B.slots ∧ PostX ⟨T.setVm vm₁, locs, cells, slots⟩ argsL.toArray q B ∧
      Steps p.tables e below (T.setTop g) ((B.U.setTop { g with stack := rest }).pushFrame (.throwing q))) := by
  obtain ⟨mk, methM, cM, hnamed, hmethM, -, -, -, -, -, -, hsigM⟩ := Cond.codeWith_spec hcode
  have hstatic : methM.isStatic = true := Cond.static_spec hnamed hmethM hstat
  obtain ⟨kP, hkP, -⟩ := className_of_methodNamed hnamed
  have hinitP : kP.init = .initialized := Cond.initialized_spec (findClass_of_methodNamed hnamed) hkP hinit
  obtain ⟨vm₁, X₁, hstep₁⟩ := X.invokestatic hexec hown hlink hnamed hmethM hstatic hkP hinitP hy (g := g) hg (argsL := argsL) (rest := rest) (hlen _ hsigM) hstack hdg
  rcases hK m meth c ⟨T.setVm vm₁, locs, cells, slots⟩ { g with stack := rest } (.invokestatic index) mk argsL.toArray X₁ hg hsize hdg hW (X₁.named hnamed) (hpre vm₁ X₁.warmed) with ⟨v, B, X', hpost, hsteps⟩ | ⟨q, B, X', hpost, hsteps⟩
  · exact Or.inl ⟨v, vm₁, B, X₁.warmed, X', hpost, fun target h => hstep₁ _ fun acts => by rw [doInvoke_state]; exact hsteps.trans h⟩
  · exact Or.inr ⟨q, vm₁, B, X₁.warmed, X', hpost, hstep₁ _ fun acts => by rw [doInvoke_state]; exact hsteps⟩
theorem vx_callVW (X : Stand p l e R s m args below meth c T locs cells slots) (hexec : p.tables.exec = Jvm.exec) {own C : String} {index : Nat} {y : MethodName} {bytes : ByteArray} {maxL : Nat} {ret : Option FieldType} {hh : List (Nat × Nat × Nat × Nat)}
    (hown : s.vm.findClass own = some m.cls) (hlink : (Cond.methodLink own index y).before args s = true) (hinst : (Cond.instanceMethod y).before args s = true) (hsel : (Cond.selects C y y).before args s = true)
    (hcode : (Cond.codeWith y bytes maxL ret hh).before args s = true) (hy : y.cls ≠ "java/lang/invoke/MethodHandle" ∧ y.cls ≠ "java/lang/invoke/VarHandle")
    {W9 : Nat} {Pre : Pt → Array Value → Prop} {Post : Pt → Array Value → Option Value → Pt → Prop} (hK : Back l R p e below s args y 3 W9 Pre Post)
    {b : Addr} {cellB : Cell} (hcell : T.heap[b]? = some cellB) (hobj : cellB.vm.isStatics = false) (hcls : s.vm.findClass C = some cellB.cls)
    {g : JFrame} (hg : g.method = m) (hsize : g.locals.size = c.maxLocals) {argsL rest : List Value} (hlen : ∀ sig, parseMethodDescriptor y.desc = some sig → argsL.length = sig.parameters.length)
    (hstack : g.stack = argsL.reverse ++ .ref b :: rest) (hW : 2 * g.monitorRoom + (rest.map fun v => v.category).sum ≤ W9) (hdg : decode c.code g.pc = .ok (.invokevirtual index, 3))
    (hpre : ∀ vm₁, s.WarmedH vm₁ → Pre ⟨T.setVm vm₁, locs, cells, slots⟩ (Value.ref b :: argsL).toArray) :
    ∃ (v : Option Value) (vm₁ : Vm) (B : Pt), s.WarmedH vm₁ ∧ Stand p l e R s m args below meth c B.U B.locs B.cells B.slots ∧ Post ⟨T.setVm vm₁, locs, cells, slots⟩ (Value.ref b :: argsL).toArray v B ∧
      ∀ target, Steps p.tables e below (B.U.setTop { g with pc := g.pc + 3, stack := v.toList ++ rest }) target → Steps p.tables e below (T.setTop g) target := by
  obtain ⟨mk, methM, hnamed, hmethM, hstM, habM⟩ := Cond.instanceMethod_spec hinst
  obtain ⟨m8, methM', cM, hn8, hmethM', -, -, -, -, -, -, hsigM⟩ := Cond.codeWith_spec hcode
  cases Option.some.inj (hn8.symm.trans hnamed)
  cases hmethM.symm.trans hmethM'
  obtain ⟨c2, r2, m2, q1, q2, q3, q4, kP, hkP, hkPi⟩ := Cond.selects_spec hsel
  cases hcls.symm.trans q1
  cases (State.methodFound?_of_named hnamed hy).symm.trans q2
  cases hnamed.symm.trans q3
  have hselP : selectMethod e.platform s.vm cellB.cls mk = .method mk := by rw [Launch.admits_selectMethod X.admits]; exact q4
  obtain ⟨vm₁, X₁, hstep₁⟩ := X.invokevirtual hexec hown hlink hnamed hmethM hstM hkP hkPi hy (a := b) (cell := cellB) hcell
    (fun z h => by rw [h] at hobj; cases hobj) hselP hmethM habM hkP hkPi (g := g) hg (argsL := argsL) (rest := rest) (hlen _ hsigM) hstack hdg
  obtain ⟨v, B, X', hpost, hsteps⟩ := hK m meth c ⟨T.setVm vm₁, locs, cells, slots⟩ { g with stack := rest } (.invokevirtual index) mk (Value.ref b :: argsL).toArray X₁ hg hsize hdg hW (X₁.named hnamed) (hpre vm₁ X₁.warmed)
  exact ⟨v, vm₁, B, X₁.warmed, X', hpost, fun target h => hstep₁ _ fun acts => by rw [doInvoke_state]; exact hsteps.trans h⟩
abbrev vx_CVW (R : Room) (s : State) (args : Array Value) (own C : String) (index : Nat) (y : MethodName) (bytes : ByteArray) (maxL : Nat) (ret : Option FieldType) (hh : List (Nat × Nat × Nat × Nat)) (ws : List Cond) (rm : Room) (mc ms n : Nat) : Prop :=
  (rm.cells = mc ∧ rm.slots = ms ∧ rm.frames + 1 ≤ R.frames ∧ 8 + (maxL + 11) + rm.locals ≤ R.locals ∧ (∀ w ∈ ws, ∀ (a' : Array Value) (U : State), s.WarmedH U.vm → w.before a' U = true) ∧ Cond.codeWith y bytes maxL ret hh ∈ ws) ∧
  (Cond.codeWith y bytes maxL ret hh).before args s = true ∧ (Cond.initialized y.cls).before args s = true ∧ (y.cls ≠ "java/lang/invoke/MethodHandle" ∧ y.cls ≠ "java/lang/invoke/VarHandle") ∧
  (∀ sig, parseMethodDescriptor y.desc = some sig → n = sig.parameters.length) ∧ (Cond.methodLink own index y).before args s = true ∧ (Cond.instanceMethod y).before args s = true ∧ (Cond.selects C y y).before args s = true
theorem vx_cwVW {own C : String} {index maxL mc ms : Nat} {y : MethodName} {bytes : ByteArray} {ret : Option FieldType} {hh : List (Nat × Nat × Nat × Nat)} {Ts ws ws' : List Cond} {rm : Room} (n : Nat) (ht : ∀ w ∈ Ts, w.before args s = true) (hT : GoodIn Ts (wsV own index C y ws)) (hw : ws = Cond.codeWith y bytes maxL ret hh :: ws') (hrc : rm.cells = mc) (hrs : rm.slots = ms)
    (hd : y.cls = C ∧ y.cls ≠ "java/lang/invoke/MethodHandle" ∧ y.cls ≠ "java/lang/invoke/VarHandle" ∧ (parseMethodDescriptor y.desc).map (fun d => d.parameters.length) = some n) (hR : rm.frames + 1 ≤ R.frames ∧ 8 + (maxL + 11) + rm.locals ≤ R.locals) :
    vx_CVW R s args own C index y bytes maxL ret hh ws rm mc ms n := by
  obtain ⟨hC, hd⟩ := hd
  subst hC
  have ok : ∀ w ∈ wsV own index y.cls y ws, w.before args s = true := fun w h => ht w (hT w h).1
  have hG : GoodIn Ts ws := fun w h => hT w (by unfold wsV; exact List.mem_append_right _ h)
  have hc : Cond.codeWith y bytes maxL ret hh ∈ ws := by rw [hw]; exact List.mem_cons_self
  refine ⟨⟨hrc, hrs, hR.1, hR.2, pay_in ht hG, hc⟩, ht _ (hG _ hc).1, ok _ (by simp [wsV]), ⟨hd.1, hd.2.1⟩, fun sig h => ?_, ok _ (by simp [wsV]), ok _ (by simp [wsV]), ok _ (by simp [wsV])⟩
  have h2 := hd.2.2
  rw [h] at h2
  exact (Option.some.inj h2).symm
theorem vx_runVW {y : MethodName} {bytes cc : ByteArray} {maxL nL mc ms n index : Nat} {ret : Option FieldType} {hh : List (Nat × Nat × Nat × Nat)} {ws : List Cond} {rm : Room} {Pc : Array Value → State → Prop} {Qc : Array Value → State → Outcome → State → Prop} {free : Addr → Prop} {Ts : List Cond} {own C : String} {b : Addr} {As rest : List Value} {g : JFrame}
    (S : CallFix p m c cc nL s args Ts own) (hM : Met l y ws rm Pc Qc mc ms free) (cw : vx_CVW R s args own C index y bytes maxL ret hh ws rm mc ms n) (hp : PreV s H C b Pc As)
    (hg : g.method = m) (hn : As.length = n) (hsize : g.locals.size = nL) (hstack : g.stack = As.reverse ++ .ref b :: rest) (hW : 2 * g.monitorRoom + (rest.map fun v => v.category).sum ≤ 8) (hdg : decode cc g.pc = .ok (.invokevirtual index, 3)) (hf : cells + mc ≤ R.cells ∧ slots + ms ≤ R.slots) :
    va_Run p l e R s m args below meth c H locs cells slots mc ms g rest (Qc (Value.ref b :: As).toArray) free := by
  obtain ⟨⟨hrc, hrs, hfr, hlo, hws, hcw⟩, hcode, hini, hy, hlen, hl, hin, hse⟩ := cw
  have hK : Back l R p e below s args y 3 8 (PreOf R mc ms Pc) (PostOf Qc mc ms free) := va_backW (hh := hh) (bytes := bytes) (maxL := maxL) (ret := ret) hM hp.1 hrc hrs hfr hlo hws hcw (fun a' U hW => word_at hW (Or.inl (by first | rfl | simp [Cond.onTables, Cond.keeps, Cond.steady])) hini)
  obtain ⟨hx, hb, hml, ho, -⟩ := S
  obtain ⟨-, ⟨cellB, hcB, hoB, hclB⟩, hPc⟩ := hp
  intro T hT X
  obtain ⟨v, vm₁, ⟨U', l2, c2, s2⟩, hW₁, X', ⟨g', mk, t, L, e1, e2, hq, h1, hL, h2, h3⟩, st⟩ := vx_callVW X hx (C := C) (hh := hh) (bytes := bytes) (maxL := maxL) (ret := ret) ho hl hin hse hcode hy hK (by rw [hT]; exact hcB) hoB hclB hg (hsize.trans hml.symm) (argsL := As) (rest := rest) (fun sig h => hn.trans (hlen sig h)) hstack hW (by rw [hb]; exact hdg)
    (fun vm₁ hW₁ => ⟨hf.1, hf.2, hPc (T.setVm vm₁) hT hW₁⟩)
  dsimp only [Pt.U, Pt.locs, Pt.cells, Pt.slots] at X' e1 e2 h1 h2 h3 st
  subst h1; subst h2; subst h3
  exact ⟨v, (T.setVm vm₁).calling g' mk (Value.ref b :: As).toArray, t, U', L, hT, X', hL, e1, e2, hq, st⟩
section
variable {y : MethodName} {bytes cc : ByteArray} {maxL nL mc ms n index : Nat} {ret : Option FieldType} {ws : List Cond} {rm : Room} {Pc : Array Value → State → Prop} {Qc : Array Value → State → Outcome → State → Prop} {XC : String → State → State → Prop} {free : Addr → Prop} {Ts : List Cond} {own C : String} {b : Addr} {As rest : List Value} {g : JFrame}
theorem vx_runVX {hh : List (Nat × Nat × Nat × Nat)} (S : CallFix p m c cc nL s args Ts own) (hM : vx_Met l y ws rm Pc Qc XC mc ms free) (cw : vx_CVW R s args own C index y bytes maxL ret hh ws rm mc ms n) (hp : PreV s H C b Pc As)
    (hg : g.method = m) (hn : As.length = n) (hsize : g.locals.size = nL) (hstack : g.stack = As.reverse ++ .ref b :: rest) (hW : 2 * g.monitorRoom + (rest.map fun v => v.category).sum ≤ 8) (hdg : decode cc g.pc = .ok (.invokevirtual index, 3)) (hf : cells + mc ≤ R.cells ∧ slots + ms ≤ R.slots) :
    vx_Run p l e R s m args below meth c H locs cells slots mc ms g rest (Qc (Value.ref b :: As).toArray) XC free := by
  obtain ⟨⟨hrc, hrs, hfr, hlo, hws, hcw⟩, hcode, hini, hy, hlen, hl, hin, hse⟩ := cw
  have hK : vx_Back l R p e below s args y 3 8 (PreOf R mc ms Pc) (PostOf Qc mc ms free) (vx_Post XC mc ms free) := vx_backW (hh := hh) (bytes := bytes) (maxL := maxL) (ret := ret) hM hp.1 hrc hrs hfr hlo hws hcw (fun a' U hW => word_at hW (Or.inl (by first | rfl | simp [Cond.onTables, Cond.keeps, Cond.steady])) hini)
  obtain ⟨hx, hb, hml, ho, -⟩ := S
  obtain ⟨-, ⟨cellB, hcB, hoB, hclB⟩, hPc⟩ := hp
  intro T hT X
  rcases vx_callVX X hx (C := C) (hh := hh) (bytes := bytes) (maxL := maxL) (ret := ret) ho hl hin hse hcode hy hK (by rw [hT]; exact hcB) hoB hclB hg (hsize.trans hml.symm) (argsL := As) (rest := rest) (fun sig h => hn.trans (hlen sig h)) hstack hW (by rw [hb]; exact hdg)
    (fun vm₁ hW₁ => ⟨hf.1, hf.2, hPc (T.setVm vm₁) hT hW₁⟩) with ⟨v, vm₁, ⟨U', l2, c2, s2⟩, hW₁, X', ⟨g', mk, t, L, e1, e2, hq, h1, hL, h2, h3⟩, st⟩ | ⟨q, vm₁, ⟨U', l2, c2, s2⟩, hW₁, X', ⟨g', mk, t, L, E, ce, e1, e2, hq, hce, hcv, hcl, h1, hL, h2, h3⟩, st⟩
  · dsimp only [Pt.U, Pt.locs, Pt.cells, Pt.slots] at X' e1 e2 h1 h2 h3 st
    subst h1; subst h2; subst h3
    exact Or.inl ⟨v, (T.setVm vm₁).calling g' mk (Value.ref b :: As).toArray, t, U', L, hT, X', hL, e1, e2, hq, st⟩
  · dsimp only [Pt.U, Pt.locs, Pt.cells, Pt.slots] at X' e1 e2 h1 h2 h3 st hcl
    subst h1; subst h2; subst h3
    exact Or.inr ⟨q, (T.setVm vm₁).calling g' mk (Value.ref b :: As).toArray, t, U', L, E, ce, hT, X', hL, e1, e2, hq, hce, hcv, vx_cls hW₁ hcl, st⟩
theorem vx_runSX {hh : List (Nat × Nat × Nat × Nat)} (S : CallFix p m c cc nL s args Ts own) (hM : vx_Met l y ws rm Pc Qc XC mc ms free) (cw : vx_CSW R s args own index y bytes maxL ret hh ws rm mc ms n) (hp : PreS s H Pc As)
    (hg : g.method = m) (hn : As.length = n) (hsize : g.locals.size = nL) (hstack : g.stack = As.reverse ++ rest) (hW : 2 * g.monitorRoom + (rest.map fun v => v.category).sum ≤ 8) (hdg : decode cc g.pc = .ok (.invokestatic index, 3)) (hf : cells + mc ≤ R.cells ∧ slots + ms ≤ R.slots) :
    vx_Run p l e R s m args below meth c H locs cells slots mc ms g rest (Qc As.toArray) XC free := by
  obtain ⟨⟨hrc, hrs, hfr, hlo, hws, hcw⟩, hcode, hini, hy, hlen, hl, hstt⟩ := cw
  have hK : vx_Back l R p e below s args y 3 8 (PreOf R mc ms Pc) (PostOf Qc mc ms free) (vx_Post XC mc ms free) := vx_backW (hh := hh) (bytes := bytes) (maxL := maxL) (ret := ret) hM hp.1 hrc hrs hfr hlo hws hcw (fun a' U hW => word_at hW (Or.inl (by first | rfl | simp [Cond.onTables, Cond.keeps, Cond.steady])) hini)
  obtain ⟨hx, hb, hml, ho, -⟩ := S
  intro T hT X
  rcases vx_callSX X hx (hh := hh) (bytes := bytes) (maxL := maxL) (ret := ret) ho hl hstt hini hcode hy hK hg (hsize.trans hml.symm) (argsL := As) (rest := rest) (fun sig h => hn.trans (hlen sig h)) hstack hW (by rw [hb]; exact hdg)
    (fun vm₁ hW₁ => ⟨hf.1, hf.2, hp.2 (T.setVm vm₁) hT hW₁⟩) with ⟨v, vm₁, ⟨U', l2, c2, s2⟩, hW₁, X', ⟨g', mk, t, L, e1, e2, hq, h1, hL, h2, h3⟩, st⟩ | ⟨q, vm₁, ⟨U', l2, c2, s2⟩, hW₁, X', ⟨g', mk, t, L, E, ce, e1, e2, hq, hce, hcv, hcl, h1, hL, h2, h3⟩, st⟩
  · dsimp only [Pt.U, Pt.locs, Pt.cells, Pt.slots] at X' e1 e2 h1 h2 h3 st
    subst h1; subst h2; subst h3
    exact Or.inl ⟨v, (T.setVm vm₁).calling g' mk As.toArray, t, U', L, hT, X', hL, e1, e2, hq, st⟩
  · dsimp only [Pt.U, Pt.locs, Pt.cells, Pt.slots] at X' e1 e2 h1 h2 h3 st hcl
    subst h1; subst h2; subst h3
    exact Or.inr ⟨q, (T.setVm vm₁).calling g' mk As.toArray, t, U', L, E, ce, hT, X', hL, e1, e2, hq, hce, hcv, vx_cls hW₁ hcl, st⟩
end
end VXH
theorem vx_ofWH {l : Launch} {y : MethodName} {ws ws' : List Cond} {rm : Room} {Pc : Array Value → State → Prop} {Qc : Array Value → State → Outcome → State → Prop} {XC : String → State → State → Prop} {mc ms : Nat} {free : Addr → Prop} {cc : ByteArray} {maxL : Nat} {ret : Option FieldType} {hh : List (Nat × Nat × Nat × Nat)}
    (hy : plainName y.cls = true) (hw : ws = Cond.codeWith y cc maxL ret hh :: ws')
    (body : ∀ p e s m args below meth c s₁, BodyLoose p l y (headSpec ws rm) cc maxL ret e s m args below meth c s₁ → c.maxLocals = maxL → Pc args s →
      W p l e (headSpec ws rm).room s m args below meth c s.heap [] 0 0 (vx_MQ below Qc XC args s mc ms free) (entryFrame m args maxL)) : vx_Met l y ws rm Pc Qc XC mc ms free := by
  refine MetFree.of_bodyS (code := cc) (maxLocals := maxL) (ret := ret) hy ?_ ?_
  · intro args s m h hn
    obtain ⟨m9, meth, c, hn9, h1, h2, h3, h4, -, h5, h6, -⟩ := Cond.codeWith_spec (atoms_spec (ws := ws) h _ (by rw [hw]; exact List.mem_cons_self))
    cases hn.symm.trans hn9
    exact ⟨meth, c, h1, h2, h3, h4, h5, h6⟩
  · intro p e s m args below meth c s₁ B hml hP _
    have hh0 : s₁.heap = s.heap := by rw [B.state]; rfl
    obtain ⟨t, a1, o, b1, b2, b3⟩ := body p e s m args below meth c s₁ B hml hP s₁ hh0 (Stand.of_body B)
    exact ⟨t, o, a1, b1, b2, b3⟩
/-! ===== END ===== -/
end
section
def RX0 : String := "Buildlots$Builds"
def TX0 : u_T := fun k => match k with
  | 0 => ("Buildlots$Builds", "names", "[I", true)
  | 1 => ("Buildlots$Builds", "versions", "[I", true)
  | 2 => ("Buildlots$Builds", "sources", "[I", true)
  | 3 => ("Buildlots$Builds", "results", "[I", true)
  | 4 => ("Buildlots$Builds", "attesters", "[I", true)
  | 5 => ("Buildlots$Builds", "vouchers", "[I", true)
  | 6 => ("Buildlots$Builds", "told", "[I", true)
  | 7 => ("Buildlots$Builds", "confirmed", "[I", true)
  | 8 => ("Buildlots$Builds", "marked", "I", false)
  | _ => ("Buildlots$Builds", "count", "I", false)
def tyX0 : Nat → FieldType := fun k => match k with
  | 0 => .array .int
  | 1 => .array .int
  | 2 => .array .int
  | 3 => .array .int
  | 4 => .array .int
  | 5 => .array .int
  | 6 => .array .int
  | 7 => .array .int
  | 8 => .int
  | _ => .int
abbrev wsX00 : List Cond := u_ws RX0 TX0 10
theorem nmX0 : ∀ a, a < 10 → ∀ b, b < 10 → a ≠ b → (TX0 a).2.1 ≠ (TX0 b).2.1 := by decide +kernel
theorem tyX0_ok : ∀ k, k < 10 → parseFieldDescriptor (TX0 k).2.2.1 = some (tyX0 k) := by decide +kernel
abbrev cX0_init : ByteArray := prog_2_method_1_code
def yX0_init : MethodName := ⟨RX0, "<init>", "()V"⟩
abbrev cX0_append : ByteArray := prog_2_method_2_code
def yX0_append : MethodName := ⟨RX0, "append", "(III)I"⟩
abbrev cX0_countOf : ByteArray := prog_2_method_3_code
def yX0_countOf : MethodName := ⟨RX0, "countOf", "(I)I"⟩
abbrev cX0_withTheirSources : ByteArray := prog_2_method_4_code
def yX0_withTheirSources : MethodName := ⟨RX0, "withTheirSources", "(I)I"⟩
abbrev cX0_all : ByteArray := prog_2_method_5_code
def yX0_all : MethodName := ⟨RX0, "all", "()I"⟩
abbrev cX0_recalled : ByteArray := prog_2_method_6_code
def yX0_recalled : MethodName := ⟨RX0, "recalled", "()I"⟩
abbrev cX0_newestOf : ByteArray := prog_2_method_7_code
def yX0_newestOf : MethodName := ⟨RX0, "newestOf", "(II)I"⟩
abbrev cX0_keepVouchers : ByteArray := prog_2_method_8_code
def yX0_keepVouchers : MethodName := ⟨RX0, "keepVouchers", "(LBuildlots$Keys;I)V"⟩
def RX1 : String := "Buildlots$Keys"
def TX1 : u_T := fun k => match k with
  | 0 => ("Buildlots$Keys", "signers", "[I", true)
  | 1 => ("Buildlots$Keys", "firsts", "[I", true)
  | 2 => ("Buildlots$Keys", "lasts", "[I", true)
  | 3 => ("Buildlots$Keys", "lost", "I", false)
  | _ => ("Buildlots$Keys", "count", "I", false)
def tyX1 : Nat → FieldType := fun k => match k with
  | 0 => .array .int
  | 1 => .array .int
  | 2 => .array .int
  | 3 => .int
  | _ => .int
abbrev wsX10 : List Cond := u_ws RX1 TX1 5
theorem nmX1 : ∀ a, a < 5 → ∀ b, b < 5 → a ≠ b → (TX1 a).2.1 ≠ (TX1 b).2.1 := by decide +kernel
theorem tyX1_ok : ∀ k, k < 5 → parseFieldDescriptor (TX1 k).2.2.1 = some (tyX1 k) := by decide +kernel
abbrev cX1_init : ByteArray := prog_3_method_1_code
def yX1_init : MethodName := ⟨RX1, "<init>", "()V"⟩
abbrev cX1_append : ByteArray := prog_3_method_2_code
def yX1_append : MethodName := ⟨RX1, "append", "(III)I"⟩
abbrev cX1_liveOn : ByteArray := prog_3_method_3_code
def yX1_liveOn : MethodName := ⟨RX1, "liveOn", "(II)Z"⟩
abbrev cX1_live : ByteArray := prog_3_method_4_code
def yX1_live : MethodName := ⟨RX1, "live", "(I)I"⟩
abbrev cX1_signersOf : ByteArray := prog_3_method_5_code
def yX1_signersOf : MethodName := ⟨RX1, "signersOf", "(I)I"⟩
def RX2 : String := "Buildlots$Mirrors"
def TX2 : u_T := fun k => match k with
  | 0 => ("Buildlots$Mirrors", "updatedOn", "[I", true)
  | 1 => ("Buildlots$Mirrors", "offered", "[I", true)
  | _ => ("Buildlots$Mirrors", "count", "I", false)
def tyX2 : Nat → FieldType := fun k => match k with
  | 0 => .array .int
  | 1 => .array .int
  | _ => .int
abbrev wsX20 : List Cond := u_ws RX2 TX2 3
theorem nmX2 : ∀ a, a < 3 → ∀ b, b < 3 → a ≠ b → (TX2 a).2.1 ≠ (TX2 b).2.1 := by decide +kernel
theorem tyX2_ok : ∀ k, k < 3 → parseFieldDescriptor (TX2 k).2.2.1 = some (tyX2 k) := by decide +kernel
abbrev cX2_init : ByteArray := prog_4_method_1_code
def yX2_init : MethodName := ⟨RX2, "<init>", "()V"⟩
abbrev cX2_append : ByteArray := prog_4_method_2_code
def yX2_append : MethodName := ⟨RX2, "append", "()I"⟩
def RX3 : String := "Buildlots"
def TX3 : u_T := fun k => match k with
  | 0 => ("Buildlots", "keys", "LBuildlots$Keys;", true)
  | 1 => ("Buildlots", "builds", "LBuildlots$Builds;", true)
  | 2 => ("Buildlots", "mirrors", "LBuildlots$Mirrors;", true)
  | 3 => ("Buildlots", "weights", "[I", true)
  | 4 => ("Buildlots", "thresholds", "[I", true)
  | 5 => ("Buildlots", "expiry", "I", false)
  | _ => ("Buildlots", "today", "I", false)
def tyX3 : Nat → FieldType := fun k => match k with
  | 0 => .object "Buildlots$Keys"
  | 1 => .object "Buildlots$Builds"
  | 2 => .object "Buildlots$Mirrors"
  | 3 => .array .int
  | 4 => .array .int
  | 5 => .int
  | _ => .int
abbrev wsX30 : List Cond := u_ws RX3 TX3 7
theorem nmX3 : ∀ a, a < 7 → ∀ b, b < 7 → a ≠ b → (TX3 a).2.1 ≠ (TX3 b).2.1 := by decide +kernel
theorem tyX3_ok : ∀ k, k < 7 → parseFieldDescriptor (TX3 k).2.2.1 = some (tyX3 k) := by decide +kernel
abbrev cX3_init : ByteArray := prog_1_method_1_code
def yX3_init : MethodName := ⟨RX3, "<init>", "()V"⟩
abbrev cX3_addKey : ByteArray := prog_1_method_2_code
def yX3_addKey : MethodName := ⟨RX3, "addKey", "(III)I"⟩
abbrev cX3_loseKey : ByteArray := prog_1_method_3_code
def yX3_loseKey : MethodName := ⟨RX3, "loseKey", "(I)I"⟩
abbrev cX3_extendKey : ByteArray := prog_1_method_4_code
def yX3_extendKey : MethodName := ⟨RX3, "extendKey", "(II)I"⟩
abbrev cX3_isLive : ByteArray := prog_1_method_5_code
def yX3_isLive : MethodName := ⟨RX3, "isLive", "(I)Z"⟩
abbrev cX3_setWeight : ByteArray := prog_1_method_6_code
def yX3_setWeight : MethodName := ⟨RX3, "setWeight", "(II)I"⟩
abbrev cX3_setThreshold : ByteArray := prog_1_method_7_code
def yX3_setThreshold : MethodName := ⟨RX3, "setThreshold", "(II)I"⟩
abbrev cX3_build : ByteArray := prog_1_method_8_code
def yX3_build : MethodName := ⟨RX3, "build", "(III)I"⟩
abbrev cX3_nameOf : ByteArray := prog_1_method_9_code
def yX3_nameOf : MethodName := ⟨RX3, "nameOf", "(I)I"⟩
abbrev cX3_version : ByteArray := prog_1_method_10_code
def yX3_version : MethodName := ⟨RX3, "version", "(I)I"⟩
abbrev cX3_uses : ByteArray := prog_1_method_11_code
def yX3_uses : MethodName := ⟨RX3, "uses", "(II)Z"⟩
abbrev cX3_used : ByteArray := prog_1_method_12_code
def yX3_used : MethodName := ⟨RX3, "used", "(I)I"⟩
abbrev cX3_newest : ByteArray := prog_1_method_13_code
def yX3_newest : MethodName := ⟨RX3, "newest", "(I)I"⟩
abbrev cX3_attest : ByteArray := prog_1_method_14_code
def yX3_attest : MethodName := ⟨RX3, "attest", "(II)I"⟩
abbrev cX3_vouches : ByteArray := prog_1_method_15_code
def yX3_vouches : MethodName := ⟨RX3, "vouches", "(II)Z"⟩
abbrev cX3_vouchesByList : ByteArray := prog_1_method_16_code
def yX3_vouchesByList : MethodName := ⟨RX3, "vouchesByList", "(II)Z"⟩
abbrev cX3_score : ByteArray := prog_1_method_17_code
def yX3_score : MethodName := ⟨RX3, "score", "(I)F"⟩
abbrev cX3_scoreBits : ByteArray := prog_1_method_18_code
def yX3_scoreBits : MethodName := ⟨RX3, "scoreBits", "(I)I"⟩
abbrev cX3_isTrusted : ByteArray := prog_1_method_19_code
def yX3_isTrusted : MethodName := ⟨RX3, "isTrusted", "(I)Z"⟩
abbrev cX3_hangsOnKey : ByteArray := prog_1_method_20_code
def yX3_hangsOnKey : MethodName := ⟨RX3, "hangsOnKey", "(I)I"⟩
abbrev cX3_recall : ByteArray := prog_1_method_21_code
def yX3_recall : MethodName := ⟨RX3, "recall", "(I)I"⟩
abbrev cX3_lift : ByteArray := prog_1_method_22_code
def yX3_lift : MethodName := ⟨RX3, "lift", "(I)I"⟩
abbrev cX3_isRecalled : ByteArray := prog_1_method_23_code
def yX3_isRecalled : MethodName := ⟨RX3, "isRecalled", "(I)Z"⟩
abbrev cX3_rebuild : ByteArray := prog_1_method_24_code
def yX3_rebuild : MethodName := ⟨RX3, "rebuild", "(II)Z"⟩
abbrev cX3_share : ByteArray := prog_1_method_25_code
def yX3_share : MethodName := ⟨RX3, "share", "(I)F"⟩
abbrev cX3_addMirror : ByteArray := prog_1_method_26_code
def yX3_addMirror : MethodName := ⟨RX3, "addMirror", "()I"⟩
abbrev cX3_update : ByteArray := prog_1_method_27_code
def yX3_update : MethodName := ⟨RX3, "update", "(I)I"⟩
abbrev cX3_isExpired : ByteArray := prog_1_method_28_code
def yX3_isExpired : MethodName := ⟨RX3, "isExpired", "(I)Z"⟩
abbrev cX3_setExpiry : ByteArray := prog_1_method_29_code
def yX3_setExpiry : MethodName := ⟨RX3, "setExpiry", "(I)I"⟩
abbrev cX3_install : ByteArray := prog_1_method_30_code
def yX3_install : MethodName := ⟨RX3, "install", "(II)I"⟩
abbrev cX3_pass : ByteArray := prog_1_method_31_code
def yX3_pass : MethodName := ⟨RX3, "pass", "(I)I"⟩
abbrev cX3_day : ByteArray := prog_1_method_32_code
def yX3_day : MethodName := ⟨RX3, "day", "()I"⟩
abbrev cX3_scoreSumBits : ByteArray := prog_1_method_33_code
def yX3_scoreSumBits : MethodName := ⟨RX3, "scoreSumBits", "()J"⟩
abbrev cX3_scoreFrom : ByteArray := prog_1_method_34_code
def yX3_scoreFrom : MethodName := ⟨RX3, "scoreFrom", "(I)F"⟩
abbrev cX3_suffices : ByteArray := prog_1_method_35_code
def yX3_suffices : MethodName := ⟨RX3, "suffices", "(II)Z"⟩
abbrev cX3_trustedBuilds : ByteArray := prog_1_method_36_code
def yX3_trustedBuilds : MethodName := ⟨RX3, "trustedBuilds", "()I"⟩
abbrev cX3_hasExpired : ByteArray := prog_1_method_37_code
def yX3_hasExpired : MethodName := ⟨RX3, "hasExpired", "(I)Z"⟩
abbrev cX3_requireSigner : ByteArray := prog_1_method_38_code
def yX3_requireSigner : MethodName := ⟨RX3, "requireSigner", "(I)V"⟩
abbrev cX3_requireName : ByteArray := prog_1_method_39_code
def yX3_requireName : MethodName := ⟨RX3, "requireName", "(I)V"⟩
abbrev cX3_requireKey : ByteArray := prog_1_method_40_code
def yX3_requireKey : MethodName := ⟨RX3, "requireKey", "(I)V"⟩
abbrev cX3_requireBuild : ByteArray := prog_1_method_41_code
def yX3_requireBuild : MethodName := ⟨RX3, "requireBuild", "(I)V"⟩
abbrev cX3_requireMirror : ByteArray := prog_1_method_42_code
def yX3_requireMirror : MethodName := ⟨RX3, "requireMirror", "(I)V"⟩
abbrev cX3_requireFound : ByteArray := prog_1_method_43_code
def yX3_requireFound : MethodName := ⟨RX3, "requireFound", "(I)I"⟩
abbrev cX3_only : ByteArray := prog_1_method_44_code
def yX3_only : MethodName := ⟨RX3, "only", "(I)I"⟩
abbrev cX3_holds : ByteArray := prog_1_method_45_code
def yX3_holds : MethodName := ⟨RX3, "holds", "(II)Z"⟩
abbrev cX3_doubleBits : ByteArray := prog_1_method_46_code
def yX3_doubleBits : MethodName := ⟨RX3, "doubleBits", "(D)J"⟩
abbrev cX3_floatBits : ByteArray := prog_1_method_47_code
def yX3_floatBits : MethodName := ⟨RX3, "floatBits", "(F)I"⟩
def RX4 : String := "BuildlotsModel"
def TX4 : u_T := fun k => match k with
  | 0 => ("BuildlotsModel", "weights", "[I", true)
  | 1 => ("BuildlotsModel", "thresholds", "[I", true)
  | 2 => ("BuildlotsModel", "keys", "I", false)
  | 3 => ("BuildlotsModel", "signers", "[I", true)
  | 4 => ("BuildlotsModel", "firsts", "[I", true)
  | 5 => ("BuildlotsModel", "lasts", "[I", true)
  | 6 => ("BuildlotsModel", "areLost", "[Z", true)
  | 7 => ("BuildlotsModel", "builds", "I", false)
  | 8 => ("BuildlotsModel", "names", "[I", true)
  | 9 => ("BuildlotsModel", "versions", "[I", true)
  | 10 => ("BuildlotsModel", "used", "[I", true)
  | 11 => ("BuildlotsModel", "results", "[I", true)
  | 12 => ("BuildlotsModel", "attested", "[I", true)
  | 13 => ("BuildlotsModel", "areMarked", "[Z", true)
  | 14 => ("BuildlotsModel", "told", "[I", true)
  | 15 => ("BuildlotsModel", "right", "[I", true)
  | 16 => ("BuildlotsModel", "mirrors", "I", false)
  | 17 => ("BuildlotsModel", "listed", "[I", true)
  | 18 => ("BuildlotsModel", "listRecalled", "[I", true)
  | 19 => ("BuildlotsModel", "listedOn", "[I", true)
  | 20 => ("BuildlotsModel", "expiry", "I", false)
  | 21 => ("BuildlotsModel", "day", "I", false)
  | _ => ("BuildlotsModel", "code", "I", false)
def tyX4 : Nat → FieldType := fun k => match k with
  | 0 => .array .int
  | 1 => .array .int
  | 2 => .int
  | 3 => .array .int
  | 4 => .array .int
  | 5 => .array .int
  | 6 => .array .boolean
  | 7 => .int
  | 8 => .array .int
  | 9 => .array .int
  | 10 => .array .int
  | 11 => .array .int
  | 12 => .array .int
  | 13 => .array .boolean
  | 14 => .array .int
  | 15 => .array .int
  | 16 => .int
  | 17 => .array .int
  | 18 => .array .int
  | 19 => .array .int
  | 20 => .int
  | 21 => .int
  | _ => .int
abbrev wsX40 : List Cond := u_ws RX4 TX4 23
theorem nmX4 : ∀ a, a < 23 → ∀ b, b < 23 → a ≠ b → (TX4 a).2.1 ≠ (TX4 b).2.1 := by decide +kernel
theorem tyX4_ok : ∀ k, k < 23 → parseFieldDescriptor (TX4 k).2.2.1 = some (tyX4 k) := by decide +kernel
abbrev cX4_init : ByteArray := prog_6_method_1_code
def yX4_init : MethodName := ⟨RX4, "<init>", "()V"⟩
abbrev cX4_thrown : ByteArray := prog_6_method_2_code
def yX4_thrown : MethodName := ⟨RX4, "thrown", "()I"⟩
abbrev cX4_fails : ByteArray := prog_6_method_3_code
def yX4_fails : MethodName := ⟨RX4, "fails", "(I)Z"⟩
abbrev cX4_tells : ByteArray := prog_6_method_4_code
def yX4_tells : MethodName := ⟨RX4, "tells", "(I)I"⟩
abbrev cX4_in : ByteArray := prog_6_method_5_code
def yX4_in : MethodName := ⟨RX4, "in", "(III)Z"⟩
abbrev cX4_isNoKey : ByteArray := prog_6_method_6_code
def yX4_isNoKey : MethodName := ⟨RX4, "isNoKey", "(I)Z"⟩
abbrev cX4_isNoBuild : ByteArray := prog_6_method_7_code
def yX4_isNoBuild : MethodName := ⟨RX4, "isNoBuild", "(I)Z"⟩
abbrev cX4_isNoMirror : ByteArray := prog_6_method_8_code
def yX4_isNoMirror : MethodName := ⟨RX4, "isNoMirror", "(I)Z"⟩
abbrev cX4_bits : ByteArray := prog_6_method_9_code
def yX4_bits : MethodName := ⟨RX4, "bits", "(I)I"⟩
abbrev cX4_addKey : ByteArray := prog_6_method_10_code
def yX4_addKey : MethodName := ⟨RX4, "addKey", "(III)I"⟩
abbrev cX4_lives : ByteArray := prog_6_method_11_code
def yX4_lives : MethodName := ⟨RX4, "lives", "(I)Z"⟩
abbrev cX4_loseKey : ByteArray := prog_6_method_12_code
def yX4_loseKey : MethodName := ⟨RX4, "loseKey", "(I)I"⟩
abbrev cX4_extendKey : ByteArray := prog_6_method_13_code
def yX4_extendKey : MethodName := ⟨RX4, "extendKey", "(II)I"⟩
abbrev cX4_isLive : ByteArray := prog_6_method_14_code
def yX4_isLive : MethodName := ⟨RX4, "isLive", "(I)Z"⟩
abbrev cX4_setWeight : ByteArray := prog_6_method_15_code
def yX4_setWeight : MethodName := ⟨RX4, "setWeight", "(II)I"⟩
abbrev cX4_isNoName : ByteArray := prog_6_method_16_code
def yX4_isNoName : MethodName := ⟨RX4, "isNoName", "(I)Z"⟩
abbrev cX4_setThreshold : ByteArray := prog_6_method_17_code
def yX4_setThreshold : MethodName := ⟨RX4, "setThreshold", "(II)I"⟩
abbrev cX4_areRecalled : ByteArray := prog_6_method_18_code
def yX4_areRecalled : MethodName := ⟨RX4, "areRecalled", "(I)Z"⟩
abbrev cX4_build : ByteArray := prog_6_method_19_code
def yX4_build : MethodName := ⟨RX4, "build", "(III)I"⟩
abbrev cX4_nameOf : ByteArray := prog_6_method_20_code
def yX4_nameOf : MethodName := ⟨RX4, "nameOf", "(I)I"⟩
abbrev cX4_version : ByteArray := prog_6_method_21_code
def yX4_version : MethodName := ⟨RX4, "version", "(I)I"⟩
abbrev cX4_uses : ByteArray := prog_6_method_22_code
def yX4_uses : MethodName := ⟨RX4, "uses", "(II)Z"⟩
abbrev cX4_used : ByteArray := prog_6_method_23_code
def yX4_used : MethodName := ⟨RX4, "used", "(I)I"⟩
abbrev cX4_greatest : ByteArray := prog_6_method_24_code
def yX4_greatest : MethodName := ⟨RX4, "greatest", "(II)I"⟩
abbrev cX4_newest : ByteArray := prog_6_method_25_code
def yX4_newest : MethodName := ⟨RX4, "newest", "(I)I"⟩
abbrev cX4_attest : ByteArray := prog_6_method_26_code
def yX4_attest : MethodName := ⟨RX4, "attest", "(II)I"⟩
abbrev cX4_backs : ByteArray := prog_6_method_27_code
def yX4_backs : MethodName := ⟨RX4, "backs", "(III)Z"⟩
abbrev cX4_vouched : ByteArray := prog_6_method_28_code
def yX4_vouched : MethodName := ⟨RX4, "vouched", "(II)Z"⟩
abbrev cX4_vouches : ByteArray := prog_6_method_29_code
def yX4_vouches : MethodName := ⟨RX4, "vouches", "(II)Z"⟩
abbrev cX4_vouchesByList : ByteArray := prog_6_method_30_code
def yX4_vouchesByList : MethodName := ⟨RX4, "vouchesByList", "(II)Z"⟩
abbrev cX4_scoreOf : ByteArray := prog_6_method_31_code
def yX4_scoreOf : MethodName := ⟨RX4, "scoreOf", "(II)F"⟩
abbrev cX4_isEnough : ByteArray := prog_6_method_32_code
def yX4_isEnough : MethodName := ⟨RX4, "isEnough", "(II)Z"⟩
abbrev cX4_trustedWithout : ByteArray := prog_6_method_33_code
def yX4_trustedWithout : MethodName := ⟨RX4, "trustedWithout", "(I)I"⟩
abbrev cX4_trusted : ByteArray := prog_6_method_34_code
def yX4_trusted : MethodName := ⟨RX4, "trusted", "()I"⟩
abbrev cX4_score : ByteArray := prog_6_method_35_code
def yX4_score : MethodName := ⟨RX4, "score", "(I)F"⟩
abbrev cX4_scoreBits : ByteArray := prog_6_method_36_code
def yX4_scoreBits : MethodName := ⟨RX4, "scoreBits", "(I)I"⟩
abbrev cX4_isTrusted : ByteArray := prog_6_method_37_code
def yX4_isTrusted : MethodName := ⟨RX4, "isTrusted", "(I)Z"⟩
abbrev cX4_hangsOnKey : ByteArray := prog_6_method_38_code
def yX4_hangsOnKey : MethodName := ⟨RX4, "hangsOnKey", "(I)I"⟩
abbrev cX4_isGone : ByteArray := prog_6_method_39_code
def yX4_isGone : MethodName := ⟨RX4, "isGone", "(I)Z"⟩
abbrev cX4_recalled : ByteArray := prog_6_method_40_code
def yX4_recalled : MethodName := ⟨RX4, "recalled", "()I"⟩
abbrev cX4_marks : ByteArray := prog_6_method_41_code
def yX4_marks : MethodName := ⟨RX4, "marks", "(IZ)I"⟩
abbrev cX4_recall : ByteArray := prog_6_method_42_code
def yX4_recall : MethodName := ⟨RX4, "recall", "(I)I"⟩
abbrev cX4_lift : ByteArray := prog_6_method_43_code
def yX4_lift : MethodName := ⟨RX4, "lift", "(I)I"⟩
abbrev cX4_isRecalled : ByteArray := prog_6_method_44_code
def yX4_isRecalled : MethodName := ⟨RX4, "isRecalled", "(I)Z"⟩
abbrev cX4_rebuild : ByteArray := prog_6_method_45_code
def yX4_rebuild : MethodName := ⟨RX4, "rebuild", "(II)Z"⟩
abbrev cX4_share : ByteArray := prog_6_method_46_code
def yX4_share : MethodName := ⟨RX4, "share", "(I)F"⟩
abbrev cX4_addMirror : ByteArray := prog_6_method_47_code
def yX4_addMirror : MethodName := ⟨RX4, "addMirror", "()I"⟩
abbrev cX4_update : ByteArray := prog_6_method_48_code
def yX4_update : MethodName := ⟨RX4, "update", "(I)I"⟩
abbrev cX4_isOld : ByteArray := prog_6_method_49_code
def yX4_isOld : MethodName := ⟨RX4, "isOld", "(I)Z"⟩
abbrev cX4_isExpired : ByteArray := prog_6_method_50_code
def yX4_isExpired : MethodName := ⟨RX4, "isExpired", "(I)Z"⟩
abbrev cX4_setExpiry : ByteArray := prog_6_method_51_code
def yX4_setExpiry : MethodName := ⟨RX4, "setExpiry", "(I)I"⟩
abbrev cX4_install : ByteArray := prog_6_method_52_code
def yX4_install : MethodName := ⟨RX4, "install", "(II)I"⟩
abbrev cX4_pass : ByteArray := prog_6_method_53_code
def yX4_pass : MethodName := ⟨RX4, "pass", "(I)I"⟩
abbrev cX4_day : ByteArray := prog_6_method_54_code
def yX4_day : MethodName := ⟨RX4, "day", "()I"⟩
abbrev cX4_scoreSumBits : ByteArray := prog_6_method_55_code
def yX4_scoreSumBits : MethodName := ⟨RX4, "scoreSumBits", "()J"⟩
def RJx145de : String := "java/io/Serializable"
def TJx145de : u_T := fun k => match k with
  | _ => ("", "", "", false)
def tyJx145de : Nat → FieldType := fun k => match k with
  | _ => .int
abbrev wsJx145de0 : List Cond := u_ws RJx145de TJx145de 0
theorem nmJx145de : ∀ a, a < 0 → ∀ b, b < 0 → a ≠ b → (TJx145de a).2.1 ≠ (TJx145de b).2.1 := by decide +kernel
theorem tyJx145de_ok : ∀ k, k < 0 → parseFieldDescriptor (TJx145de k).2.2.1 = some (tyJx145de k) := by decide +kernel
def RJxb160c : String := "java/lang/Comparable"
def TJxb160c : u_T := fun k => match k with
  | _ => ("", "", "", false)
def tyJxb160c : Nat → FieldType := fun k => match k with
  | _ => .int
abbrev wsJxb160c0 : List Cond := u_ws RJxb160c TJxb160c 0
theorem nmJxb160c : ∀ a, a < 0 → ∀ b, b < 0 → a ≠ b → (TJxb160c a).2.1 ≠ (TJxb160c b).2.1 := by decide +kernel
theorem tyJxb160c_ok : ∀ k, k < 0 → parseFieldDescriptor (TJxb160c k).2.2.1 = some (tyJxb160c k) := by decide +kernel
def RJxe99ae : String := "java/lang/Double"
def TJxe99ae : u_T := fun k => match k with
  | _ => ("", "", "", false)
def tyJxe99ae : Nat → FieldType := fun k => match k with
  | _ => .int
abbrev wsJxe99ae0 : List Cond := u_ws RJxe99ae TJxe99ae 0
theorem nmJxe99ae : ∀ a, a < 0 → ∀ b, b < 0 → a ≠ b → (TJxe99ae a).2.1 ≠ (TJxe99ae b).2.1 := by decide +kernel
theorem tyJxe99ae_ok : ∀ k, k < 0 → parseFieldDescriptor (TJxe99ae k).2.2.1 = some (tyJxe99ae k) := by decide +kernel
abbrev cJxe99ae_isNaN_b9ae7 : ByteArray := prog_9_method_6_code
def yJxe99ae_isNaN_b9ae7 : MethodName := ⟨RJxe99ae, "isNaN", "(D)Z"⟩
abbrev cJxe99ae_doubleToLongBits_ccdee : ByteArray := prog_9_method_23_code
def yJxe99ae_doubleToLongBits_ccdee : MethodName := ⟨RJxe99ae, "doubleToLongBits", "(D)J"⟩
def RJxf58ca : String := "java/lang/Float"
def TJxf58ca : u_T := fun k => match k with
  | _ => ("", "", "", false)
def tyJxf58ca : Nat → FieldType := fun k => match k with
  | _ => .int
abbrev wsJxf58ca0 : List Cond := u_ws RJxf58ca TJxf58ca 0
theorem nmJxf58ca : ∀ a, a < 0 → ∀ b, b < 0 → a ≠ b → (TJxf58ca a).2.1 ≠ (TJxf58ca b).2.1 := by decide +kernel
theorem tyJxf58ca_ok : ∀ k, k < 0 → parseFieldDescriptor (TJxf58ca k).2.2.1 = some (tyJxf58ca k) := by decide +kernel
abbrev cJxf58ca_isNaN_12338 : ByteArray := prog_11_method_6_code
def yJxf58ca_isNaN_12338 : MethodName := ⟨RJxf58ca, "isNaN", "(F)Z"⟩
abbrev cJxf58ca_floatToIntBits_5c35a : ByteArray := prog_11_method_24_code
def yJxf58ca_floatToIntBits_5c35a : MethodName := ⟨RJxf58ca, "floatToIntBits", "(F)I"⟩
def RJ6 : String := "java/lang/Integer"
def TJ6 : u_T := fun k => match k with
  | _ => ("", "", "", false)
def tyJ6 : Nat → FieldType := fun k => match k with
  | _ => .int
abbrev wsJ60 : List Cond := u_ws RJ6 TJ6 0
theorem nmJ6 : ∀ a, a < 0 → ∀ b, b < 0 → a ≠ b → (TJ6 a).2.1 ≠ (TJ6 b).2.1 := by decide +kernel
theorem tyJ6_ok : ∀ k, k < 0 → parseFieldDescriptor (TJ6 k).2.2.1 = some (tyJ6 k) := by decide +kernel
abbrev cJ6_bitCount_0f7a4 : ByteArray := prog_15_method_49_code
def yJ6_bitCount_0f7a4 : MethodName := ⟨RJ6, "bitCount", "(I)I"⟩
def RJxd2413 : String := "java/lang/Number"
def TJxd2413 : u_T := fun k => match k with
  | _ => ("", "", "", false)
def tyJxd2413 : Nat → FieldType := fun k => match k with
  | _ => .int
abbrev wsJxd24130 : List Cond := u_ws RJxd2413 TJxd2413 0
theorem nmJxd2413 : ∀ a, a < 0 → ∀ b, b < 0 → a ≠ b → (TJxd2413 a).2.1 ≠ (TJxd2413 b).2.1 := by decide +kernel
theorem tyJxd2413_ok : ∀ k, k < 0 → parseFieldDescriptor (TJxd2413 k).2.2.1 = some (tyJxd2413 k) := by decide +kernel
def RJ0 : String := "java/lang/String"
def TJ0 : u_T := fun k => match k with
  | _ => ("", "", "", false)
def tyJ0 : Nat → FieldType := fun k => match k with
  | _ => .int
abbrev wsJ00 : List Cond := u_ws RJ0 TJ0 0
theorem nmJ0 : ∀ a, a < 0 → ∀ b, b < 0 → a ≠ b → (TJ0 a).2.1 ≠ (TJ0 b).2.1 := by decide +kernel
theorem tyJ0_ok : ∀ k, k < 0 → parseFieldDescriptor (TJ0 k).2.2.1 = some (tyJ0 k) := by decide +kernel
def RJxfd54e : String := "java/lang/constant/Constable"
def TJxfd54e : u_T := fun k => match k with
  | _ => ("", "", "", false)
def tyJxfd54e : Nat → FieldType := fun k => match k with
  | _ => .int
abbrev wsJxfd54e0 : List Cond := u_ws RJxfd54e TJxfd54e 0
theorem nmJxfd54e : ∀ a, a < 0 → ∀ b, b < 0 → a ≠ b → (TJxfd54e a).2.1 ≠ (TJxfd54e b).2.1 := by decide +kernel
theorem tyJxfd54e_ok : ∀ k, k < 0 → parseFieldDescriptor (TJxfd54e k).2.2.1 = some (tyJxfd54e k) := by decide +kernel
def RJx3cf43 : String := "java/lang/constant/ConstantDesc"
def TJx3cf43 : u_T := fun k => match k with
  | _ => ("", "", "", false)
def tyJx3cf43 : Nat → FieldType := fun k => match k with
  | _ => .int
abbrev wsJx3cf430 : List Cond := u_ws RJx3cf43 TJx3cf43 0
theorem nmJx3cf43 : ∀ a, a < 0 → ∀ b, b < 0 → a ≠ b → (TJx3cf43 a).2.1 ≠ (TJx3cf43 b).2.1 := by decide +kernel
theorem tyJx3cf43_ok : ∀ k, k < 0 → parseFieldDescriptor (TJx3cf43 k).2.2.1 = some (tyJx3cf43 k) := by decide +kernel
def RL : String := "BuildlotsLaw"
abbrev cL_addKey : ByteArray := method_3_code
def yL_addKey : MethodName := ⟨RL, "addKey", "(LBuildlots;III[J)I"⟩
abbrev cL_loseKey : ByteArray := method_4_code
def yL_loseKey : MethodName := ⟨RL, "loseKey", "(LBuildlots;I[J)I"⟩
abbrev cL_extendKey : ByteArray := method_5_code
def yL_extendKey : MethodName := ⟨RL, "extendKey", "(LBuildlots;II[J)I"⟩
abbrev cL_isLive : ByteArray := method_6_code
def yL_isLive : MethodName := ⟨RL, "isLive", "(LBuildlots;I[J)I"⟩
abbrev cL_setWeight : ByteArray := method_7_code
def yL_setWeight : MethodName := ⟨RL, "setWeight", "(LBuildlots;II[J)I"⟩
abbrev cL_setThreshold : ByteArray := method_8_code
def yL_setThreshold : MethodName := ⟨RL, "setThreshold", "(LBuildlots;II[J)I"⟩
abbrev cL_build : ByteArray := method_9_code
def yL_build : MethodName := ⟨RL, "build", "(LBuildlots;III[J)I"⟩
abbrev cL_nameOf : ByteArray := method_10_code
def yL_nameOf : MethodName := ⟨RL, "nameOf", "(LBuildlots;I[J)I"⟩
abbrev cL_version : ByteArray := method_11_code
def yL_version : MethodName := ⟨RL, "version", "(LBuildlots;I[J)I"⟩
abbrev cL_uses : ByteArray := method_12_code
def yL_uses : MethodName := ⟨RL, "uses", "(LBuildlots;II[J)I"⟩
abbrev cL_used : ByteArray := method_13_code
def yL_used : MethodName := ⟨RL, "used", "(LBuildlots;I[J)I"⟩
abbrev cL_newest : ByteArray := method_14_code
def yL_newest : MethodName := ⟨RL, "newest", "(LBuildlots;I[J)I"⟩
abbrev cL_attest : ByteArray := method_15_code
def yL_attest : MethodName := ⟨RL, "attest", "(LBuildlots;II[J)I"⟩
abbrev cL_vouches : ByteArray := method_16_code
def yL_vouches : MethodName := ⟨RL, "vouches", "(LBuildlots;II[J)I"⟩
abbrev cL_vouchesByList : ByteArray := method_17_code
def yL_vouchesByList : MethodName := ⟨RL, "vouchesByList", "(LBuildlots;II[J)I"⟩
abbrev cL_score : ByteArray := method_18_code
def yL_score : MethodName := ⟨RL, "score", "(LBuildlots;I[D)I"⟩
abbrev cL_scoreBits : ByteArray := method_19_code
def yL_scoreBits : MethodName := ⟨RL, "scoreBits", "(LBuildlots;I[J)I"⟩
abbrev cL_isTrusted : ByteArray := method_20_code
def yL_isTrusted : MethodName := ⟨RL, "isTrusted", "(LBuildlots;I[J)I"⟩
abbrev cL_hangsOnKey : ByteArray := method_21_code
def yL_hangsOnKey : MethodName := ⟨RL, "hangsOnKey", "(LBuildlots;I[J)I"⟩
abbrev cL_recall : ByteArray := method_22_code
def yL_recall : MethodName := ⟨RL, "recall", "(LBuildlots;I[J)I"⟩
abbrev cL_lift : ByteArray := method_23_code
def yL_lift : MethodName := ⟨RL, "lift", "(LBuildlots;I[J)I"⟩
abbrev cL_isRecalled : ByteArray := method_24_code
def yL_isRecalled : MethodName := ⟨RL, "isRecalled", "(LBuildlots;I[J)I"⟩
abbrev cL_rebuild : ByteArray := method_25_code
def yL_rebuild : MethodName := ⟨RL, "rebuild", "(LBuildlots;II[J)I"⟩
abbrev cL_share : ByteArray := method_26_code
def yL_share : MethodName := ⟨RL, "share", "(LBuildlots;I[D)I"⟩
abbrev cL_addMirror : ByteArray := method_27_code
def yL_addMirror : MethodName := ⟨RL, "addMirror", "(LBuildlots;[J)I"⟩
abbrev cL_update : ByteArray := method_28_code
def yL_update : MethodName := ⟨RL, "update", "(LBuildlots;I[J)I"⟩
abbrev cL_isExpired : ByteArray := method_29_code
def yL_isExpired : MethodName := ⟨RL, "isExpired", "(LBuildlots;I[J)I"⟩
abbrev cL_setExpiry : ByteArray := method_30_code
def yL_setExpiry : MethodName := ⟨RL, "setExpiry", "(LBuildlots;I[J)I"⟩
abbrev cL_install : ByteArray := method_31_code
def yL_install : MethodName := ⟨RL, "install", "(LBuildlots;II[J)I"⟩
abbrev cL_pass : ByteArray := method_32_code
def yL_pass : MethodName := ⟨RL, "pass", "(LBuildlots;I[J)I"⟩
abbrev cL_law : ByteArray := code
def yL_law : MethodName := ⟨RL, "law", "([I)Z"⟩
def wsX0_init : List Cond := .code yX0_init cX0_init 1 none :: ([.methodLink RX0 3 objectInit, .instanceMethod objectInit, .code objectInit ⟨#[0xb1]⟩ 1 none, .arrayClass .int, .fieldLink RX0 9 "Buildlots$Builds" "names" "[I", .fieldLink RX0 15 "Buildlots$Builds" "versions" "[I", .fieldLink RX0 18 "Buildlots$Builds" "sources" "[I", .fieldLink RX0 21 "Buildlots$Builds" "results" "[I", .fieldLink RX0 24 "Buildlots$Builds" "attesters" "[I", .fieldLink RX0 27 "Buildlots$Builds" "vouchers" "[I", .fieldLink RX0 30 "Buildlots$Builds" "told" "[I", .fieldLink RX0 33 "Buildlots$Builds" "confirmed" "[I"] ++ wsX00)
def wsX0_countOf : List Cond := .code yX0_countOf cX0_countOf 4 (some .int) :: ([.fieldLink RX0 36 "Buildlots$Builds" "count" "I", .fieldLink RX0 9 "Buildlots$Builds" "names" "[I"] ++ wsX00)
def wsX3_only : List Cond := .code yX3_only cX3_only 1 (some .int) :: ([])
def wsX3_holds : List Cond := .code yX3_holds cX3_holds 2 (some .boolean) :: ([.methodLink RX3 83 yX3_only, .static yX3_only, .initialized RX3, .code yX3_only cX3_only 1 (some .int)])
def wsX0_withTheirSources : List Cond := .code yX0_withTheirSources cX0_withTheirSources 4 (some .int) :: ([.fieldLink RX0 36 "Buildlots$Builds" "count" "I", .fieldLink RX0 18 "Buildlots$Builds" "sources" "[I", .static yX3_holds, .initialized RX3, .code yX3_holds cX3_holds 2 (some .boolean), .methodLink RX3 83 yX3_only, .static yX3_only, .code yX3_only cX3_only 1 (some .int)] ++ wsX00)
def wsX0_append : List Cond := .code yX0_append cX0_append 5 (some .int) :: ([.fieldLink RX0 36 "Buildlots$Builds" "count" "I", .fieldLink RX0 9 "Buildlots$Builds" "names" "[I", .fieldLink RX0 15 "Buildlots$Builds" "versions" "[I", .fieldLink RX0 18 "Buildlots$Builds" "sources" "[I", .fieldLink RX0 21 "Buildlots$Builds" "results" "[I", .methodLink RX0 40 yX0_countOf, .instanceMethod yX0_countOf, .selects RX0 yX0_countOf yX0_countOf, .initialized RX0, .code yX0_countOf cX0_countOf 4 (some .int), .methodLink RX0 44 yX0_withTheirSources, .instanceMethod yX0_withTheirSources, .selects RX0 yX0_withTheirSources yX0_withTheirSources, .code yX0_withTheirSources cX0_withTheirSources 4 (some .int), .static yX3_holds, .initialized RX3, .code yX3_holds cX3_holds 2 (some .boolean), .methodLink RX3 83 yX3_only, .static yX3_only, .code yX3_only cX3_only 1 (some .int)] ++ wsX00)
def wsX0_all : List Cond := .code yX0_all cX0_all 1 (some .int) :: ([.fieldLink RX0 36 "Buildlots$Builds" "count" "I", .static yX3_only, .initialized RX3, .code yX3_only cX3_only 1 (some .int)] ++ wsX00)
def wsX0_recalled : List Cond := .code yX0_recalled cX0_recalled 3 (some .int) :: ([.fieldLink RX0 54 "Buildlots$Builds" "marked" "I", .fieldLink RX0 36 "Buildlots$Builds" "count" "I", .fieldLink RX0 18 "Buildlots$Builds" "sources" "[I", .static yX3_only, .initialized RX3, .code yX3_only cX3_only 1 (some .int)] ++ wsX00)
def wsX0_newestOf : List Cond := .code yX0_newestOf cX0_newestOf 5 (some .int) :: ([.fieldLink RX0 36 "Buildlots$Builds" "count" "I", .fieldLink RX0 9 "Buildlots$Builds" "names" "[I", .static yX3_holds, .initialized RX3, .code yX3_holds cX3_holds 2 (some .boolean), .methodLink RX3 83 yX3_only, .static yX3_only, .code yX3_only cX3_only 1 (some .int)] ++ wsX00)
def wsX1_liveOn : List Cond := .code yX1_liveOn cX1_liveOn 3 (some .boolean) :: ([.fieldLink RX1 15 "Buildlots$Keys" "firsts" "[I", .fieldLink RX1 18 "Buildlots$Keys" "lasts" "[I", .fieldLink RX1 25 "Buildlots$Keys" "lost" "I", .static yX3_holds, .initialized RX3, .code yX3_holds cX3_holds 2 (some .boolean), .methodLink RX3 83 yX3_only, .static yX3_only, .code yX3_only cX3_only 1 (some .int)] ++ wsX10)
def wsX1_live : List Cond := .code yX1_live cX1_live 4 (some .int) :: ([.fieldLink RX1 21 "Buildlots$Keys" "count" "I", .methodLink RX1 32 yX1_liveOn, .instanceMethod yX1_liveOn, .selects RX1 yX1_liveOn yX1_liveOn, .initialized RX1, .code yX1_liveOn cX1_liveOn 3 (some .boolean), .fieldLink RX1 15 "Buildlots$Keys" "firsts" "[I", .fieldLink RX1 18 "Buildlots$Keys" "lasts" "[I", .fieldLink RX1 25 "Buildlots$Keys" "lost" "I", .static yX3_holds, .initialized RX3, .code yX3_holds cX3_holds 2 (some .boolean), .methodLink RX3 83 yX3_only, .static yX3_only, .code yX3_only cX3_only 1 (some .int)] ++ wsX10)
def wsX1_signersOf : List Cond := .code yX1_signersOf cX1_signersOf 4 (some .int) :: ([.fieldLink RX1 21 "Buildlots$Keys" "count" "I", .fieldLink RX1 9 "Buildlots$Keys" "signers" "[I", .static yX3_holds, .initialized RX3, .code yX3_holds cX3_holds 2 (some .boolean), .methodLink RX3 83 yX3_only, .static yX3_only, .code yX3_only cX3_only 1 (some .int)] ++ wsX10)
def wsX0_keepVouchers_r1 : List Cond := [Cond.fieldLink RX0 36 "Buildlots$Builds" "count" "I", Cond.fieldLink RX0 27 "Buildlots$Builds" "vouchers" "[I", Cond.fieldLink RX0 24 "Buildlots$Builds" "attesters" "[I", Cond.instanceMethod yX1_live, Cond.initialized RX1, Cond.selects RX1 yX1_live yX1_live, Cond.code yX1_live cX1_live 4 (some .int), Cond.fieldLink RX1 21 "Buildlots$Keys" "count" "I", Cond.methodLink RX1 32 yX1_liveOn, Cond.instanceMethod yX1_liveOn, Cond.selects RX1 yX1_liveOn yX1_liveOn, Cond.code yX1_liveOn cX1_liveOn 3 (some .boolean), Cond.fieldLink RX1 15 "Buildlots$Keys" "firsts" "[I", Cond.fieldLink RX1 18 "Buildlots$Keys" "lasts" "[I", Cond.fieldLink RX1 25 "Buildlots$Keys" "lost" "I", Cond.static yX3_holds, Cond.initialized RX3, Cond.code yX3_holds cX3_holds 2 (some .boolean), Cond.methodLink RX3 83 yX3_only, Cond.static yX3_only, Cond.code yX3_only cX3_only 1 (some .int), Cond.instanceMethod yX1_signersOf, Cond.selects RX1 yX1_signersOf yX1_signersOf, Cond.code yX1_signersOf cX1_signersOf 4 (some .int)]
def wsX0_keepVouchers_r2 : List Cond := [Cond.fieldLink RX1 9 "Buildlots$Keys" "signers" "[I"]
def wsX0_keepVouchers : List Cond := .code yX0_keepVouchers cX0_keepVouchers 5 none :: ((wsX0_keepVouchers_r1 ++ wsX0_keepVouchers_r2) ++ wsX00 ++ wsX10)
def wsX1_init : List Cond := .code yX1_init cX1_init 1 none :: ([.methodLink RX1 3 objectInit, .instanceMethod objectInit, .code objectInit ⟨#[0xb1]⟩ 1 none, .arrayClass .int, .fieldLink RX1 9 "Buildlots$Keys" "signers" "[I", .fieldLink RX1 15 "Buildlots$Keys" "firsts" "[I", .fieldLink RX1 18 "Buildlots$Keys" "lasts" "[I"] ++ wsX10)
def wsX1_append : List Cond := .code yX1_append cX1_append 5 (some .int) :: ([.fieldLink RX1 21 "Buildlots$Keys" "count" "I", .fieldLink RX1 9 "Buildlots$Keys" "signers" "[I", .fieldLink RX1 15 "Buildlots$Keys" "firsts" "[I", .fieldLink RX1 18 "Buildlots$Keys" "lasts" "[I"] ++ wsX10)
def wsX2_init : List Cond := .code yX2_init cX2_init 1 none :: ([.methodLink RX2 3 objectInit, .instanceMethod objectInit, .code objectInit ⟨#[0xb1]⟩ 1 none, .arrayClass .int, .fieldLink RX2 9 "Buildlots$Mirrors" "updatedOn" "[I", .fieldLink RX2 15 "Buildlots$Mirrors" "offered" "[I"] ++ wsX20)
def wsX2_append : List Cond := .code yX2_append cX2_append 2 (some .int) :: ([.fieldLink RX2 18 "Buildlots$Mirrors" "count" "I", .fieldLink RX2 9 "Buildlots$Mirrors" "updatedOn" "[I", .fieldLink RX2 15 "Buildlots$Mirrors" "offered" "[I"] ++ wsX20)
def wsX3_init_r1 : List Cond := [Cond.methodLink RX3 1 objectInit, Cond.instanceMethod objectInit, Cond.code objectInit ⟨#[0xb1]⟩ 1 none, Cond.classLink RX3 7 RX1, Cond.instantiable RX1 5, Cond.initialized RX1, Cond.fieldLink RX3 10 "Buildlots" "keys" "LBuildlots$Keys;", Cond.classLink RX3 16 RX0, Cond.instantiable RX0 10, Cond.initialized RX0, Cond.fieldLink RX3 19 "Buildlots" "builds" "LBuildlots$Builds;", Cond.classLink RX3 23 RX2, Cond.instantiable RX2 3, Cond.initialized RX2, Cond.fieldLink RX3 26 "Buildlots" "mirrors" "LBuildlots$Mirrors;", Cond.arrayClass .int, Cond.fieldLink RX3 30 "Buildlots" "weights" "[I", Cond.fieldLink RX3 34 "Buildlots" "thresholds" "[I", Cond.fieldLink RX3 37 "Buildlots" "expiry" "I", Cond.fieldLink RX3 41 "Buildlots" "today" "I", Cond.instanceMethod yX1_init, Cond.code yX1_init cX1_init 1 none, Cond.methodLink RX1 3 objectInit, Cond.fieldLink RX1 9 "Buildlots$Keys" "signers" "[I"]
def wsX3_init_r2 : List Cond := [Cond.fieldLink RX1 15 "Buildlots$Keys" "firsts" "[I", Cond.fieldLink RX1 18 "Buildlots$Keys" "lasts" "[I", Cond.instanceMethod yX0_init, Cond.code yX0_init cX0_init 1 none, Cond.methodLink RX0 3 objectInit, Cond.fieldLink RX0 9 "Buildlots$Builds" "names" "[I", Cond.fieldLink RX0 15 "Buildlots$Builds" "versions" "[I", Cond.fieldLink RX0 18 "Buildlots$Builds" "sources" "[I", Cond.fieldLink RX0 21 "Buildlots$Builds" "results" "[I", Cond.fieldLink RX0 24 "Buildlots$Builds" "attesters" "[I", Cond.fieldLink RX0 27 "Buildlots$Builds" "vouchers" "[I", Cond.fieldLink RX0 30 "Buildlots$Builds" "told" "[I", Cond.fieldLink RX0 33 "Buildlots$Builds" "confirmed" "[I", Cond.instanceMethod yX2_init, Cond.code yX2_init cX2_init 1 none, Cond.methodLink RX2 3 objectInit, Cond.fieldLink RX2 9 "Buildlots$Mirrors" "updatedOn" "[I", Cond.fieldLink RX2 15 "Buildlots$Mirrors" "offered" "[I"]
def wsX3_init : List Cond := .code yX3_init cX3_init 2 none :: ((wsX3_init_r1 ++ wsX3_init_r2) ++ wsX10 ++ wsX30 ++ wsX00 ++ wsX20)
def wsX3_requireSigner : List Cond := .code yX3_requireSigner cX3_requireSigner 2 none :: ([.classLink RX3 48 "java/lang/IllegalArgumentException", .initialized "java/lang/IllegalArgumentException"] ++ (vx_atS RX3 52 "java/lang/IllegalArgumentException" ["java/lang/RuntimeException", "java/lang/Exception"]).filter goodWord)
def wsX3_addKey : List Cond := .code yX3_addKey cX3_addKey 4 (some .int) :: ([.classLink RX3 48 "java/lang/IllegalArgumentException", .initialized "java/lang/IllegalArgumentException", .classLink RX3 58 "java/lang/IllegalStateException", .initialized "java/lang/IllegalStateException", .fieldLink RX3 41 "Buildlots" "today" "I", .fieldLink RX3 10 "Buildlots" "keys" "LBuildlots$Keys;", .methodLink RX3 44 yX3_requireSigner, .instanceMethod yX3_requireSigner, .selects RX3 yX3_requireSigner yX3_requireSigner, .initialized RX3, .code yX3_requireSigner cX3_requireSigner 2 none, .instanceMethod yX1_append, .initialized RX1, .selects RX1 yX1_append yX1_append, .code yX1_append cX1_append 5 (some .int), .fieldLink RX1 21 "Buildlots$Keys" "count" "I", .fieldLink RX1 9 "Buildlots$Keys" "signers" "[I", .fieldLink RX1 15 "Buildlots$Keys" "firsts" "[I", .fieldLink RX1 18 "Buildlots$Keys" "lasts" "[I"] ++ wsX30 ++ wsX10 ++ (vx_atS RX3 52 "java/lang/IllegalArgumentException" ["java/lang/RuntimeException", "java/lang/Exception"]).filter goodWord ++ (vx_atS RX3 62 "java/lang/IllegalStateException" ["java/lang/RuntimeException", "java/lang/Exception"]).filter goodWord)
def wsX3_requireKey : List Cond := .code yX3_requireKey cX3_requireKey 2 none :: ([.classLink RX3 235 "java/lang/IndexOutOfBoundsException", .initialized "java/lang/IndexOutOfBoundsException", .fieldLink RX3 10 "Buildlots" "keys" "LBuildlots$Keys;"] ++ wsX30 ++ wsX10 ++ (vx_atS RX3 239 "java/lang/IndexOutOfBoundsException" ["java/lang/RuntimeException", "java/lang/Exception"]).filter goodWord)
def wsX3_scoreFrom : List Cond := .code yX3_scoreFrom cX3_scoreFrom 4 (some .float) :: ([.fieldLink RX3 30 "Buildlots" "weights" "[I", .constantFloat RX3 230 (1120403456), .methodLink RX3 73 yX3_holds, .static yX3_holds, .initialized RX3, .code yX3_holds cX3_holds 2 (some .boolean), .methodLink RX3 83 yX3_only, .static yX3_only, .code yX3_only cX3_only 1 (some .int)] ++ wsX30)
def wsX3_suffices : List Cond := .code yX3_suffices cX3_suffices 3 (some .boolean) :: ([.fieldLink RX3 34 "Buildlots" "thresholds" "[I", .fieldLink RX3 19 "Buildlots" "builds" "LBuildlots$Builds;", .constantFloat RX3 230 (1120403456), .methodLink RX3 168 yX3_scoreFrom, .instanceMethod yX3_scoreFrom, .selects RX3 yX3_scoreFrom yX3_scoreFrom, .initialized RX3, .code yX3_scoreFrom cX3_scoreFrom 4 (some .float), .fieldLink RX3 30 "Buildlots" "weights" "[I", .methodLink RX3 73 yX3_holds, .static yX3_holds, .code yX3_holds cX3_holds 2 (some .boolean), .methodLink RX3 83 yX3_only, .static yX3_only, .code yX3_only cX3_only 1 (some .int)] ++ wsX30 ++ wsX00)
def wsX3_trustedBuilds : List Cond := .code yX3_trustedBuilds cX3_trustedBuilds 3 (some .int) :: ([.fieldLink RX3 19 "Buildlots" "builds" "LBuildlots$Builds;", .methodLink RX3 176 yX3_suffices, .instanceMethod yX3_suffices, .selects RX3 yX3_suffices yX3_suffices, .initialized RX3, .code yX3_suffices cX3_suffices 3 (some .boolean), .fieldLink RX3 34 "Buildlots" "thresholds" "[I", .constantFloat RX3 230 (1120403456), .methodLink RX3 168 yX3_scoreFrom, .instanceMethod yX3_scoreFrom, .selects RX3 yX3_scoreFrom yX3_scoreFrom, .code yX3_scoreFrom cX3_scoreFrom 4 (some .float), .fieldLink RX3 30 "Buildlots" "weights" "[I", .methodLink RX3 73 yX3_holds, .static yX3_holds, .code yX3_holds cX3_holds 2 (some .boolean), .methodLink RX3 83 yX3_only, .static yX3_only, .code yX3_only cX3_only 1 (some .int)] ++ wsX30 ++ wsX00)
def wsJ6_bitCount_0f7a4 : List Cond := .code yJ6_bitCount_0f7a4 cJ6_bitCount_0f7a4 1 (some .int) :: ([.constant RJ6 265 (1431655765), .constant RJ6 266 (858993459), .constant RJ6 267 (252645135)])
def wsX3_loseKey_r1 : List Cond := [Cond.classLink RX3 58 "java/lang/IllegalStateException", Cond.initialized "java/lang/IllegalStateException", Cond.fieldLink RX3 10 "Buildlots" "keys" "LBuildlots$Keys;", Cond.fieldLink RX3 19 "Buildlots" "builds" "LBuildlots$Builds;", Cond.fieldLink RX3 41 "Buildlots" "today" "I", Cond.methodLink RX3 67 yX3_requireKey, Cond.instanceMethod yX3_requireKey, Cond.selects RX3 yX3_requireKey yX3_requireKey, Cond.initialized RX3, Cond.code yX3_requireKey cX3_requireKey 2 none, Cond.classLink RX3 235 "java/lang/IndexOutOfBoundsException", Cond.initialized "java/lang/IndexOutOfBoundsException", Cond.methodLink RX3 73 yX3_holds, Cond.static yX3_holds, Cond.code yX3_holds cX3_holds 2 (some .boolean), Cond.methodLink RX3 83 yX3_only, Cond.static yX3_only, Cond.code yX3_only cX3_only 1 (some .int), Cond.methodLink RX3 79 yX3_trustedBuilds, Cond.instanceMethod yX3_trustedBuilds, Cond.selects RX3 yX3_trustedBuilds yX3_trustedBuilds, Cond.code yX3_trustedBuilds cX3_trustedBuilds 3 (some .int), Cond.methodLink RX3 176 yX3_suffices, Cond.instanceMethod yX3_suffices]
def wsX3_loseKey_r2 : List Cond := [Cond.selects RX3 yX3_suffices yX3_suffices, Cond.code yX3_suffices cX3_suffices 3 (some .boolean), Cond.fieldLink RX3 34 "Buildlots" "thresholds" "[I", Cond.constantFloat RX3 230 (1120403456), Cond.methodLink RX3 168 yX3_scoreFrom, Cond.instanceMethod yX3_scoreFrom, Cond.selects RX3 yX3_scoreFrom yX3_scoreFrom, Cond.code yX3_scoreFrom cX3_scoreFrom 4 (some .float), Cond.fieldLink RX3 30 "Buildlots" "weights" "[I", Cond.instanceMethod yX0_keepVouchers, Cond.initialized RX0, Cond.selects RX0 yX0_keepVouchers yX0_keepVouchers, Cond.code yX0_keepVouchers cX0_keepVouchers 5 none, Cond.fieldLink RX0 36 "Buildlots$Builds" "count" "I", Cond.fieldLink RX0 27 "Buildlots$Builds" "vouchers" "[I", Cond.fieldLink RX0 24 "Buildlots$Builds" "attesters" "[I", Cond.instanceMethod yX1_live, Cond.initialized RX1, Cond.selects RX1 yX1_live yX1_live, Cond.code yX1_live cX1_live 4 (some .int), Cond.fieldLink RX1 21 "Buildlots$Keys" "count" "I", Cond.methodLink RX1 32 yX1_liveOn, Cond.instanceMethod yX1_liveOn, Cond.selects RX1 yX1_liveOn yX1_liveOn]
def wsX3_loseKey_r3 : List Cond := [Cond.code yX1_liveOn cX1_liveOn 3 (some .boolean), Cond.fieldLink RX1 15 "Buildlots$Keys" "firsts" "[I", Cond.fieldLink RX1 18 "Buildlots$Keys" "lasts" "[I", Cond.fieldLink RX1 25 "Buildlots$Keys" "lost" "I", Cond.instanceMethod yX1_signersOf, Cond.selects RX1 yX1_signersOf yX1_signersOf, Cond.code yX1_signersOf cX1_signersOf 4 (some .int), Cond.fieldLink RX1 9 "Buildlots$Keys" "signers" "[I", Cond.methodLink RX3 91 yJ6_bitCount_0f7a4, Cond.static yJ6_bitCount_0f7a4, Cond.initialized RJ6, Cond.code yJ6_bitCount_0f7a4 cJ6_bitCount_0f7a4 1 (some .int), Cond.constant RJ6 265 (1431655765), Cond.constant RJ6 266 (858993459), Cond.constant RJ6 267 (252645135)]
def wsX3_loseKey : List Cond := .code yX3_loseKey cX3_loseKey 3 (some .int) :: ((wsX3_loseKey_r1 ++ (wsX3_loseKey_r2 ++ wsX3_loseKey_r3)) ++ wsX30 ++ wsX10 ++ wsX00 ++ (vx_atS RX3 62 "java/lang/IllegalStateException" ["java/lang/RuntimeException", "java/lang/Exception"]).filter goodWord ++ (vx_atS RX3 239 "java/lang/IndexOutOfBoundsException" ["java/lang/RuntimeException", "java/lang/Exception"]).filter goodWord)
def wsX3_extendKey : List Cond := .code yX3_extendKey cX3_extendKey 4 (some .int) :: ([.classLink RX3 48 "java/lang/IllegalArgumentException", .initialized "java/lang/IllegalArgumentException", .classLink RX3 58 "java/lang/IllegalStateException", .initialized "java/lang/IllegalStateException", .fieldLink RX3 10 "Buildlots" "keys" "LBuildlots$Keys;", .fieldLink RX3 41 "Buildlots" "today" "I", .methodLink RX3 67 yX3_requireKey, .instanceMethod yX3_requireKey, .selects RX3 yX3_requireKey yX3_requireKey, .initialized RX3, .code yX3_requireKey cX3_requireKey 2 none, .classLink RX3 235 "java/lang/IndexOutOfBoundsException", .initialized "java/lang/IndexOutOfBoundsException", .methodLink RX3 73 yX3_holds, .static yX3_holds, .code yX3_holds cX3_holds 2 (some .boolean), .methodLink RX3 83 yX3_only, .static yX3_only, .code yX3_only cX3_only 1 (some .int)] ++ wsX30 ++ wsX10 ++ (vx_atS RX3 52 "java/lang/IllegalArgumentException" ["java/lang/RuntimeException", "java/lang/Exception"]).filter goodWord ++ (vx_atS RX3 62 "java/lang/IllegalStateException" ["java/lang/RuntimeException", "java/lang/Exception"]).filter goodWord ++ (vx_atS RX3 239 "java/lang/IndexOutOfBoundsException" ["java/lang/RuntimeException", "java/lang/Exception"]).filter goodWord)
def wsX3_isLive : List Cond := .code yX3_isLive cX3_isLive 2 (some .boolean) :: ([.fieldLink RX3 10 "Buildlots" "keys" "LBuildlots$Keys;", .fieldLink RX3 41 "Buildlots" "today" "I", .methodLink RX3 67 yX3_requireKey, .instanceMethod yX3_requireKey, .selects RX3 yX3_requireKey yX3_requireKey, .initialized RX3, .code yX3_requireKey cX3_requireKey 2 none, .classLink RX3 235 "java/lang/IndexOutOfBoundsException", .initialized "java/lang/IndexOutOfBoundsException", .instanceMethod yX1_liveOn, .initialized RX1, .selects RX1 yX1_liveOn yX1_liveOn, .code yX1_liveOn cX1_liveOn 3 (some .boolean), .fieldLink RX1 15 "Buildlots$Keys" "firsts" "[I", .fieldLink RX1 18 "Buildlots$Keys" "lasts" "[I", .fieldLink RX1 25 "Buildlots$Keys" "lost" "I", .static yX3_holds, .code yX3_holds cX3_holds 2 (some .boolean), .methodLink RX3 83 yX3_only, .static yX3_only, .code yX3_only cX3_only 1 (some .int)] ++ wsX30 ++ wsX10 ++ (vx_atS RX3 239 "java/lang/IndexOutOfBoundsException" ["java/lang/RuntimeException", "java/lang/Exception"]).filter goodWord)
def wsX3_setWeight : List Cond := .code yX3_setWeight cX3_setWeight 4 (some .int) :: ([.classLink RX3 48 "java/lang/IllegalArgumentException", .initialized "java/lang/IllegalArgumentException", .fieldLink RX3 30 "Buildlots" "weights" "[I", .methodLink RX3 44 yX3_requireSigner, .instanceMethod yX3_requireSigner, .selects RX3 yX3_requireSigner yX3_requireSigner, .initialized RX3, .code yX3_requireSigner cX3_requireSigner 2 none] ++ wsX30 ++ (vx_atS RX3 52 "java/lang/IllegalArgumentException" ["java/lang/RuntimeException", "java/lang/Exception"]).filter goodWord)
def wsX3_requireName : List Cond := .code yX3_requireName cX3_requireName 2 none :: ([.classLink RX3 48 "java/lang/IllegalArgumentException", .initialized "java/lang/IllegalArgumentException"] ++ (vx_atS RX3 52 "java/lang/IllegalArgumentException" ["java/lang/RuntimeException", "java/lang/Exception"]).filter goodWord)
def wsX3_setThreshold : List Cond := .code yX3_setThreshold cX3_setThreshold 4 (some .int) :: ([.classLink RX3 48 "java/lang/IllegalArgumentException", .initialized "java/lang/IllegalArgumentException", .fieldLink RX3 34 "Buildlots" "thresholds" "[I", .methodLink RX3 108 yX3_requireName, .instanceMethod yX3_requireName, .selects RX3 yX3_requireName yX3_requireName, .initialized RX3, .code yX3_requireName cX3_requireName 2 none] ++ wsX30 ++ (vx_atS RX3 52 "java/lang/IllegalArgumentException" ["java/lang/RuntimeException", "java/lang/Exception"]).filter goodWord)
def wsX3_build_r1 : List Cond := [Cond.classLink RX3 48 "java/lang/IllegalArgumentException", Cond.initialized "java/lang/IllegalArgumentException", Cond.classLink RX3 121 "java/lang/UnsupportedOperationException", Cond.initialized "java/lang/UnsupportedOperationException", Cond.classLink RX3 58 "java/lang/IllegalStateException", Cond.initialized "java/lang/IllegalStateException", Cond.fieldLink RX3 19 "Buildlots" "builds" "LBuildlots$Builds;", Cond.methodLink RX3 108 yX3_requireName, Cond.instanceMethod yX3_requireName, Cond.selects RX3 yX3_requireName yX3_requireName, Cond.initialized RX3, Cond.code yX3_requireName cX3_requireName 2 none, Cond.instanceMethod yX0_all, Cond.initialized RX0, Cond.selects RX0 yX0_all yX0_all, Cond.code yX0_all cX0_all 1 (some .int), Cond.fieldLink RX0 36 "Buildlots$Builds" "count" "I", Cond.static yX3_only, Cond.code yX3_only cX3_only 1 (some .int), Cond.instanceMethod yX0_recalled, Cond.selects RX0 yX0_recalled yX0_recalled, Cond.code yX0_recalled cX0_recalled 3 (some .int), Cond.fieldLink RX0 54 "Buildlots$Builds" "marked" "I", Cond.fieldLink RX0 18 "Buildlots$Builds" "sources" "[I"]
def wsX3_build_r2 : List Cond := [Cond.instanceMethod yX0_append, Cond.selects RX0 yX0_append yX0_append, Cond.code yX0_append cX0_append 5 (some .int), Cond.fieldLink RX0 9 "Buildlots$Builds" "names" "[I", Cond.fieldLink RX0 15 "Buildlots$Builds" "versions" "[I", Cond.fieldLink RX0 21 "Buildlots$Builds" "results" "[I", Cond.methodLink RX0 40 yX0_countOf, Cond.instanceMethod yX0_countOf, Cond.selects RX0 yX0_countOf yX0_countOf, Cond.code yX0_countOf cX0_countOf 4 (some .int), Cond.methodLink RX0 44 yX0_withTheirSources, Cond.instanceMethod yX0_withTheirSources, Cond.selects RX0 yX0_withTheirSources yX0_withTheirSources, Cond.code yX0_withTheirSources cX0_withTheirSources 4 (some .int), Cond.static yX3_holds, Cond.code yX3_holds cX3_holds 2 (some .boolean), Cond.methodLink RX3 83 yX3_only]
def wsX3_build : List Cond := .code yX3_build cX3_build 4 (some .int) :: ((wsX3_build_r1 ++ wsX3_build_r2) ++ wsX30 ++ wsX00 ++ (vx_atS RX3 52 "java/lang/IllegalArgumentException" ["java/lang/RuntimeException", "java/lang/Exception"]).filter goodWord ++ (vx_atS RX3 125 "java/lang/UnsupportedOperationException" ["java/lang/RuntimeException", "java/lang/Exception"]).filter goodWord ++ (vx_atS RX3 62 "java/lang/IllegalStateException" ["java/lang/RuntimeException", "java/lang/Exception"]).filter goodWord)
def wsX3_requireBuild : List Cond := .code yX3_requireBuild cX3_requireBuild 2 none :: ([.classLink RX3 235 "java/lang/IndexOutOfBoundsException", .initialized "java/lang/IndexOutOfBoundsException", .fieldLink RX3 19 "Buildlots" "builds" "LBuildlots$Builds;"] ++ wsX30 ++ wsX00 ++ (vx_atS RX3 239 "java/lang/IndexOutOfBoundsException" ["java/lang/RuntimeException", "java/lang/Exception"]).filter goodWord)
def wsX3_nameOf : List Cond := .code yX3_nameOf cX3_nameOf 2 (some .int) :: ([.fieldLink RX3 19 "Buildlots" "builds" "LBuildlots$Builds;", .methodLink RX3 130 yX3_requireBuild, .instanceMethod yX3_requireBuild, .selects RX3 yX3_requireBuild yX3_requireBuild, .initialized RX3, .code yX3_requireBuild cX3_requireBuild 2 none, .classLink RX3 235 "java/lang/IndexOutOfBoundsException", .initialized "java/lang/IndexOutOfBoundsException"] ++ wsX30 ++ wsX00 ++ (vx_atS RX3 239 "java/lang/IndexOutOfBoundsException" ["java/lang/RuntimeException", "java/lang/Exception"]).filter goodWord)
def wsX3_version : List Cond := .code yX3_version cX3_version 2 (some .int) :: ([.fieldLink RX3 19 "Buildlots" "builds" "LBuildlots$Builds;", .methodLink RX3 130 yX3_requireBuild, .instanceMethod yX3_requireBuild, .selects RX3 yX3_requireBuild yX3_requireBuild, .initialized RX3, .code yX3_requireBuild cX3_requireBuild 2 none, .classLink RX3 235 "java/lang/IndexOutOfBoundsException", .initialized "java/lang/IndexOutOfBoundsException"] ++ wsX30 ++ wsX00 ++ (vx_atS RX3 239 "java/lang/IndexOutOfBoundsException" ["java/lang/RuntimeException", "java/lang/Exception"]).filter goodWord)
def wsX3_uses : List Cond := .code yX3_uses cX3_uses 3 (some .boolean) :: ([.fieldLink RX3 19 "Buildlots" "builds" "LBuildlots$Builds;", .methodLink RX3 130 yX3_requireBuild, .instanceMethod yX3_requireBuild, .selects RX3 yX3_requireBuild yX3_requireBuild, .initialized RX3, .code yX3_requireBuild cX3_requireBuild 2 none, .classLink RX3 235 "java/lang/IndexOutOfBoundsException", .initialized "java/lang/IndexOutOfBoundsException", .methodLink RX3 73 yX3_holds, .static yX3_holds, .code yX3_holds cX3_holds 2 (some .boolean), .methodLink RX3 83 yX3_only, .static yX3_only, .code yX3_only cX3_only 1 (some .int)] ++ wsX30 ++ wsX00 ++ (vx_atS RX3 239 "java/lang/IndexOutOfBoundsException" ["java/lang/RuntimeException", "java/lang/Exception"]).filter goodWord)
def wsX3_used : List Cond := .code yX3_used cX3_used 2 (some .int) :: ([.fieldLink RX3 19 "Buildlots" "builds" "LBuildlots$Builds;", .methodLink RX3 130 yX3_requireBuild, .instanceMethod yX3_requireBuild, .selects RX3 yX3_requireBuild yX3_requireBuild, .initialized RX3, .code yX3_requireBuild cX3_requireBuild 2 none, .classLink RX3 235 "java/lang/IndexOutOfBoundsException", .initialized "java/lang/IndexOutOfBoundsException", .methodLink RX3 91 yJ6_bitCount_0f7a4, .static yJ6_bitCount_0f7a4, .initialized RJ6, .code yJ6_bitCount_0f7a4 cJ6_bitCount_0f7a4 1 (some .int), .constant RJ6 265 (1431655765), .constant RJ6 266 (858993459), .constant RJ6 267 (252645135)] ++ wsX30 ++ wsX00 ++ (vx_atS RX3 239 "java/lang/IndexOutOfBoundsException" ["java/lang/RuntimeException", "java/lang/Exception"]).filter goodWord)
def wsX3_requireFound : List Cond := .code yX3_requireFound cX3_requireFound 1 (some .int) :: ([.classLink RX3 197 "java/util/NoSuchElementException", .initialized "java/util/NoSuchElementException"] ++ (vx_atS RX3 201 "java/util/NoSuchElementException" ["java/lang/RuntimeException", "java/lang/Exception"]).filter goodWord)
def wsX3_newest_r1 : List Cond := [Cond.fieldLink RX3 19 "Buildlots" "builds" "LBuildlots$Builds;", Cond.methodLink RX3 108 yX3_requireName, Cond.instanceMethod yX3_requireName, Cond.selects RX3 yX3_requireName yX3_requireName, Cond.initialized RX3, Cond.code yX3_requireName cX3_requireName 2 none, Cond.classLink RX3 48 "java/lang/IllegalArgumentException", Cond.initialized "java/lang/IllegalArgumentException", Cond.methodLink RX3 79 yX3_trustedBuilds, Cond.instanceMethod yX3_trustedBuilds, Cond.selects RX3 yX3_trustedBuilds yX3_trustedBuilds, Cond.code yX3_trustedBuilds cX3_trustedBuilds 3 (some .int), Cond.methodLink RX3 176 yX3_suffices, Cond.instanceMethod yX3_suffices, Cond.selects RX3 yX3_suffices yX3_suffices, Cond.code yX3_suffices cX3_suffices 3 (some .boolean), Cond.fieldLink RX3 34 "Buildlots" "thresholds" "[I", Cond.constantFloat RX3 230 (1120403456), Cond.methodLink RX3 168 yX3_scoreFrom, Cond.instanceMethod yX3_scoreFrom, Cond.selects RX3 yX3_scoreFrom yX3_scoreFrom, Cond.code yX3_scoreFrom cX3_scoreFrom 4 (some .float), Cond.fieldLink RX3 30 "Buildlots" "weights" "[I", Cond.methodLink RX3 73 yX3_holds]
def wsX3_newest_r2 : List Cond := [Cond.static yX3_holds, Cond.code yX3_holds cX3_holds 2 (some .boolean), Cond.methodLink RX3 83 yX3_only, Cond.static yX3_only, Cond.code yX3_only cX3_only 1 (some .int), Cond.instanceMethod yX0_recalled, Cond.initialized RX0, Cond.selects RX0 yX0_recalled yX0_recalled, Cond.code yX0_recalled cX0_recalled 3 (some .int), Cond.fieldLink RX0 54 "Buildlots$Builds" "marked" "I", Cond.fieldLink RX0 36 "Buildlots$Builds" "count" "I", Cond.fieldLink RX0 18 "Buildlots$Builds" "sources" "[I", Cond.instanceMethod yX0_newestOf, Cond.selects RX0 yX0_newestOf yX0_newestOf, Cond.code yX0_newestOf cX0_newestOf 5 (some .int), Cond.fieldLink RX0 9 "Buildlots$Builds" "names" "[I", Cond.methodLink RX3 146 yX3_requireFound, Cond.static yX3_requireFound, Cond.code yX3_requireFound cX3_requireFound 1 (some .int), Cond.classLink RX3 197 "java/util/NoSuchElementException", Cond.initialized "java/util/NoSuchElementException"]
def wsX3_newest : List Cond := .code yX3_newest cX3_newest 2 (some .int) :: ((wsX3_newest_r1 ++ wsX3_newest_r2) ++ wsX30 ++ wsX00 ++ (vx_atS RX3 52 "java/lang/IllegalArgumentException" ["java/lang/RuntimeException", "java/lang/Exception"]).filter goodWord ++ (vx_atS RX3 201 "java/util/NoSuchElementException" ["java/lang/RuntimeException", "java/lang/Exception"]).filter goodWord)
def wsX3_attest_r1 : List Cond := [Cond.classLink RX3 58 "java/lang/IllegalStateException", Cond.initialized "java/lang/IllegalStateException", Cond.classLink RX3 121 "java/lang/UnsupportedOperationException", Cond.initialized "java/lang/UnsupportedOperationException", Cond.fieldLink RX3 10 "Buildlots" "keys" "LBuildlots$Keys;", Cond.fieldLink RX3 41 "Buildlots" "today" "I", Cond.fieldLink RX3 19 "Buildlots" "builds" "LBuildlots$Builds;", Cond.methodLink RX3 130 yX3_requireBuild, Cond.instanceMethod yX3_requireBuild, Cond.selects RX3 yX3_requireBuild yX3_requireBuild, Cond.initialized RX3, Cond.code yX3_requireBuild cX3_requireBuild 2 none, Cond.classLink RX3 235 "java/lang/IndexOutOfBoundsException", Cond.initialized "java/lang/IndexOutOfBoundsException", Cond.methodLink RX3 67 yX3_requireKey, Cond.instanceMethod yX3_requireKey, Cond.selects RX3 yX3_requireKey yX3_requireKey, Cond.code yX3_requireKey cX3_requireKey 2 none, Cond.instanceMethod yX1_liveOn, Cond.initialized RX1, Cond.selects RX1 yX1_liveOn yX1_liveOn, Cond.code yX1_liveOn cX1_liveOn 3 (some .boolean), Cond.fieldLink RX1 15 "Buildlots$Keys" "firsts" "[I", Cond.fieldLink RX1 18 "Buildlots$Keys" "lasts" "[I"]
def wsX3_attest_r2 : List Cond := [Cond.fieldLink RX1 25 "Buildlots$Keys" "lost" "I", Cond.static yX3_holds, Cond.code yX3_holds cX3_holds 2 (some .boolean), Cond.methodLink RX3 83 yX3_only, Cond.static yX3_only, Cond.code yX3_only cX3_only 1 (some .int), Cond.methodLink RX3 73 yX3_holds, Cond.instanceMethod yX0_recalled, Cond.initialized RX0, Cond.selects RX0 yX0_recalled yX0_recalled, Cond.code yX0_recalled cX0_recalled 3 (some .int), Cond.fieldLink RX0 54 "Buildlots$Builds" "marked" "I", Cond.fieldLink RX0 36 "Buildlots$Builds" "count" "I", Cond.fieldLink RX0 18 "Buildlots$Builds" "sources" "[I", Cond.methodLink RX3 91 yJ6_bitCount_0f7a4, Cond.static yJ6_bitCount_0f7a4, Cond.initialized RJ6, Cond.code yJ6_bitCount_0f7a4 cJ6_bitCount_0f7a4 1 (some .int), Cond.constant RJ6 265 (1431655765), Cond.constant RJ6 266 (858993459), Cond.constant RJ6 267 (252645135)]
def wsX3_attest : List Cond := .code yX3_attest cX3_attest 3 (some .int) :: ((wsX3_attest_r1 ++ wsX3_attest_r2) ++ wsX30 ++ wsX00 ++ wsX10 ++ (vx_atS RX3 62 "java/lang/IllegalStateException" ["java/lang/RuntimeException", "java/lang/Exception"]).filter goodWord ++ (vx_atS RX3 125 "java/lang/UnsupportedOperationException" ["java/lang/RuntimeException", "java/lang/Exception"]).filter goodWord ++ (vx_atS RX3 239 "java/lang/IndexOutOfBoundsException" ["java/lang/RuntimeException", "java/lang/Exception"]).filter goodWord)
def wsX3_vouches : List Cond := .code yX3_vouches cX3_vouches 3 (some .boolean) :: ([.fieldLink RX3 19 "Buildlots" "builds" "LBuildlots$Builds;", .methodLink RX3 130 yX3_requireBuild, .instanceMethod yX3_requireBuild, .selects RX3 yX3_requireBuild yX3_requireBuild, .initialized RX3, .code yX3_requireBuild cX3_requireBuild 2 none, .classLink RX3 235 "java/lang/IndexOutOfBoundsException", .initialized "java/lang/IndexOutOfBoundsException", .methodLink RX3 44 yX3_requireSigner, .instanceMethod yX3_requireSigner, .selects RX3 yX3_requireSigner yX3_requireSigner, .code yX3_requireSigner cX3_requireSigner 2 none, .classLink RX3 48 "java/lang/IllegalArgumentException", .initialized "java/lang/IllegalArgumentException", .methodLink RX3 73 yX3_holds, .static yX3_holds, .code yX3_holds cX3_holds 2 (some .boolean), .methodLink RX3 83 yX3_only, .static yX3_only, .code yX3_only cX3_only 1 (some .int)] ++ wsX30 ++ wsX00 ++ (vx_atS RX3 239 "java/lang/IndexOutOfBoundsException" ["java/lang/RuntimeException", "java/lang/Exception"]).filter goodWord ++ (vx_atS RX3 52 "java/lang/IllegalArgumentException" ["java/lang/RuntimeException", "java/lang/Exception"]).filter goodWord)
def wsX3_vouchesByList_r1 : List Cond := [Cond.fieldLink RX3 10 "Buildlots" "keys" "LBuildlots$Keys;", Cond.fieldLink RX3 19 "Buildlots" "builds" "LBuildlots$Builds;", Cond.fieldLink RX3 41 "Buildlots" "today" "I", Cond.methodLink RX3 130 yX3_requireBuild, Cond.instanceMethod yX3_requireBuild, Cond.selects RX3 yX3_requireBuild yX3_requireBuild, Cond.initialized RX3, Cond.code yX3_requireBuild cX3_requireBuild 2 none, Cond.classLink RX3 235 "java/lang/IndexOutOfBoundsException", Cond.initialized "java/lang/IndexOutOfBoundsException", Cond.methodLink RX3 44 yX3_requireSigner, Cond.instanceMethod yX3_requireSigner, Cond.selects RX3 yX3_requireSigner yX3_requireSigner, Cond.code yX3_requireSigner cX3_requireSigner 2 none, Cond.classLink RX3 48 "java/lang/IllegalArgumentException", Cond.initialized "java/lang/IllegalArgumentException", Cond.instanceMethod yX1_live, Cond.initialized RX1, Cond.selects RX1 yX1_live yX1_live, Cond.code yX1_live cX1_live 4 (some .int), Cond.fieldLink RX1 21 "Buildlots$Keys" "count" "I", Cond.methodLink RX1 32 yX1_liveOn, Cond.instanceMethod yX1_liveOn, Cond.selects RX1 yX1_liveOn yX1_liveOn]
def wsX3_vouchesByList_r2 : List Cond := [Cond.code yX1_liveOn cX1_liveOn 3 (some .boolean), Cond.fieldLink RX1 15 "Buildlots$Keys" "firsts" "[I", Cond.fieldLink RX1 18 "Buildlots$Keys" "lasts" "[I", Cond.fieldLink RX1 25 "Buildlots$Keys" "lost" "I", Cond.static yX3_holds, Cond.code yX3_holds cX3_holds 2 (some .boolean), Cond.methodLink RX3 83 yX3_only, Cond.static yX3_only, Cond.code yX3_only cX3_only 1 (some .int), Cond.instanceMethod yX1_signersOf, Cond.selects RX1 yX1_signersOf yX1_signersOf, Cond.code yX1_signersOf cX1_signersOf 4 (some .int), Cond.fieldLink RX1 9 "Buildlots$Keys" "signers" "[I", Cond.methodLink RX3 73 yX3_holds]
def wsX3_vouchesByList : List Cond := .code yX3_vouchesByList cX3_vouchesByList 3 (some .boolean) :: ((wsX3_vouchesByList_r1 ++ wsX3_vouchesByList_r2) ++ wsX30 ++ wsX00 ++ wsX10 ++ (vx_atS RX3 239 "java/lang/IndexOutOfBoundsException" ["java/lang/RuntimeException", "java/lang/Exception"]).filter goodWord ++ (vx_atS RX3 52 "java/lang/IllegalArgumentException" ["java/lang/RuntimeException", "java/lang/Exception"]).filter goodWord)
def wsX3_score : List Cond := .code yX3_score cX3_score 2 (some .float) :: ([.fieldLink RX3 19 "Buildlots" "builds" "LBuildlots$Builds;", .methodLink RX3 130 yX3_requireBuild, .instanceMethod yX3_requireBuild, .selects RX3 yX3_requireBuild yX3_requireBuild, .initialized RX3, .code yX3_requireBuild cX3_requireBuild 2 none, .classLink RX3 235 "java/lang/IndexOutOfBoundsException", .initialized "java/lang/IndexOutOfBoundsException", .methodLink RX3 168 yX3_scoreFrom, .instanceMethod yX3_scoreFrom, .selects RX3 yX3_scoreFrom yX3_scoreFrom, .code yX3_scoreFrom cX3_scoreFrom 4 (some .float), .fieldLink RX3 30 "Buildlots" "weights" "[I", .constantFloat RX3 230 (1120403456), .methodLink RX3 73 yX3_holds, .static yX3_holds, .code yX3_holds cX3_holds 2 (some .boolean), .methodLink RX3 83 yX3_only, .static yX3_only, .code yX3_only cX3_only 1 (some .int)] ++ wsX30 ++ wsX00 ++ (vx_atS RX3 239 "java/lang/IndexOutOfBoundsException" ["java/lang/RuntimeException", "java/lang/Exception"]).filter goodWord)
def wsX3_doubleBits : List Cond := .code yX3_doubleBits cX3_doubleBits 6 (some .long) :: ([.constantLong RX3 246 (1023), .constantDouble RX3 248 (4611686018427387904), .constantLong RX3 250 (2046), .constantDouble RX3 252 (4841369599423283200)])
def wsX3_floatBits : List Cond := .code yX3_floatBits cX3_floatBits 1 (some .int) :: ([.constantLong RX3 254 (7516192768), .methodLink RX3 226 yX3_doubleBits, .static yX3_doubleBits, .initialized RX3, .code yX3_doubleBits cX3_doubleBits 6 (some .long), .constantLong RX3 246 (1023), .constantDouble RX3 248 (4611686018427387904), .constantLong RX3 250 (2046), .constantDouble RX3 252 (4841369599423283200)])
def wsX3_scoreBits_r1 : List Cond := [Cond.fieldLink RX3 19 "Buildlots" "builds" "LBuildlots$Builds;", Cond.methodLink RX3 130 yX3_requireBuild, Cond.instanceMethod yX3_requireBuild, Cond.selects RX3 yX3_requireBuild yX3_requireBuild, Cond.initialized RX3, Cond.code yX3_requireBuild cX3_requireBuild 2 none, Cond.classLink RX3 235 "java/lang/IndexOutOfBoundsException", Cond.initialized "java/lang/IndexOutOfBoundsException", Cond.methodLink RX3 168 yX3_scoreFrom, Cond.instanceMethod yX3_scoreFrom, Cond.selects RX3 yX3_scoreFrom yX3_scoreFrom, Cond.code yX3_scoreFrom cX3_scoreFrom 4 (some .float), Cond.fieldLink RX3 30 "Buildlots" "weights" "[I", Cond.constantFloat RX3 230 (1120403456), Cond.methodLink RX3 73 yX3_holds, Cond.static yX3_holds, Cond.code yX3_holds cX3_holds 2 (some .boolean), Cond.methodLink RX3 83 yX3_only, Cond.static yX3_only, Cond.code yX3_only cX3_only 1 (some .int), Cond.methodLink RX3 172 yX3_floatBits, Cond.static yX3_floatBits, Cond.code yX3_floatBits cX3_floatBits 1 (some .int), Cond.constantLong RX3 254 (7516192768)]
def wsX3_scoreBits_r2 : List Cond := [Cond.methodLink RX3 226 yX3_doubleBits, Cond.static yX3_doubleBits, Cond.code yX3_doubleBits cX3_doubleBits 6 (some .long), Cond.constantLong RX3 246 (1023), Cond.constantDouble RX3 248 (4611686018427387904), Cond.constantLong RX3 250 (2046), Cond.constantDouble RX3 252 (4841369599423283200)]
def wsX3_scoreBits : List Cond := .code yX3_scoreBits cX3_scoreBits 2 (some .int) :: ((wsX3_scoreBits_r1 ++ wsX3_scoreBits_r2) ++ wsX30 ++ wsX00 ++ (vx_atS RX3 239 "java/lang/IndexOutOfBoundsException" ["java/lang/RuntimeException", "java/lang/Exception"]).filter goodWord)
def wsX3_isTrusted_r1 : List Cond := [Cond.fieldLink RX3 19 "Buildlots" "builds" "LBuildlots$Builds;", Cond.methodLink RX3 130 yX3_requireBuild, Cond.instanceMethod yX3_requireBuild, Cond.selects RX3 yX3_requireBuild yX3_requireBuild, Cond.initialized RX3, Cond.code yX3_requireBuild cX3_requireBuild 2 none, Cond.classLink RX3 235 "java/lang/IndexOutOfBoundsException", Cond.initialized "java/lang/IndexOutOfBoundsException", Cond.methodLink RX3 176 yX3_suffices, Cond.instanceMethod yX3_suffices, Cond.selects RX3 yX3_suffices yX3_suffices, Cond.code yX3_suffices cX3_suffices 3 (some .boolean), Cond.fieldLink RX3 34 "Buildlots" "thresholds" "[I", Cond.constantFloat RX3 230 (1120403456), Cond.methodLink RX3 168 yX3_scoreFrom, Cond.instanceMethod yX3_scoreFrom, Cond.selects RX3 yX3_scoreFrom yX3_scoreFrom, Cond.code yX3_scoreFrom cX3_scoreFrom 4 (some .float), Cond.fieldLink RX3 30 "Buildlots" "weights" "[I", Cond.methodLink RX3 73 yX3_holds, Cond.static yX3_holds, Cond.code yX3_holds cX3_holds 2 (some .boolean), Cond.methodLink RX3 83 yX3_only, Cond.static yX3_only]
def wsX3_isTrusted_r2 : List Cond := [Cond.code yX3_only cX3_only 1 (some .int)]
def wsX3_isTrusted : List Cond := .code yX3_isTrusted cX3_isTrusted 2 (some .boolean) :: ((wsX3_isTrusted_r1 ++ wsX3_isTrusted_r2) ++ wsX30 ++ wsX00 ++ (vx_atS RX3 239 "java/lang/IndexOutOfBoundsException" ["java/lang/RuntimeException", "java/lang/Exception"]).filter goodWord)
def wsX3_hangsOnKey_r1 : List Cond := [Cond.fieldLink RX3 10 "Buildlots" "keys" "LBuildlots$Keys;", Cond.fieldLink RX3 41 "Buildlots" "today" "I", Cond.fieldLink RX3 19 "Buildlots" "builds" "LBuildlots$Builds;", Cond.methodLink RX3 67 yX3_requireKey, Cond.instanceMethod yX3_requireKey, Cond.selects RX3 yX3_requireKey yX3_requireKey, Cond.initialized RX3, Cond.code yX3_requireKey cX3_requireKey 2 none, Cond.classLink RX3 235 "java/lang/IndexOutOfBoundsException", Cond.initialized "java/lang/IndexOutOfBoundsException", Cond.instanceMethod yX1_live, Cond.initialized RX1, Cond.selects RX1 yX1_live yX1_live, Cond.code yX1_live cX1_live 4 (some .int), Cond.fieldLink RX1 21 "Buildlots$Keys" "count" "I", Cond.methodLink RX1 32 yX1_liveOn, Cond.instanceMethod yX1_liveOn, Cond.selects RX1 yX1_liveOn yX1_liveOn, Cond.code yX1_liveOn cX1_liveOn 3 (some .boolean), Cond.fieldLink RX1 15 "Buildlots$Keys" "firsts" "[I", Cond.fieldLink RX1 18 "Buildlots$Keys" "lasts" "[I", Cond.fieldLink RX1 25 "Buildlots$Keys" "lost" "I", Cond.static yX3_holds, Cond.code yX3_holds cX3_holds 2 (some .boolean)]
def wsX3_hangsOnKey_r2 : List Cond := [Cond.methodLink RX3 83 yX3_only, Cond.static yX3_only, Cond.code yX3_only cX3_only 1 (some .int), Cond.instanceMethod yX1_signersOf, Cond.selects RX1 yX1_signersOf yX1_signersOf, Cond.code yX1_signersOf cX1_signersOf 4 (some .int), Cond.fieldLink RX1 9 "Buildlots$Keys" "signers" "[I", Cond.methodLink RX3 176 yX3_suffices, Cond.instanceMethod yX3_suffices, Cond.selects RX3 yX3_suffices yX3_suffices, Cond.code yX3_suffices cX3_suffices 3 (some .boolean), Cond.fieldLink RX3 34 "Buildlots" "thresholds" "[I", Cond.constantFloat RX3 230 (1120403456), Cond.methodLink RX3 168 yX3_scoreFrom, Cond.instanceMethod yX3_scoreFrom, Cond.selects RX3 yX3_scoreFrom yX3_scoreFrom, Cond.code yX3_scoreFrom cX3_scoreFrom 4 (some .float), Cond.fieldLink RX3 30 "Buildlots" "weights" "[I", Cond.methodLink RX3 73 yX3_holds]
def wsX3_hangsOnKey : List Cond := .code yX3_hangsOnKey cX3_hangsOnKey 6 (some .int) :: ((wsX3_hangsOnKey_r1 ++ wsX3_hangsOnKey_r2) ++ wsX30 ++ wsX00 ++ wsX10 ++ (vx_atS RX3 239 "java/lang/IndexOutOfBoundsException" ["java/lang/RuntimeException", "java/lang/Exception"]).filter goodWord)
def wsX3_recall_r1 : List Cond := [Cond.classLink RX3 58 "java/lang/IllegalStateException", Cond.initialized "java/lang/IllegalStateException", Cond.fieldLink RX3 19 "Buildlots" "builds" "LBuildlots$Builds;", Cond.methodLink RX3 130 yX3_requireBuild, Cond.instanceMethod yX3_requireBuild, Cond.selects RX3 yX3_requireBuild yX3_requireBuild, Cond.initialized RX3, Cond.code yX3_requireBuild cX3_requireBuild 2 none, Cond.classLink RX3 235 "java/lang/IndexOutOfBoundsException", Cond.initialized "java/lang/IndexOutOfBoundsException", Cond.methodLink RX3 73 yX3_holds, Cond.static yX3_holds, Cond.code yX3_holds cX3_holds 2 (some .boolean), Cond.methodLink RX3 83 yX3_only, Cond.static yX3_only, Cond.code yX3_only cX3_only 1 (some .int), Cond.instanceMethod yX0_recalled, Cond.initialized RX0, Cond.selects RX0 yX0_recalled yX0_recalled, Cond.code yX0_recalled cX0_recalled 3 (some .int), Cond.fieldLink RX0 54 "Buildlots$Builds" "marked" "I", Cond.fieldLink RX0 36 "Buildlots$Builds" "count" "I", Cond.fieldLink RX0 18 "Buildlots$Builds" "sources" "[I", Cond.methodLink RX3 91 yJ6_bitCount_0f7a4]
def wsX3_recall_r2 : List Cond := [Cond.static yJ6_bitCount_0f7a4, Cond.initialized RJ6, Cond.code yJ6_bitCount_0f7a4 cJ6_bitCount_0f7a4 1 (some .int), Cond.constant RJ6 265 (1431655765), Cond.constant RJ6 266 (858993459), Cond.constant RJ6 267 (252645135)]
def wsX3_recall : List Cond := .code yX3_recall cX3_recall 3 (some .int) :: ((wsX3_recall_r1 ++ wsX3_recall_r2) ++ wsX30 ++ wsX00 ++ (vx_atS RX3 62 "java/lang/IllegalStateException" ["java/lang/RuntimeException", "java/lang/Exception"]).filter goodWord ++ (vx_atS RX3 239 "java/lang/IndexOutOfBoundsException" ["java/lang/RuntimeException", "java/lang/Exception"]).filter goodWord)
def wsX3_lift_r1 : List Cond := [Cond.classLink RX3 58 "java/lang/IllegalStateException", Cond.initialized "java/lang/IllegalStateException", Cond.fieldLink RX3 19 "Buildlots" "builds" "LBuildlots$Builds;", Cond.methodLink RX3 130 yX3_requireBuild, Cond.instanceMethod yX3_requireBuild, Cond.selects RX3 yX3_requireBuild yX3_requireBuild, Cond.initialized RX3, Cond.code yX3_requireBuild cX3_requireBuild 2 none, Cond.classLink RX3 235 "java/lang/IndexOutOfBoundsException", Cond.initialized "java/lang/IndexOutOfBoundsException", Cond.methodLink RX3 73 yX3_holds, Cond.static yX3_holds, Cond.code yX3_holds cX3_holds 2 (some .boolean), Cond.methodLink RX3 83 yX3_only, Cond.static yX3_only, Cond.code yX3_only cX3_only 1 (some .int), Cond.instanceMethod yX0_recalled, Cond.initialized RX0, Cond.selects RX0 yX0_recalled yX0_recalled, Cond.code yX0_recalled cX0_recalled 3 (some .int), Cond.fieldLink RX0 54 "Buildlots$Builds" "marked" "I", Cond.fieldLink RX0 36 "Buildlots$Builds" "count" "I", Cond.fieldLink RX0 18 "Buildlots$Builds" "sources" "[I", Cond.methodLink RX3 91 yJ6_bitCount_0f7a4]
def wsX3_lift_r2 : List Cond := [Cond.static yJ6_bitCount_0f7a4, Cond.initialized RJ6, Cond.code yJ6_bitCount_0f7a4 cJ6_bitCount_0f7a4 1 (some .int), Cond.constant RJ6 265 (1431655765), Cond.constant RJ6 266 (858993459), Cond.constant RJ6 267 (252645135)]
def wsX3_lift : List Cond := .code yX3_lift cX3_lift 3 (some .int) :: ((wsX3_lift_r1 ++ wsX3_lift_r2) ++ wsX30 ++ wsX00 ++ (vx_atS RX3 62 "java/lang/IllegalStateException" ["java/lang/RuntimeException", "java/lang/Exception"]).filter goodWord ++ (vx_atS RX3 239 "java/lang/IndexOutOfBoundsException" ["java/lang/RuntimeException", "java/lang/Exception"]).filter goodWord)
def wsX3_isRecalled : List Cond := .code yX3_isRecalled cX3_isRecalled 2 (some .boolean) :: ([.fieldLink RX3 19 "Buildlots" "builds" "LBuildlots$Builds;", .methodLink RX3 130 yX3_requireBuild, .instanceMethod yX3_requireBuild, .selects RX3 yX3_requireBuild yX3_requireBuild, .initialized RX3, .code yX3_requireBuild cX3_requireBuild 2 none, .classLink RX3 235 "java/lang/IndexOutOfBoundsException", .initialized "java/lang/IndexOutOfBoundsException", .instanceMethod yX0_recalled, .initialized RX0, .selects RX0 yX0_recalled yX0_recalled, .code yX0_recalled cX0_recalled 3 (some .int), .fieldLink RX0 54 "Buildlots$Builds" "marked" "I", .fieldLink RX0 36 "Buildlots$Builds" "count" "I", .fieldLink RX0 18 "Buildlots$Builds" "sources" "[I", .static yX3_only, .code yX3_only cX3_only 1 (some .int), .methodLink RX3 73 yX3_holds, .static yX3_holds, .code yX3_holds cX3_holds 2 (some .boolean), .methodLink RX3 83 yX3_only] ++ wsX30 ++ wsX00 ++ (vx_atS RX3 239 "java/lang/IndexOutOfBoundsException" ["java/lang/RuntimeException", "java/lang/Exception"]).filter goodWord)
def wsX3_rebuild : List Cond := .code yX3_rebuild cX3_rebuild 4 (some .boolean) :: ([.classLink RX3 58 "java/lang/IllegalStateException", .initialized "java/lang/IllegalStateException", .fieldLink RX3 19 "Buildlots" "builds" "LBuildlots$Builds;", .methodLink RX3 130 yX3_requireBuild, .instanceMethod yX3_requireBuild, .selects RX3 yX3_requireBuild yX3_requireBuild, .initialized RX3, .code yX3_requireBuild cX3_requireBuild 2 none, .classLink RX3 235 "java/lang/IndexOutOfBoundsException", .initialized "java/lang/IndexOutOfBoundsException"] ++ wsX30 ++ wsX00 ++ (vx_atS RX3 62 "java/lang/IllegalStateException" ["java/lang/RuntimeException", "java/lang/Exception"]).filter goodWord ++ (vx_atS RX3 239 "java/lang/IndexOutOfBoundsException" ["java/lang/RuntimeException", "java/lang/Exception"]).filter goodWord)
def wsX3_share : List Cond := .code yX3_share cX3_share 3 (some .float) :: ([.classLink RX3 197 "java/util/NoSuchElementException", .initialized "java/util/NoSuchElementException", .fieldLink RX3 19 "Buildlots" "builds" "LBuildlots$Builds;", .methodLink RX3 130 yX3_requireBuild, .instanceMethod yX3_requireBuild, .selects RX3 yX3_requireBuild yX3_requireBuild, .initialized RX3, .code yX3_requireBuild cX3_requireBuild 2 none, .classLink RX3 235 "java/lang/IndexOutOfBoundsException", .initialized "java/lang/IndexOutOfBoundsException"] ++ wsX30 ++ wsX00 ++ (vx_atS RX3 201 "java/util/NoSuchElementException" ["java/lang/RuntimeException", "java/lang/Exception"]).filter goodWord ++ (vx_atS RX3 239 "java/lang/IndexOutOfBoundsException" ["java/lang/RuntimeException", "java/lang/Exception"]).filter goodWord)
def wsX3_addMirror : List Cond := .code yX3_addMirror cX3_addMirror 1 (some .int) :: ([.classLink RX3 58 "java/lang/IllegalStateException", .initialized "java/lang/IllegalStateException", .fieldLink RX3 26 "Buildlots" "mirrors" "LBuildlots$Mirrors;", .instanceMethod yX2_append, .initialized RX2, .selects RX2 yX2_append yX2_append, .code yX2_append cX2_append 2 (some .int), .fieldLink RX2 18 "Buildlots$Mirrors" "count" "I", .fieldLink RX2 9 "Buildlots$Mirrors" "updatedOn" "[I", .fieldLink RX2 15 "Buildlots$Mirrors" "offered" "[I"] ++ wsX30 ++ wsX20 ++ (vx_atS RX3 62 "java/lang/IllegalStateException" ["java/lang/RuntimeException", "java/lang/Exception"]).filter goodWord)
def wsX3_requireMirror : List Cond := .code yX3_requireMirror cX3_requireMirror 2 none :: ([.classLink RX3 235 "java/lang/IndexOutOfBoundsException", .initialized "java/lang/IndexOutOfBoundsException", .fieldLink RX3 26 "Buildlots" "mirrors" "LBuildlots$Mirrors;"] ++ wsX30 ++ wsX20 ++ (vx_atS RX3 239 "java/lang/IndexOutOfBoundsException" ["java/lang/RuntimeException", "java/lang/Exception"]).filter goodWord)
def wsX3_update : List Cond := .code yX3_update cX3_update 2 (some .int) :: ([.fieldLink RX3 26 "Buildlots" "mirrors" "LBuildlots$Mirrors;", .fieldLink RX3 19 "Buildlots" "builds" "LBuildlots$Builds;", .fieldLink RX3 41 "Buildlots" "today" "I", .methodLink RX3 207 yX3_requireMirror, .instanceMethod yX3_requireMirror, .selects RX3 yX3_requireMirror yX3_requireMirror, .initialized RX3, .code yX3_requireMirror cX3_requireMirror 2 none, .classLink RX3 235 "java/lang/IndexOutOfBoundsException", .initialized "java/lang/IndexOutOfBoundsException", .instanceMethod yX0_all, .initialized RX0, .selects RX0 yX0_all yX0_all, .code yX0_all cX0_all 1 (some .int), .fieldLink RX0 36 "Buildlots$Builds" "count" "I", .static yX3_only, .code yX3_only cX3_only 1 (some .int), .instanceMethod yX0_recalled, .selects RX0 yX0_recalled yX0_recalled, .code yX0_recalled cX0_recalled 3 (some .int), .fieldLink RX0 54 "Buildlots$Builds" "marked" "I", .fieldLink RX0 18 "Buildlots$Builds" "sources" "[I"] ++ wsX30 ++ wsX20 ++ wsX00 ++ (vx_atS RX3 239 "java/lang/IndexOutOfBoundsException" ["java/lang/RuntimeException", "java/lang/Exception"]).filter goodWord)
def wsX3_hasExpired : List Cond := .code yX3_hasExpired cX3_hasExpired 3 (some .boolean) :: ([.fieldLink RX3 26 "Buildlots" "mirrors" "LBuildlots$Mirrors;", .fieldLink RX3 41 "Buildlots" "today" "I", .fieldLink RX3 37 "Buildlots" "expiry" "I"] ++ wsX30 ++ wsX20)
def wsX3_isExpired : List Cond := .code yX3_isExpired cX3_isExpired 2 (some .boolean) :: ([.methodLink RX3 207 yX3_requireMirror, .instanceMethod yX3_requireMirror, .selects RX3 yX3_requireMirror yX3_requireMirror, .initialized RX3, .code yX3_requireMirror cX3_requireMirror 2 none, .classLink RX3 235 "java/lang/IndexOutOfBoundsException", .initialized "java/lang/IndexOutOfBoundsException", .fieldLink RX3 26 "Buildlots" "mirrors" "LBuildlots$Mirrors;", .methodLink RX3 216 yX3_hasExpired, .instanceMethod yX3_hasExpired, .selects RX3 yX3_hasExpired yX3_hasExpired, .code yX3_hasExpired cX3_hasExpired 3 (some .boolean), .fieldLink RX3 41 "Buildlots" "today" "I", .fieldLink RX3 37 "Buildlots" "expiry" "I"] ++ wsX30 ++ wsX20 ++ (vx_atS RX3 239 "java/lang/IndexOutOfBoundsException" ["java/lang/RuntimeException", "java/lang/Exception"]).filter goodWord)
def wsX3_setExpiry : List Cond := .code yX3_setExpiry cX3_setExpiry 3 (some .int) :: ([.classLink RX3 48 "java/lang/IllegalArgumentException", .initialized "java/lang/IllegalArgumentException", .fieldLink RX3 37 "Buildlots" "expiry" "I"] ++ wsX30 ++ (vx_atS RX3 52 "java/lang/IllegalArgumentException" ["java/lang/RuntimeException", "java/lang/Exception"]).filter goodWord)
def wsX3_install_r1 : List Cond := [Cond.classLink RX3 121 "java/lang/UnsupportedOperationException", Cond.initialized "java/lang/UnsupportedOperationException", Cond.fieldLink RX3 19 "Buildlots" "builds" "LBuildlots$Builds;", Cond.fieldLink RX3 26 "Buildlots" "mirrors" "LBuildlots$Mirrors;", Cond.methodLink RX3 207 yX3_requireMirror, Cond.instanceMethod yX3_requireMirror, Cond.selects RX3 yX3_requireMirror yX3_requireMirror, Cond.initialized RX3, Cond.code yX3_requireMirror cX3_requireMirror 2 none, Cond.classLink RX3 235 "java/lang/IndexOutOfBoundsException", Cond.initialized "java/lang/IndexOutOfBoundsException", Cond.methodLink RX3 108 yX3_requireName, Cond.instanceMethod yX3_requireName, Cond.selects RX3 yX3_requireName yX3_requireName, Cond.code yX3_requireName cX3_requireName 2 none, Cond.classLink RX3 48 "java/lang/IllegalArgumentException", Cond.initialized "java/lang/IllegalArgumentException", Cond.methodLink RX3 216 yX3_hasExpired, Cond.instanceMethod yX3_hasExpired, Cond.selects RX3 yX3_hasExpired yX3_hasExpired, Cond.code yX3_hasExpired cX3_hasExpired 3 (some .boolean), Cond.fieldLink RX3 41 "Buildlots" "today" "I", Cond.fieldLink RX3 37 "Buildlots" "expiry" "I", Cond.methodLink RX3 79 yX3_trustedBuilds]
def wsX3_install_r2 : List Cond := [Cond.instanceMethod yX3_trustedBuilds, Cond.selects RX3 yX3_trustedBuilds yX3_trustedBuilds, Cond.code yX3_trustedBuilds cX3_trustedBuilds 3 (some .int), Cond.methodLink RX3 176 yX3_suffices, Cond.instanceMethod yX3_suffices, Cond.selects RX3 yX3_suffices yX3_suffices, Cond.code yX3_suffices cX3_suffices 3 (some .boolean), Cond.fieldLink RX3 34 "Buildlots" "thresholds" "[I", Cond.constantFloat RX3 230 (1120403456), Cond.methodLink RX3 168 yX3_scoreFrom, Cond.instanceMethod yX3_scoreFrom, Cond.selects RX3 yX3_scoreFrom yX3_scoreFrom, Cond.code yX3_scoreFrom cX3_scoreFrom 4 (some .float), Cond.fieldLink RX3 30 "Buildlots" "weights" "[I", Cond.methodLink RX3 73 yX3_holds, Cond.static yX3_holds, Cond.code yX3_holds cX3_holds 2 (some .boolean), Cond.methodLink RX3 83 yX3_only, Cond.static yX3_only, Cond.code yX3_only cX3_only 1 (some .int), Cond.instanceMethod yX0_newestOf, Cond.initialized RX0, Cond.selects RX0 yX0_newestOf yX0_newestOf, Cond.code yX0_newestOf cX0_newestOf 5 (some .int)]
def wsX3_install_r3 : List Cond := [Cond.fieldLink RX0 36 "Buildlots$Builds" "count" "I", Cond.fieldLink RX0 9 "Buildlots$Builds" "names" "[I", Cond.methodLink RX3 146 yX3_requireFound, Cond.static yX3_requireFound, Cond.code yX3_requireFound cX3_requireFound 1 (some .int), Cond.classLink RX3 197 "java/util/NoSuchElementException", Cond.initialized "java/util/NoSuchElementException"]
def wsX3_install : List Cond := .code yX3_install cX3_install 3 (some .int) :: ((wsX3_install_r1 ++ (wsX3_install_r2 ++ wsX3_install_r3)) ++ wsX30 ++ wsX20 ++ wsX00 ++ (vx_atS RX3 125 "java/lang/UnsupportedOperationException" ["java/lang/RuntimeException", "java/lang/Exception"]).filter goodWord ++ (vx_atS RX3 239 "java/lang/IndexOutOfBoundsException" ["java/lang/RuntimeException", "java/lang/Exception"]).filter goodWord ++ (vx_atS RX3 52 "java/lang/IllegalArgumentException" ["java/lang/RuntimeException", "java/lang/Exception"]).filter goodWord ++ (vx_atS RX3 201 "java/util/NoSuchElementException" ["java/lang/RuntimeException", "java/lang/Exception"]).filter goodWord)
def wsX3_pass_r1 : List Cond := [Cond.classLink RX3 48 "java/lang/IllegalArgumentException", Cond.initialized "java/lang/IllegalArgumentException", Cond.fieldLink RX3 41 "Buildlots" "today" "I", Cond.fieldLink RX3 19 "Buildlots" "builds" "LBuildlots$Builds;", Cond.fieldLink RX3 10 "Buildlots" "keys" "LBuildlots$Keys;", Cond.methodLink RX3 79 yX3_trustedBuilds, Cond.instanceMethod yX3_trustedBuilds, Cond.selects RX3 yX3_trustedBuilds yX3_trustedBuilds, Cond.initialized RX3, Cond.code yX3_trustedBuilds cX3_trustedBuilds 3 (some .int), Cond.methodLink RX3 176 yX3_suffices, Cond.instanceMethod yX3_suffices, Cond.selects RX3 yX3_suffices yX3_suffices, Cond.code yX3_suffices cX3_suffices 3 (some .boolean), Cond.fieldLink RX3 34 "Buildlots" "thresholds" "[I", Cond.constantFloat RX3 230 (1120403456), Cond.methodLink RX3 168 yX3_scoreFrom, Cond.instanceMethod yX3_scoreFrom, Cond.selects RX3 yX3_scoreFrom yX3_scoreFrom, Cond.code yX3_scoreFrom cX3_scoreFrom 4 (some .float), Cond.fieldLink RX3 30 "Buildlots" "weights" "[I", Cond.methodLink RX3 73 yX3_holds, Cond.static yX3_holds, Cond.code yX3_holds cX3_holds 2 (some .boolean)]
def wsX3_pass_r2 : List Cond := [Cond.methodLink RX3 83 yX3_only, Cond.static yX3_only, Cond.code yX3_only cX3_only 1 (some .int), Cond.instanceMethod yX0_keepVouchers, Cond.initialized RX0, Cond.selects RX0 yX0_keepVouchers yX0_keepVouchers, Cond.code yX0_keepVouchers cX0_keepVouchers 5 none, Cond.fieldLink RX0 36 "Buildlots$Builds" "count" "I", Cond.fieldLink RX0 27 "Buildlots$Builds" "vouchers" "[I", Cond.fieldLink RX0 24 "Buildlots$Builds" "attesters" "[I", Cond.instanceMethod yX1_live, Cond.initialized RX1, Cond.selects RX1 yX1_live yX1_live, Cond.code yX1_live cX1_live 4 (some .int), Cond.fieldLink RX1 21 "Buildlots$Keys" "count" "I", Cond.methodLink RX1 32 yX1_liveOn, Cond.instanceMethod yX1_liveOn, Cond.selects RX1 yX1_liveOn yX1_liveOn, Cond.code yX1_liveOn cX1_liveOn 3 (some .boolean), Cond.fieldLink RX1 15 "Buildlots$Keys" "firsts" "[I", Cond.fieldLink RX1 18 "Buildlots$Keys" "lasts" "[I", Cond.fieldLink RX1 25 "Buildlots$Keys" "lost" "I", Cond.instanceMethod yX1_signersOf, Cond.selects RX1 yX1_signersOf yX1_signersOf]
def wsX3_pass_r3 : List Cond := [Cond.code yX1_signersOf cX1_signersOf 4 (some .int), Cond.fieldLink RX1 9 "Buildlots$Keys" "signers" "[I", Cond.methodLink RX3 91 yJ6_bitCount_0f7a4, Cond.static yJ6_bitCount_0f7a4, Cond.initialized RJ6, Cond.code yJ6_bitCount_0f7a4 cJ6_bitCount_0f7a4 1 (some .int), Cond.constant RJ6 265 (1431655765), Cond.constant RJ6 266 (858993459), Cond.constant RJ6 267 (252645135)]
def wsX3_pass : List Cond := .code yX3_pass cX3_pass 3 (some .int) :: ((wsX3_pass_r1 ++ (wsX3_pass_r2 ++ wsX3_pass_r3)) ++ wsX30 ++ wsX00 ++ wsX10 ++ (vx_atS RX3 52 "java/lang/IllegalArgumentException" ["java/lang/RuntimeException", "java/lang/Exception"]).filter goodWord)
def wsX3_day : List Cond := .code yX3_day cX3_day 1 (some .int) :: ([.fieldLink RX3 41 "Buildlots" "today" "I"] ++ wsX30)
def wsX3_scoreSumBits : List Cond := .code yX3_scoreSumBits cX3_scoreSumBits 4 (some .long) :: ([.fieldLink RX3 19 "Buildlots" "builds" "LBuildlots$Builds;", .methodLink RX3 168 yX3_scoreFrom, .instanceMethod yX3_scoreFrom, .selects RX3 yX3_scoreFrom yX3_scoreFrom, .initialized RX3, .code yX3_scoreFrom cX3_scoreFrom 4 (some .float), .fieldLink RX3 30 "Buildlots" "weights" "[I", .constantFloat RX3 230 (1120403456), .methodLink RX3 73 yX3_holds, .static yX3_holds, .code yX3_holds cX3_holds 2 (some .boolean), .methodLink RX3 83 yX3_only, .static yX3_only, .code yX3_only cX3_only 1 (some .int), .methodLink RX3 226 yX3_doubleBits, .static yX3_doubleBits, .code yX3_doubleBits cX3_doubleBits 6 (some .long), .constantLong RX3 246 (1023), .constantDouble RX3 248 (4611686018427387904), .constantLong RX3 250 (2046), .constantDouble RX3 252 (4841369599423283200)] ++ wsX30 ++ wsX00)
def wsX4_init : List Cond := .code yX4_init cX4_init 1 none :: ([.methodLink RX4 1 objectInit, .instanceMethod objectInit, .code objectInit ⟨#[0xb1]⟩ 1 none, .arrayClass .int, .fieldLink RX4 7 "BuildlotsModel" "weights" "[I", .fieldLink RX4 13 "BuildlotsModel" "thresholds" "[I", .fieldLink RX4 16 "BuildlotsModel" "signers" "[I", .fieldLink RX4 19 "BuildlotsModel" "firsts" "[I", .fieldLink RX4 22 "BuildlotsModel" "lasts" "[I", .arrayClass .boolean, .fieldLink RX4 25 "BuildlotsModel" "areLost" "[Z", .fieldLink RX4 29 "BuildlotsModel" "names" "[I", .fieldLink RX4 32 "BuildlotsModel" "versions" "[I", .fieldLink RX4 35 "BuildlotsModel" "used" "[I", .fieldLink RX4 38 "BuildlotsModel" "results" "[I", .fieldLink RX4 41 "BuildlotsModel" "attested" "[I", .fieldLink RX4 44 "BuildlotsModel" "areMarked" "[Z", .fieldLink RX4 47 "BuildlotsModel" "told" "[I", .fieldLink RX4 50 "BuildlotsModel" "right" "[I", .fieldLink RX4 53 "BuildlotsModel" "listed" "[I", .fieldLink RX4 56 "BuildlotsModel" "listRecalled" "[I", .fieldLink RX4 59 "BuildlotsModel" "listedOn" "[I", .fieldLink RX4 62 "BuildlotsModel" "expiry" "I"] ++ wsX40)
def wsX4_thrown : List Cond := .code yX4_thrown cX4_thrown 1 (some .int) :: ([.fieldLink RX4 66 "BuildlotsModel" "code" "I"] ++ wsX40)
def wsX4_fails : List Cond := .code yX4_fails cX4_fails 2 (some .boolean) :: ([.fieldLink RX4 66 "BuildlotsModel" "code" "I"] ++ wsX40)
def wsX4_tells : List Cond := .code yX4_tells cX4_tells 2 (some .int) :: ([.fieldLink RX4 66 "BuildlotsModel" "code" "I"] ++ wsX40)
def wsX4_in : List Cond := .code yX4_in cX4_in 3 (some .boolean) :: ([])
def wsX4_isNoKey : List Cond := .code yX4_isNoKey cX4_isNoKey 2 (some .boolean) :: ([.fieldLink RX4 69 "BuildlotsModel" "keys" "I", .methodLink RX4 72 yX4_in, .static yX4_in, .initialized RX4, .code yX4_in cX4_in 3 (some .boolean), .methodLink RX4 76 yX4_fails, .instanceMethod yX4_fails, .selects RX4 yX4_fails yX4_fails, .code yX4_fails cX4_fails 2 (some .boolean), .fieldLink RX4 66 "BuildlotsModel" "code" "I"] ++ wsX40)
def wsX4_isNoBuild : List Cond := .code yX4_isNoBuild cX4_isNoBuild 2 (some .boolean) :: ([.fieldLink RX4 80 "BuildlotsModel" "builds" "I", .methodLink RX4 72 yX4_in, .static yX4_in, .initialized RX4, .code yX4_in cX4_in 3 (some .boolean), .methodLink RX4 76 yX4_fails, .instanceMethod yX4_fails, .selects RX4 yX4_fails yX4_fails, .code yX4_fails cX4_fails 2 (some .boolean), .fieldLink RX4 66 "BuildlotsModel" "code" "I"] ++ wsX40)
def wsX4_isNoMirror : List Cond := .code yX4_isNoMirror cX4_isNoMirror 2 (some .boolean) :: ([.fieldLink RX4 83 "BuildlotsModel" "mirrors" "I", .methodLink RX4 72 yX4_in, .static yX4_in, .initialized RX4, .code yX4_in cX4_in 3 (some .boolean), .methodLink RX4 76 yX4_fails, .instanceMethod yX4_fails, .selects RX4 yX4_fails yX4_fails, .code yX4_fails cX4_fails 2 (some .boolean), .fieldLink RX4 66 "BuildlotsModel" "code" "I"] ++ wsX40)
def wsX4_bits : List Cond := .code yX4_bits cX4_bits 3 (some .int) :: ([])
def wsX4_addKey : List Cond := .code yX4_addKey cX4_addKey 4 (some .int) :: ([.fieldLink RX4 86 "BuildlotsModel" "day" "I", .fieldLink RX4 69 "BuildlotsModel" "keys" "I", .fieldLink RX4 16 "BuildlotsModel" "signers" "[I", .fieldLink RX4 19 "BuildlotsModel" "firsts" "[I", .fieldLink RX4 22 "BuildlotsModel" "lasts" "[I", .methodLink RX4 72 yX4_in, .static yX4_in, .initialized RX4, .code yX4_in cX4_in 3 (some .boolean), .methodLink RX4 76 yX4_fails, .instanceMethod yX4_fails, .selects RX4 yX4_fails yX4_fails, .code yX4_fails cX4_fails 2 (some .boolean), .fieldLink RX4 66 "BuildlotsModel" "code" "I"] ++ wsX40)
def wsX4_lives : List Cond := .code yX4_lives cX4_lives 2 (some .boolean) :: ([.fieldLink RX4 25 "BuildlotsModel" "areLost" "[Z", .fieldLink RX4 86 "BuildlotsModel" "day" "I", .fieldLink RX4 19 "BuildlotsModel" "firsts" "[I", .fieldLink RX4 22 "BuildlotsModel" "lasts" "[I", .methodLink RX4 72 yX4_in, .static yX4_in, .initialized RX4, .code yX4_in cX4_in 3 (some .boolean)] ++ wsX40)
def wsX4_backs : List Cond := .code yX4_backs cX4_backs 5 (some .boolean) :: ([.fieldLink RX4 69 "BuildlotsModel" "keys" "I", .fieldLink RX4 16 "BuildlotsModel" "signers" "[I", .fieldLink RX4 41 "BuildlotsModel" "attested" "[I", .methodLink RX4 100 yX4_lives, .instanceMethod yX4_lives, .selects RX4 yX4_lives yX4_lives, .initialized RX4, .code yX4_lives cX4_lives 2 (some .boolean), .fieldLink RX4 25 "BuildlotsModel" "areLost" "[Z", .fieldLink RX4 86 "BuildlotsModel" "day" "I", .fieldLink RX4 19 "BuildlotsModel" "firsts" "[I", .fieldLink RX4 22 "BuildlotsModel" "lasts" "[I", .methodLink RX4 72 yX4_in, .static yX4_in, .code yX4_in cX4_in 3 (some .boolean)] ++ wsX40)
def wsX4_scoreOf : List Cond := .code yX4_scoreOf cX4_scoreOf 5 (some .float) :: ([.fieldLink RX4 7 "BuildlotsModel" "weights" "[I", .constantFloat RX4 129 (1120403456), .methodLink RX4 122 yX4_backs, .instanceMethod yX4_backs, .selects RX4 yX4_backs yX4_backs, .initialized RX4, .code yX4_backs cX4_backs 5 (some .boolean), .fieldLink RX4 69 "BuildlotsModel" "keys" "I", .fieldLink RX4 16 "BuildlotsModel" "signers" "[I", .fieldLink RX4 41 "BuildlotsModel" "attested" "[I", .methodLink RX4 100 yX4_lives, .instanceMethod yX4_lives, .selects RX4 yX4_lives yX4_lives, .code yX4_lives cX4_lives 2 (some .boolean), .fieldLink RX4 25 "BuildlotsModel" "areLost" "[Z", .fieldLink RX4 86 "BuildlotsModel" "day" "I", .fieldLink RX4 19 "BuildlotsModel" "firsts" "[I", .fieldLink RX4 22 "BuildlotsModel" "lasts" "[I", .methodLink RX4 72 yX4_in, .static yX4_in, .code yX4_in cX4_in 3 (some .boolean)] ++ wsX40)
def wsX4_isEnough_r1 : List Cond := [Cond.fieldLink RX4 13 "BuildlotsModel" "thresholds" "[I", Cond.fieldLink RX4 29 "BuildlotsModel" "names" "[I", Cond.constantFloat RX4 129 (1120403456), Cond.methodLink RX4 130 yX4_scoreOf, Cond.instanceMethod yX4_scoreOf, Cond.selects RX4 yX4_scoreOf yX4_scoreOf, Cond.initialized RX4, Cond.code yX4_scoreOf cX4_scoreOf 5 (some .float), Cond.fieldLink RX4 7 "BuildlotsModel" "weights" "[I", Cond.methodLink RX4 122 yX4_backs, Cond.instanceMethod yX4_backs, Cond.selects RX4 yX4_backs yX4_backs, Cond.code yX4_backs cX4_backs 5 (some .boolean), Cond.fieldLink RX4 69 "BuildlotsModel" "keys" "I", Cond.fieldLink RX4 16 "BuildlotsModel" "signers" "[I", Cond.fieldLink RX4 41 "BuildlotsModel" "attested" "[I", Cond.methodLink RX4 100 yX4_lives, Cond.instanceMethod yX4_lives, Cond.selects RX4 yX4_lives yX4_lives, Cond.code yX4_lives cX4_lives 2 (some .boolean), Cond.fieldLink RX4 25 "BuildlotsModel" "areLost" "[Z", Cond.fieldLink RX4 86 "BuildlotsModel" "day" "I", Cond.fieldLink RX4 19 "BuildlotsModel" "firsts" "[I", Cond.fieldLink RX4 22 "BuildlotsModel" "lasts" "[I"]
def wsX4_isEnough_r2 : List Cond := [Cond.methodLink RX4 72 yX4_in, Cond.static yX4_in, Cond.code yX4_in cX4_in 3 (some .boolean)]
def wsX4_isEnough : List Cond := .code yX4_isEnough cX4_isEnough 3 (some .boolean) :: ((wsX4_isEnough_r1 ++ wsX4_isEnough_r2) ++ wsX40)
def wsX4_trustedWithout_r1 : List Cond := [Cond.fieldLink RX4 80 "BuildlotsModel" "builds" "I", Cond.methodLink RX4 134 yX4_isEnough, Cond.instanceMethod yX4_isEnough, Cond.selects RX4 yX4_isEnough yX4_isEnough, Cond.initialized RX4, Cond.code yX4_isEnough cX4_isEnough 3 (some .boolean), Cond.fieldLink RX4 13 "BuildlotsModel" "thresholds" "[I", Cond.fieldLink RX4 29 "BuildlotsModel" "names" "[I", Cond.constantFloat RX4 129 (1120403456), Cond.methodLink RX4 130 yX4_scoreOf, Cond.instanceMethod yX4_scoreOf, Cond.selects RX4 yX4_scoreOf yX4_scoreOf, Cond.code yX4_scoreOf cX4_scoreOf 5 (some .float), Cond.fieldLink RX4 7 "BuildlotsModel" "weights" "[I", Cond.methodLink RX4 122 yX4_backs, Cond.instanceMethod yX4_backs, Cond.selects RX4 yX4_backs yX4_backs, Cond.code yX4_backs cX4_backs 5 (some .boolean), Cond.fieldLink RX4 69 "BuildlotsModel" "keys" "I", Cond.fieldLink RX4 16 "BuildlotsModel" "signers" "[I", Cond.fieldLink RX4 41 "BuildlotsModel" "attested" "[I", Cond.methodLink RX4 100 yX4_lives, Cond.instanceMethod yX4_lives, Cond.selects RX4 yX4_lives yX4_lives]
def wsX4_trustedWithout_r2 : List Cond := [Cond.code yX4_lives cX4_lives 2 (some .boolean), Cond.fieldLink RX4 25 "BuildlotsModel" "areLost" "[Z", Cond.fieldLink RX4 86 "BuildlotsModel" "day" "I", Cond.fieldLink RX4 19 "BuildlotsModel" "firsts" "[I", Cond.fieldLink RX4 22 "BuildlotsModel" "lasts" "[I", Cond.methodLink RX4 72 yX4_in, Cond.static yX4_in, Cond.code yX4_in cX4_in 3 (some .boolean)]
def wsX4_trustedWithout : List Cond := .code yX4_trustedWithout cX4_trustedWithout 4 (some .int) :: ((wsX4_trustedWithout_r1 ++ wsX4_trustedWithout_r2) ++ wsX40)
def wsX4_trusted_r1 : List Cond := [Cond.methodLink RX4 137 yX4_trustedWithout, Cond.instanceMethod yX4_trustedWithout, Cond.selects RX4 yX4_trustedWithout yX4_trustedWithout, Cond.initialized RX4, Cond.code yX4_trustedWithout cX4_trustedWithout 4 (some .int), Cond.fieldLink RX4 80 "BuildlotsModel" "builds" "I", Cond.methodLink RX4 134 yX4_isEnough, Cond.instanceMethod yX4_isEnough, Cond.selects RX4 yX4_isEnough yX4_isEnough, Cond.code yX4_isEnough cX4_isEnough 3 (some .boolean), Cond.fieldLink RX4 13 "BuildlotsModel" "thresholds" "[I", Cond.fieldLink RX4 29 "BuildlotsModel" "names" "[I", Cond.constantFloat RX4 129 (1120403456), Cond.methodLink RX4 130 yX4_scoreOf, Cond.instanceMethod yX4_scoreOf, Cond.selects RX4 yX4_scoreOf yX4_scoreOf, Cond.code yX4_scoreOf cX4_scoreOf 5 (some .float), Cond.fieldLink RX4 7 "BuildlotsModel" "weights" "[I", Cond.methodLink RX4 122 yX4_backs, Cond.instanceMethod yX4_backs, Cond.selects RX4 yX4_backs yX4_backs, Cond.code yX4_backs cX4_backs 5 (some .boolean), Cond.fieldLink RX4 69 "BuildlotsModel" "keys" "I", Cond.fieldLink RX4 16 "BuildlotsModel" "signers" "[I"]
def wsX4_trusted_r2 : List Cond := [Cond.fieldLink RX4 41 "BuildlotsModel" "attested" "[I", Cond.methodLink RX4 100 yX4_lives, Cond.instanceMethod yX4_lives, Cond.selects RX4 yX4_lives yX4_lives, Cond.code yX4_lives cX4_lives 2 (some .boolean), Cond.fieldLink RX4 25 "BuildlotsModel" "areLost" "[Z", Cond.fieldLink RX4 86 "BuildlotsModel" "day" "I", Cond.fieldLink RX4 19 "BuildlotsModel" "firsts" "[I", Cond.fieldLink RX4 22 "BuildlotsModel" "lasts" "[I", Cond.methodLink RX4 72 yX4_in, Cond.static yX4_in, Cond.code yX4_in cX4_in 3 (some .boolean)]
def wsX4_trusted : List Cond := .code yX4_trusted cX4_trusted 1 (some .int) :: ((wsX4_trusted_r1 ++ wsX4_trusted_r2) ++ wsX40)
def wsX4_loseKey_r1 : List Cond := [Cond.fieldLink RX4 25 "BuildlotsModel" "areLost" "[Z", Cond.methodLink RX4 89 yX4_isNoKey, Cond.instanceMethod yX4_isNoKey, Cond.selects RX4 yX4_isNoKey yX4_isNoKey, Cond.initialized RX4, Cond.code yX4_isNoKey cX4_isNoKey 2 (some .boolean), Cond.fieldLink RX4 69 "BuildlotsModel" "keys" "I", Cond.methodLink RX4 72 yX4_in, Cond.static yX4_in, Cond.code yX4_in cX4_in 3 (some .boolean), Cond.methodLink RX4 76 yX4_fails, Cond.instanceMethod yX4_fails, Cond.selects RX4 yX4_fails yX4_fails, Cond.code yX4_fails cX4_fails 2 (some .boolean), Cond.fieldLink RX4 66 "BuildlotsModel" "code" "I", Cond.methodLink RX4 92 yX4_trusted, Cond.instanceMethod yX4_trusted, Cond.selects RX4 yX4_trusted yX4_trusted, Cond.code yX4_trusted cX4_trusted 1 (some .int), Cond.methodLink RX4 137 yX4_trustedWithout, Cond.instanceMethod yX4_trustedWithout, Cond.selects RX4 yX4_trustedWithout yX4_trustedWithout, Cond.code yX4_trustedWithout cX4_trustedWithout 4 (some .int), Cond.fieldLink RX4 80 "BuildlotsModel" "builds" "I"]
def wsX4_loseKey_r2 : List Cond := [Cond.methodLink RX4 134 yX4_isEnough, Cond.instanceMethod yX4_isEnough, Cond.selects RX4 yX4_isEnough yX4_isEnough, Cond.code yX4_isEnough cX4_isEnough 3 (some .boolean), Cond.fieldLink RX4 13 "BuildlotsModel" "thresholds" "[I", Cond.fieldLink RX4 29 "BuildlotsModel" "names" "[I", Cond.constantFloat RX4 129 (1120403456), Cond.methodLink RX4 130 yX4_scoreOf, Cond.instanceMethod yX4_scoreOf, Cond.selects RX4 yX4_scoreOf yX4_scoreOf, Cond.code yX4_scoreOf cX4_scoreOf 5 (some .float), Cond.fieldLink RX4 7 "BuildlotsModel" "weights" "[I", Cond.methodLink RX4 122 yX4_backs, Cond.instanceMethod yX4_backs, Cond.selects RX4 yX4_backs yX4_backs, Cond.code yX4_backs cX4_backs 5 (some .boolean), Cond.fieldLink RX4 16 "BuildlotsModel" "signers" "[I", Cond.fieldLink RX4 41 "BuildlotsModel" "attested" "[I", Cond.methodLink RX4 100 yX4_lives, Cond.instanceMethod yX4_lives, Cond.selects RX4 yX4_lives yX4_lives, Cond.code yX4_lives cX4_lives 2 (some .boolean), Cond.fieldLink RX4 86 "BuildlotsModel" "day" "I", Cond.fieldLink RX4 19 "BuildlotsModel" "firsts" "[I"]
def wsX4_loseKey_r3 : List Cond := [Cond.fieldLink RX4 22 "BuildlotsModel" "lasts" "[I", Cond.methodLink RX4 96 yX4_bits, Cond.static yX4_bits, Cond.code yX4_bits cX4_bits 3 (some .int)]
def wsX4_loseKey : List Cond := .code yX4_loseKey cX4_loseKey 3 (some .int) :: ((wsX4_loseKey_r1 ++ (wsX4_loseKey_r2 ++ wsX4_loseKey_r3)) ++ wsX40)
def wsX4_extendKey : List Cond := .code yX4_extendKey cX4_extendKey 4 (some .int) :: ([.fieldLink RX4 22 "BuildlotsModel" "lasts" "[I", .fieldLink RX4 25 "BuildlotsModel" "areLost" "[Z", .fieldLink RX4 86 "BuildlotsModel" "day" "I", .methodLink RX4 89 yX4_isNoKey, .instanceMethod yX4_isNoKey, .selects RX4 yX4_isNoKey yX4_isNoKey, .initialized RX4, .code yX4_isNoKey cX4_isNoKey 2 (some .boolean), .fieldLink RX4 69 "BuildlotsModel" "keys" "I", .methodLink RX4 72 yX4_in, .static yX4_in, .code yX4_in cX4_in 3 (some .boolean), .methodLink RX4 76 yX4_fails, .instanceMethod yX4_fails, .selects RX4 yX4_fails yX4_fails, .code yX4_fails cX4_fails 2 (some .boolean), .fieldLink RX4 66 "BuildlotsModel" "code" "I"] ++ wsX40)
def wsX4_isLive : List Cond := .code yX4_isLive cX4_isLive 2 (some .boolean) :: ([.methodLink RX4 89 yX4_isNoKey, .instanceMethod yX4_isNoKey, .selects RX4 yX4_isNoKey yX4_isNoKey, .initialized RX4, .code yX4_isNoKey cX4_isNoKey 2 (some .boolean), .fieldLink RX4 69 "BuildlotsModel" "keys" "I", .methodLink RX4 72 yX4_in, .static yX4_in, .code yX4_in cX4_in 3 (some .boolean), .methodLink RX4 76 yX4_fails, .instanceMethod yX4_fails, .selects RX4 yX4_fails yX4_fails, .code yX4_fails cX4_fails 2 (some .boolean), .fieldLink RX4 66 "BuildlotsModel" "code" "I", .methodLink RX4 100 yX4_lives, .instanceMethod yX4_lives, .selects RX4 yX4_lives yX4_lives, .code yX4_lives cX4_lives 2 (some .boolean), .fieldLink RX4 25 "BuildlotsModel" "areLost" "[Z", .fieldLink RX4 86 "BuildlotsModel" "day" "I", .fieldLink RX4 19 "BuildlotsModel" "firsts" "[I", .fieldLink RX4 22 "BuildlotsModel" "lasts" "[I"] ++ wsX40)
def wsX4_setWeight : List Cond := .code yX4_setWeight cX4_setWeight 4 (some .int) :: ([.fieldLink RX4 7 "BuildlotsModel" "weights" "[I", .methodLink RX4 72 yX4_in, .static yX4_in, .initialized RX4, .code yX4_in cX4_in 3 (some .boolean), .methodLink RX4 76 yX4_fails, .instanceMethod yX4_fails, .selects RX4 yX4_fails yX4_fails, .code yX4_fails cX4_fails 2 (some .boolean), .fieldLink RX4 66 "BuildlotsModel" "code" "I"] ++ wsX40)
def wsX4_isNoName : List Cond := .code yX4_isNoName cX4_isNoName 1 (some .boolean) :: ([.methodLink RX4 72 yX4_in, .static yX4_in, .initialized RX4, .code yX4_in cX4_in 3 (some .boolean)])
def wsX4_setThreshold : List Cond := .code yX4_setThreshold cX4_setThreshold 4 (some .int) :: ([.fieldLink RX4 13 "BuildlotsModel" "thresholds" "[I", .methodLink RX4 103 yX4_isNoName, .static yX4_isNoName, .initialized RX4, .code yX4_isNoName cX4_isNoName 1 (some .boolean), .methodLink RX4 72 yX4_in, .static yX4_in, .code yX4_in cX4_in 3 (some .boolean), .methodLink RX4 76 yX4_fails, .instanceMethod yX4_fails, .selects RX4 yX4_fails yX4_fails, .code yX4_fails cX4_fails 2 (some .boolean), .fieldLink RX4 66 "BuildlotsModel" "code" "I"] ++ wsX40)
def wsX4_isGone : List Cond := .code yX4_isGone cX4_isGone 3 (some .boolean) :: ([.fieldLink RX4 44 "BuildlotsModel" "areMarked" "[Z", .fieldLink RX4 35 "BuildlotsModel" "used" "[I"] ++ wsX40)
def wsX4_areRecalled : List Cond := .code yX4_areRecalled cX4_areRecalled 3 (some .boolean) :: ([.fieldLink RX4 80 "BuildlotsModel" "builds" "I", .methodLink RX4 106 yX4_isGone, .instanceMethod yX4_isGone, .selects RX4 yX4_isGone yX4_isGone, .initialized RX4, .code yX4_isGone cX4_isGone 3 (some .boolean), .fieldLink RX4 44 "BuildlotsModel" "areMarked" "[Z", .fieldLink RX4 35 "BuildlotsModel" "used" "[I"] ++ wsX40)
def wsX4_build_r1 : List Cond := [Cond.fieldLink RX4 80 "BuildlotsModel" "builds" "I", Cond.fieldLink RX4 29 "BuildlotsModel" "names" "[I", Cond.fieldLink RX4 32 "BuildlotsModel" "versions" "[I", Cond.fieldLink RX4 35 "BuildlotsModel" "used" "[I", Cond.fieldLink RX4 38 "BuildlotsModel" "results" "[I", Cond.methodLink RX4 103 yX4_isNoName, Cond.static yX4_isNoName, Cond.initialized RX4, Cond.code yX4_isNoName cX4_isNoName 1 (some .boolean), Cond.methodLink RX4 72 yX4_in, Cond.static yX4_in, Cond.code yX4_in cX4_in 3 (some .boolean), Cond.methodLink RX4 109 yX4_areRecalled, Cond.instanceMethod yX4_areRecalled, Cond.selects RX4 yX4_areRecalled yX4_areRecalled, Cond.code yX4_areRecalled cX4_areRecalled 3 (some .boolean), Cond.methodLink RX4 106 yX4_isGone, Cond.instanceMethod yX4_isGone, Cond.selects RX4 yX4_isGone yX4_isGone, Cond.code yX4_isGone cX4_isGone 3 (some .boolean), Cond.fieldLink RX4 44 "BuildlotsModel" "areMarked" "[Z", Cond.methodLink RX4 76 yX4_fails, Cond.instanceMethod yX4_fails, Cond.selects RX4 yX4_fails yX4_fails]
def wsX4_build_r2 : List Cond := [Cond.code yX4_fails cX4_fails 2 (some .boolean), Cond.fieldLink RX4 66 "BuildlotsModel" "code" "I"]
def wsX4_build : List Cond := .code yX4_build cX4_build 5 (some .int) :: ((wsX4_build_r1 ++ wsX4_build_r2) ++ wsX40)
def wsX4_nameOf : List Cond := .code yX4_nameOf cX4_nameOf 2 (some .int) :: ([.fieldLink RX4 29 "BuildlotsModel" "names" "[I", .methodLink RX4 112 yX4_isNoBuild, .instanceMethod yX4_isNoBuild, .selects RX4 yX4_isNoBuild yX4_isNoBuild, .initialized RX4, .code yX4_isNoBuild cX4_isNoBuild 2 (some .boolean), .fieldLink RX4 80 "BuildlotsModel" "builds" "I", .methodLink RX4 72 yX4_in, .static yX4_in, .code yX4_in cX4_in 3 (some .boolean), .methodLink RX4 76 yX4_fails, .instanceMethod yX4_fails, .selects RX4 yX4_fails yX4_fails, .code yX4_fails cX4_fails 2 (some .boolean), .fieldLink RX4 66 "BuildlotsModel" "code" "I"] ++ wsX40)
def wsX4_version : List Cond := .code yX4_version cX4_version 2 (some .int) :: ([.fieldLink RX4 32 "BuildlotsModel" "versions" "[I", .methodLink RX4 112 yX4_isNoBuild, .instanceMethod yX4_isNoBuild, .selects RX4 yX4_isNoBuild yX4_isNoBuild, .initialized RX4, .code yX4_isNoBuild cX4_isNoBuild 2 (some .boolean), .fieldLink RX4 80 "BuildlotsModel" "builds" "I", .methodLink RX4 72 yX4_in, .static yX4_in, .code yX4_in cX4_in 3 (some .boolean), .methodLink RX4 76 yX4_fails, .instanceMethod yX4_fails, .selects RX4 yX4_fails yX4_fails, .code yX4_fails cX4_fails 2 (some .boolean), .fieldLink RX4 66 "BuildlotsModel" "code" "I"] ++ wsX40)
def wsX4_uses : List Cond := .code yX4_uses cX4_uses 3 (some .boolean) :: ([.fieldLink RX4 80 "BuildlotsModel" "builds" "I", .fieldLink RX4 35 "BuildlotsModel" "used" "[I", .methodLink RX4 72 yX4_in, .static yX4_in, .initialized RX4, .code yX4_in cX4_in 3 (some .boolean), .methodLink RX4 76 yX4_fails, .instanceMethod yX4_fails, .selects RX4 yX4_fails yX4_fails, .code yX4_fails cX4_fails 2 (some .boolean), .fieldLink RX4 66 "BuildlotsModel" "code" "I"] ++ wsX40)
def wsX4_used : List Cond := .code yX4_used cX4_used 2 (some .int) :: ([.fieldLink RX4 35 "BuildlotsModel" "used" "[I", .methodLink RX4 112 yX4_isNoBuild, .instanceMethod yX4_isNoBuild, .selects RX4 yX4_isNoBuild yX4_isNoBuild, .initialized RX4, .code yX4_isNoBuild cX4_isNoBuild 2 (some .boolean), .fieldLink RX4 80 "BuildlotsModel" "builds" "I", .methodLink RX4 72 yX4_in, .static yX4_in, .code yX4_in cX4_in 3 (some .boolean), .methodLink RX4 76 yX4_fails, .instanceMethod yX4_fails, .selects RX4 yX4_fails yX4_fails, .code yX4_fails cX4_fails 2 (some .boolean), .fieldLink RX4 66 "BuildlotsModel" "code" "I", .methodLink RX4 96 yX4_bits, .static yX4_bits, .code yX4_bits cX4_bits 3 (some .int)] ++ wsX40)
def wsX4_greatest : List Cond := .code yX4_greatest cX4_greatest 5 (some .int) :: ([.fieldLink RX4 80 "BuildlotsModel" "builds" "I", .fieldLink RX4 29 "BuildlotsModel" "names" "[I"] ++ wsX40)
def wsX4_recalled : List Cond := .code yX4_recalled cX4_recalled 3 (some .int) :: ([.fieldLink RX4 80 "BuildlotsModel" "builds" "I", .methodLink RX4 106 yX4_isGone, .instanceMethod yX4_isGone, .selects RX4 yX4_isGone yX4_isGone, .initialized RX4, .code yX4_isGone cX4_isGone 3 (some .boolean), .fieldLink RX4 44 "BuildlotsModel" "areMarked" "[Z", .fieldLink RX4 35 "BuildlotsModel" "used" "[I"] ++ wsX40)
def wsX4_newest_r1 : List Cond := [Cond.methodLink RX4 103 yX4_isNoName, Cond.static yX4_isNoName, Cond.initialized RX4, Cond.code yX4_isNoName cX4_isNoName 1 (some .boolean), Cond.methodLink RX4 72 yX4_in, Cond.static yX4_in, Cond.code yX4_in cX4_in 3 (some .boolean), Cond.methodLink RX4 76 yX4_fails, Cond.instanceMethod yX4_fails, Cond.selects RX4 yX4_fails yX4_fails, Cond.code yX4_fails cX4_fails 2 (some .boolean), Cond.fieldLink RX4 66 "BuildlotsModel" "code" "I", Cond.methodLink RX4 92 yX4_trusted, Cond.instanceMethod yX4_trusted, Cond.selects RX4 yX4_trusted yX4_trusted, Cond.code yX4_trusted cX4_trusted 1 (some .int), Cond.methodLink RX4 137 yX4_trustedWithout, Cond.instanceMethod yX4_trustedWithout, Cond.selects RX4 yX4_trustedWithout yX4_trustedWithout, Cond.code yX4_trustedWithout cX4_trustedWithout 4 (some .int), Cond.fieldLink RX4 80 "BuildlotsModel" "builds" "I", Cond.methodLink RX4 134 yX4_isEnough, Cond.instanceMethod yX4_isEnough, Cond.selects RX4 yX4_isEnough yX4_isEnough]
def wsX4_newest_r2 : List Cond := [Cond.code yX4_isEnough cX4_isEnough 3 (some .boolean), Cond.fieldLink RX4 13 "BuildlotsModel" "thresholds" "[I", Cond.fieldLink RX4 29 "BuildlotsModel" "names" "[I", Cond.constantFloat RX4 129 (1120403456), Cond.methodLink RX4 130 yX4_scoreOf, Cond.instanceMethod yX4_scoreOf, Cond.selects RX4 yX4_scoreOf yX4_scoreOf, Cond.code yX4_scoreOf cX4_scoreOf 5 (some .float), Cond.fieldLink RX4 7 "BuildlotsModel" "weights" "[I", Cond.methodLink RX4 122 yX4_backs, Cond.instanceMethod yX4_backs, Cond.selects RX4 yX4_backs yX4_backs, Cond.code yX4_backs cX4_backs 5 (some .boolean), Cond.fieldLink RX4 69 "BuildlotsModel" "keys" "I", Cond.fieldLink RX4 16 "BuildlotsModel" "signers" "[I", Cond.fieldLink RX4 41 "BuildlotsModel" "attested" "[I", Cond.methodLink RX4 100 yX4_lives, Cond.instanceMethod yX4_lives, Cond.selects RX4 yX4_lives yX4_lives, Cond.code yX4_lives cX4_lives 2 (some .boolean), Cond.fieldLink RX4 25 "BuildlotsModel" "areLost" "[Z", Cond.fieldLink RX4 86 "BuildlotsModel" "day" "I", Cond.fieldLink RX4 19 "BuildlotsModel" "firsts" "[I", Cond.fieldLink RX4 22 "BuildlotsModel" "lasts" "[I"]
def wsX4_newest_r3 : List Cond := [Cond.methodLink RX4 115 yX4_recalled, Cond.instanceMethod yX4_recalled, Cond.selects RX4 yX4_recalled yX4_recalled, Cond.code yX4_recalled cX4_recalled 3 (some .int), Cond.methodLink RX4 106 yX4_isGone, Cond.instanceMethod yX4_isGone, Cond.selects RX4 yX4_isGone yX4_isGone, Cond.code yX4_isGone cX4_isGone 3 (some .boolean), Cond.fieldLink RX4 44 "BuildlotsModel" "areMarked" "[Z", Cond.fieldLink RX4 35 "BuildlotsModel" "used" "[I", Cond.methodLink RX4 118 yX4_greatest, Cond.instanceMethod yX4_greatest, Cond.selects RX4 yX4_greatest yX4_greatest, Cond.code yX4_greatest cX4_greatest 5 (some .int)]
def wsX4_newest : List Cond := .code yX4_newest cX4_newest 3 (some .int) :: ((wsX4_newest_r1 ++ (wsX4_newest_r2 ++ wsX4_newest_r3)) ++ wsX40)
def wsX4_attest_r1 : List Cond := [Cond.fieldLink RX4 80 "BuildlotsModel" "builds" "I", Cond.fieldLink RX4 69 "BuildlotsModel" "keys" "I", Cond.fieldLink RX4 41 "BuildlotsModel" "attested" "[I", Cond.methodLink RX4 72 yX4_in, Cond.static yX4_in, Cond.initialized RX4, Cond.code yX4_in cX4_in 3 (some .boolean), Cond.methodLink RX4 76 yX4_fails, Cond.instanceMethod yX4_fails, Cond.selects RX4 yX4_fails yX4_fails, Cond.code yX4_fails cX4_fails 2 (some .boolean), Cond.fieldLink RX4 66 "BuildlotsModel" "code" "I", Cond.methodLink RX4 100 yX4_lives, Cond.instanceMethod yX4_lives, Cond.selects RX4 yX4_lives yX4_lives, Cond.code yX4_lives cX4_lives 2 (some .boolean), Cond.fieldLink RX4 25 "BuildlotsModel" "areLost" "[Z", Cond.fieldLink RX4 86 "BuildlotsModel" "day" "I", Cond.fieldLink RX4 19 "BuildlotsModel" "firsts" "[I", Cond.fieldLink RX4 22 "BuildlotsModel" "lasts" "[I", Cond.methodLink RX4 106 yX4_isGone, Cond.instanceMethod yX4_isGone, Cond.selects RX4 yX4_isGone yX4_isGone, Cond.code yX4_isGone cX4_isGone 3 (some .boolean)]
def wsX4_attest_r2 : List Cond := [Cond.fieldLink RX4 44 "BuildlotsModel" "areMarked" "[Z", Cond.fieldLink RX4 35 "BuildlotsModel" "used" "[I", Cond.methodLink RX4 96 yX4_bits, Cond.static yX4_bits, Cond.code yX4_bits cX4_bits 3 (some .int)]
def wsX4_attest : List Cond := .code yX4_attest cX4_attest 3 (some .int) :: ((wsX4_attest_r1 ++ wsX4_attest_r2) ++ wsX40)
def wsX4_vouched_r1 : List Cond := [Cond.methodLink RX4 112 yX4_isNoBuild, Cond.instanceMethod yX4_isNoBuild, Cond.selects RX4 yX4_isNoBuild yX4_isNoBuild, Cond.initialized RX4, Cond.code yX4_isNoBuild cX4_isNoBuild 2 (some .boolean), Cond.fieldLink RX4 80 "BuildlotsModel" "builds" "I", Cond.methodLink RX4 72 yX4_in, Cond.static yX4_in, Cond.code yX4_in cX4_in 3 (some .boolean), Cond.methodLink RX4 76 yX4_fails, Cond.instanceMethod yX4_fails, Cond.selects RX4 yX4_fails yX4_fails, Cond.code yX4_fails cX4_fails 2 (some .boolean), Cond.fieldLink RX4 66 "BuildlotsModel" "code" "I", Cond.methodLink RX4 122 yX4_backs, Cond.instanceMethod yX4_backs, Cond.selects RX4 yX4_backs yX4_backs, Cond.code yX4_backs cX4_backs 5 (some .boolean), Cond.fieldLink RX4 69 "BuildlotsModel" "keys" "I", Cond.fieldLink RX4 16 "BuildlotsModel" "signers" "[I", Cond.fieldLink RX4 41 "BuildlotsModel" "attested" "[I", Cond.methodLink RX4 100 yX4_lives, Cond.instanceMethod yX4_lives, Cond.selects RX4 yX4_lives yX4_lives]
def wsX4_vouched_r2 : List Cond := [Cond.code yX4_lives cX4_lives 2 (some .boolean), Cond.fieldLink RX4 25 "BuildlotsModel" "areLost" "[Z", Cond.fieldLink RX4 86 "BuildlotsModel" "day" "I", Cond.fieldLink RX4 19 "BuildlotsModel" "firsts" "[I", Cond.fieldLink RX4 22 "BuildlotsModel" "lasts" "[I"]
def wsX4_vouched : List Cond := .code yX4_vouched cX4_vouched 3 (some .boolean) :: ((wsX4_vouched_r1 ++ wsX4_vouched_r2) ++ wsX40)
def wsX4_vouches_r1 : List Cond := [Cond.methodLink RX4 125 yX4_vouched, Cond.instanceMethod yX4_vouched, Cond.selects RX4 yX4_vouched yX4_vouched, Cond.initialized RX4, Cond.code yX4_vouched cX4_vouched 3 (some .boolean), Cond.methodLink RX4 112 yX4_isNoBuild, Cond.instanceMethod yX4_isNoBuild, Cond.selects RX4 yX4_isNoBuild yX4_isNoBuild, Cond.code yX4_isNoBuild cX4_isNoBuild 2 (some .boolean), Cond.fieldLink RX4 80 "BuildlotsModel" "builds" "I", Cond.methodLink RX4 72 yX4_in, Cond.static yX4_in, Cond.code yX4_in cX4_in 3 (some .boolean), Cond.methodLink RX4 76 yX4_fails, Cond.instanceMethod yX4_fails, Cond.selects RX4 yX4_fails yX4_fails, Cond.code yX4_fails cX4_fails 2 (some .boolean), Cond.fieldLink RX4 66 "BuildlotsModel" "code" "I", Cond.methodLink RX4 122 yX4_backs, Cond.instanceMethod yX4_backs, Cond.selects RX4 yX4_backs yX4_backs, Cond.code yX4_backs cX4_backs 5 (some .boolean), Cond.fieldLink RX4 69 "BuildlotsModel" "keys" "I", Cond.fieldLink RX4 16 "BuildlotsModel" "signers" "[I"]
def wsX4_vouches_r2 : List Cond := [Cond.fieldLink RX4 41 "BuildlotsModel" "attested" "[I", Cond.methodLink RX4 100 yX4_lives, Cond.instanceMethod yX4_lives, Cond.selects RX4 yX4_lives yX4_lives, Cond.code yX4_lives cX4_lives 2 (some .boolean), Cond.fieldLink RX4 25 "BuildlotsModel" "areLost" "[Z", Cond.fieldLink RX4 86 "BuildlotsModel" "day" "I", Cond.fieldLink RX4 19 "BuildlotsModel" "firsts" "[I", Cond.fieldLink RX4 22 "BuildlotsModel" "lasts" "[I"]
def wsX4_vouches : List Cond := .code yX4_vouches cX4_vouches 3 (some .boolean) :: ((wsX4_vouches_r1 ++ wsX4_vouches_r2) ++ wsX40)
def wsX4_vouchesByList_r1 : List Cond := [Cond.methodLink RX4 125 yX4_vouched, Cond.instanceMethod yX4_vouched, Cond.selects RX4 yX4_vouched yX4_vouched, Cond.initialized RX4, Cond.code yX4_vouched cX4_vouched 3 (some .boolean), Cond.methodLink RX4 112 yX4_isNoBuild, Cond.instanceMethod yX4_isNoBuild, Cond.selects RX4 yX4_isNoBuild yX4_isNoBuild, Cond.code yX4_isNoBuild cX4_isNoBuild 2 (some .boolean), Cond.fieldLink RX4 80 "BuildlotsModel" "builds" "I", Cond.methodLink RX4 72 yX4_in, Cond.static yX4_in, Cond.code yX4_in cX4_in 3 (some .boolean), Cond.methodLink RX4 76 yX4_fails, Cond.instanceMethod yX4_fails, Cond.selects RX4 yX4_fails yX4_fails, Cond.code yX4_fails cX4_fails 2 (some .boolean), Cond.fieldLink RX4 66 "BuildlotsModel" "code" "I", Cond.methodLink RX4 122 yX4_backs, Cond.instanceMethod yX4_backs, Cond.selects RX4 yX4_backs yX4_backs, Cond.code yX4_backs cX4_backs 5 (some .boolean), Cond.fieldLink RX4 69 "BuildlotsModel" "keys" "I", Cond.fieldLink RX4 16 "BuildlotsModel" "signers" "[I"]
def wsX4_vouchesByList_r2 : List Cond := [Cond.fieldLink RX4 41 "BuildlotsModel" "attested" "[I", Cond.methodLink RX4 100 yX4_lives, Cond.instanceMethod yX4_lives, Cond.selects RX4 yX4_lives yX4_lives, Cond.code yX4_lives cX4_lives 2 (some .boolean), Cond.fieldLink RX4 25 "BuildlotsModel" "areLost" "[Z", Cond.fieldLink RX4 86 "BuildlotsModel" "day" "I", Cond.fieldLink RX4 19 "BuildlotsModel" "firsts" "[I", Cond.fieldLink RX4 22 "BuildlotsModel" "lasts" "[I"]
def wsX4_vouchesByList : List Cond := .code yX4_vouchesByList cX4_vouchesByList 3 (some .boolean) :: ((wsX4_vouchesByList_r1 ++ wsX4_vouchesByList_r2) ++ wsX40)
def wsX4_score_r1 : List Cond := [Cond.methodLink RX4 112 yX4_isNoBuild, Cond.instanceMethod yX4_isNoBuild, Cond.selects RX4 yX4_isNoBuild yX4_isNoBuild, Cond.initialized RX4, Cond.code yX4_isNoBuild cX4_isNoBuild 2 (some .boolean), Cond.fieldLink RX4 80 "BuildlotsModel" "builds" "I", Cond.methodLink RX4 72 yX4_in, Cond.static yX4_in, Cond.code yX4_in cX4_in 3 (some .boolean), Cond.methodLink RX4 76 yX4_fails, Cond.instanceMethod yX4_fails, Cond.selects RX4 yX4_fails yX4_fails, Cond.code yX4_fails cX4_fails 2 (some .boolean), Cond.fieldLink RX4 66 "BuildlotsModel" "code" "I", Cond.methodLink RX4 130 yX4_scoreOf, Cond.instanceMethod yX4_scoreOf, Cond.selects RX4 yX4_scoreOf yX4_scoreOf, Cond.code yX4_scoreOf cX4_scoreOf 5 (some .float), Cond.fieldLink RX4 7 "BuildlotsModel" "weights" "[I", Cond.constantFloat RX4 129 (1120403456), Cond.methodLink RX4 122 yX4_backs, Cond.instanceMethod yX4_backs, Cond.selects RX4 yX4_backs yX4_backs, Cond.code yX4_backs cX4_backs 5 (some .boolean)]
def wsX4_score_r2 : List Cond := [Cond.fieldLink RX4 69 "BuildlotsModel" "keys" "I", Cond.fieldLink RX4 16 "BuildlotsModel" "signers" "[I", Cond.fieldLink RX4 41 "BuildlotsModel" "attested" "[I", Cond.methodLink RX4 100 yX4_lives, Cond.instanceMethod yX4_lives, Cond.selects RX4 yX4_lives yX4_lives, Cond.code yX4_lives cX4_lives 2 (some .boolean), Cond.fieldLink RX4 25 "BuildlotsModel" "areLost" "[Z", Cond.fieldLink RX4 86 "BuildlotsModel" "day" "I", Cond.fieldLink RX4 19 "BuildlotsModel" "firsts" "[I", Cond.fieldLink RX4 22 "BuildlotsModel" "lasts" "[I"]
def wsX4_score : List Cond := .code yX4_score cX4_score 2 (some .float) :: ((wsX4_score_r1 ++ wsX4_score_r2) ++ wsX40)
def wsJxf58ca_isNaN_12338 : List Cond := .code yJxf58ca_isNaN_12338 cJxf58ca_isNaN_12338 1 (some .boolean) :: ([])
def wsJxf58ca_floatToIntBits_5c35a : List Cond := .code yJxf58ca_floatToIntBits_5c35a cJxf58ca_floatToIntBits_5c35a 1 (some .int) :: ([.methodLink RJxf58ca 74 ⟨"java/lang/Float", "floatToRawIntBits", "(F)I"⟩, .native ⟨"java/lang/Float", "floatToRawIntBits", "(F)I"⟩, .static ⟨"java/lang/Float", "floatToRawIntBits", "(F)I"⟩, .initialized "java/lang/Float", .constant RJxf58ca 77 (2143289344), .methodLink RJxf58ca 59 yJxf58ca_isNaN_12338, .static yJxf58ca_isNaN_12338, .initialized RJxf58ca, .code yJxf58ca_isNaN_12338 cJxf58ca_isNaN_12338 1 (some .boolean)])
def wsX4_scoreBits_r1 : List Cond := [Cond.methodLink RX4 112 yX4_isNoBuild, Cond.instanceMethod yX4_isNoBuild, Cond.selects RX4 yX4_isNoBuild yX4_isNoBuild, Cond.initialized RX4, Cond.code yX4_isNoBuild cX4_isNoBuild 2 (some .boolean), Cond.fieldLink RX4 80 "BuildlotsModel" "builds" "I", Cond.methodLink RX4 72 yX4_in, Cond.static yX4_in, Cond.code yX4_in cX4_in 3 (some .boolean), Cond.methodLink RX4 76 yX4_fails, Cond.instanceMethod yX4_fails, Cond.selects RX4 yX4_fails yX4_fails, Cond.code yX4_fails cX4_fails 2 (some .boolean), Cond.fieldLink RX4 66 "BuildlotsModel" "code" "I", Cond.methodLink RX4 130 yX4_scoreOf, Cond.instanceMethod yX4_scoreOf, Cond.selects RX4 yX4_scoreOf yX4_scoreOf, Cond.code yX4_scoreOf cX4_scoreOf 5 (some .float), Cond.fieldLink RX4 7 "BuildlotsModel" "weights" "[I", Cond.constantFloat RX4 129 (1120403456), Cond.methodLink RX4 122 yX4_backs, Cond.instanceMethod yX4_backs, Cond.selects RX4 yX4_backs yX4_backs, Cond.code yX4_backs cX4_backs 5 (some .boolean)]
def wsX4_scoreBits_r2 : List Cond := [Cond.fieldLink RX4 69 "BuildlotsModel" "keys" "I", Cond.fieldLink RX4 16 "BuildlotsModel" "signers" "[I", Cond.fieldLink RX4 41 "BuildlotsModel" "attested" "[I", Cond.methodLink RX4 100 yX4_lives, Cond.instanceMethod yX4_lives, Cond.selects RX4 yX4_lives yX4_lives, Cond.code yX4_lives cX4_lives 2 (some .boolean), Cond.fieldLink RX4 25 "BuildlotsModel" "areLost" "[Z", Cond.fieldLink RX4 86 "BuildlotsModel" "day" "I", Cond.fieldLink RX4 19 "BuildlotsModel" "firsts" "[I", Cond.fieldLink RX4 22 "BuildlotsModel" "lasts" "[I", Cond.methodLink RX4 140 yJxf58ca_floatToIntBits_5c35a, Cond.static yJxf58ca_floatToIntBits_5c35a, Cond.initialized RJxf58ca, Cond.code yJxf58ca_floatToIntBits_5c35a cJxf58ca_floatToIntBits_5c35a 1 (some .int), Cond.methodLink RJxf58ca 74 ⟨"java/lang/Float", "floatToRawIntBits", "(F)I"⟩, Cond.native ⟨"java/lang/Float", "floatToRawIntBits", "(F)I"⟩, Cond.static ⟨"java/lang/Float", "floatToRawIntBits", "(F)I"⟩, Cond.initialized "java/lang/Float", Cond.constant RJxf58ca 77 (2143289344), Cond.methodLink RJxf58ca 59 yJxf58ca_isNaN_12338, Cond.static yJxf58ca_isNaN_12338, Cond.code yJxf58ca_isNaN_12338 cJxf58ca_isNaN_12338 1 (some .boolean)]
def wsX4_scoreBits : List Cond := .code yX4_scoreBits cX4_scoreBits 2 (some .int) :: ((wsX4_scoreBits_r1 ++ wsX4_scoreBits_r2) ++ wsX40)
def wsX4_isTrusted_r1 : List Cond := [Cond.methodLink RX4 112 yX4_isNoBuild, Cond.instanceMethod yX4_isNoBuild, Cond.selects RX4 yX4_isNoBuild yX4_isNoBuild, Cond.initialized RX4, Cond.code yX4_isNoBuild cX4_isNoBuild 2 (some .boolean), Cond.fieldLink RX4 80 "BuildlotsModel" "builds" "I", Cond.methodLink RX4 72 yX4_in, Cond.static yX4_in, Cond.code yX4_in cX4_in 3 (some .boolean), Cond.methodLink RX4 76 yX4_fails, Cond.instanceMethod yX4_fails, Cond.selects RX4 yX4_fails yX4_fails, Cond.code yX4_fails cX4_fails 2 (some .boolean), Cond.fieldLink RX4 66 "BuildlotsModel" "code" "I", Cond.methodLink RX4 134 yX4_isEnough, Cond.instanceMethod yX4_isEnough, Cond.selects RX4 yX4_isEnough yX4_isEnough, Cond.code yX4_isEnough cX4_isEnough 3 (some .boolean), Cond.fieldLink RX4 13 "BuildlotsModel" "thresholds" "[I", Cond.fieldLink RX4 29 "BuildlotsModel" "names" "[I", Cond.constantFloat RX4 129 (1120403456), Cond.methodLink RX4 130 yX4_scoreOf, Cond.instanceMethod yX4_scoreOf, Cond.selects RX4 yX4_scoreOf yX4_scoreOf]
def wsX4_isTrusted_r2 : List Cond := [Cond.code yX4_scoreOf cX4_scoreOf 5 (some .float), Cond.fieldLink RX4 7 "BuildlotsModel" "weights" "[I", Cond.methodLink RX4 122 yX4_backs, Cond.instanceMethod yX4_backs, Cond.selects RX4 yX4_backs yX4_backs, Cond.code yX4_backs cX4_backs 5 (some .boolean), Cond.fieldLink RX4 69 "BuildlotsModel" "keys" "I", Cond.fieldLink RX4 16 "BuildlotsModel" "signers" "[I", Cond.fieldLink RX4 41 "BuildlotsModel" "attested" "[I", Cond.methodLink RX4 100 yX4_lives, Cond.instanceMethod yX4_lives, Cond.selects RX4 yX4_lives yX4_lives, Cond.code yX4_lives cX4_lives 2 (some .boolean), Cond.fieldLink RX4 25 "BuildlotsModel" "areLost" "[Z", Cond.fieldLink RX4 86 "BuildlotsModel" "day" "I", Cond.fieldLink RX4 19 "BuildlotsModel" "firsts" "[I", Cond.fieldLink RX4 22 "BuildlotsModel" "lasts" "[I"]
def wsX4_isTrusted : List Cond := .code yX4_isTrusted cX4_isTrusted 2 (some .boolean) :: ((wsX4_isTrusted_r1 ++ wsX4_isTrusted_r2) ++ wsX40)
def wsX4_hangsOnKey_r1 : List Cond := [Cond.methodLink RX4 89 yX4_isNoKey, Cond.instanceMethod yX4_isNoKey, Cond.selects RX4 yX4_isNoKey yX4_isNoKey, Cond.initialized RX4, Cond.code yX4_isNoKey cX4_isNoKey 2 (some .boolean), Cond.fieldLink RX4 69 "BuildlotsModel" "keys" "I", Cond.methodLink RX4 72 yX4_in, Cond.static yX4_in, Cond.code yX4_in cX4_in 3 (some .boolean), Cond.methodLink RX4 76 yX4_fails, Cond.instanceMethod yX4_fails, Cond.selects RX4 yX4_fails yX4_fails, Cond.code yX4_fails cX4_fails 2 (some .boolean), Cond.fieldLink RX4 66 "BuildlotsModel" "code" "I", Cond.methodLink RX4 92 yX4_trusted, Cond.instanceMethod yX4_trusted, Cond.selects RX4 yX4_trusted yX4_trusted, Cond.code yX4_trusted cX4_trusted 1 (some .int), Cond.methodLink RX4 137 yX4_trustedWithout, Cond.instanceMethod yX4_trustedWithout, Cond.selects RX4 yX4_trustedWithout yX4_trustedWithout, Cond.code yX4_trustedWithout cX4_trustedWithout 4 (some .int), Cond.fieldLink RX4 80 "BuildlotsModel" "builds" "I", Cond.methodLink RX4 134 yX4_isEnough]
def wsX4_hangsOnKey_r2 : List Cond := [Cond.instanceMethod yX4_isEnough, Cond.selects RX4 yX4_isEnough yX4_isEnough, Cond.code yX4_isEnough cX4_isEnough 3 (some .boolean), Cond.fieldLink RX4 13 "BuildlotsModel" "thresholds" "[I", Cond.fieldLink RX4 29 "BuildlotsModel" "names" "[I", Cond.constantFloat RX4 129 (1120403456), Cond.methodLink RX4 130 yX4_scoreOf, Cond.instanceMethod yX4_scoreOf, Cond.selects RX4 yX4_scoreOf yX4_scoreOf, Cond.code yX4_scoreOf cX4_scoreOf 5 (some .float), Cond.fieldLink RX4 7 "BuildlotsModel" "weights" "[I", Cond.methodLink RX4 122 yX4_backs, Cond.instanceMethod yX4_backs, Cond.selects RX4 yX4_backs yX4_backs, Cond.code yX4_backs cX4_backs 5 (some .boolean), Cond.fieldLink RX4 16 "BuildlotsModel" "signers" "[I", Cond.fieldLink RX4 41 "BuildlotsModel" "attested" "[I", Cond.methodLink RX4 100 yX4_lives, Cond.instanceMethod yX4_lives, Cond.selects RX4 yX4_lives yX4_lives, Cond.code yX4_lives cX4_lives 2 (some .boolean), Cond.fieldLink RX4 25 "BuildlotsModel" "areLost" "[Z", Cond.fieldLink RX4 86 "BuildlotsModel" "day" "I", Cond.fieldLink RX4 19 "BuildlotsModel" "firsts" "[I"]
def wsX4_hangsOnKey_r3 : List Cond := [Cond.fieldLink RX4 22 "BuildlotsModel" "lasts" "[I", Cond.methodLink RX4 96 yX4_bits, Cond.static yX4_bits, Cond.code yX4_bits cX4_bits 3 (some .int)]
def wsX4_hangsOnKey : List Cond := .code yX4_hangsOnKey cX4_hangsOnKey 2 (some .int) :: ((wsX4_hangsOnKey_r1 ++ (wsX4_hangsOnKey_r2 ++ wsX4_hangsOnKey_r3)) ++ wsX40)
def wsX4_marks_r1 : List Cond := [Cond.fieldLink RX4 44 "BuildlotsModel" "areMarked" "[Z", Cond.methodLink RX4 112 yX4_isNoBuild, Cond.instanceMethod yX4_isNoBuild, Cond.selects RX4 yX4_isNoBuild yX4_isNoBuild, Cond.initialized RX4, Cond.code yX4_isNoBuild cX4_isNoBuild 2 (some .boolean), Cond.fieldLink RX4 80 "BuildlotsModel" "builds" "I", Cond.methodLink RX4 72 yX4_in, Cond.static yX4_in, Cond.code yX4_in cX4_in 3 (some .boolean), Cond.methodLink RX4 76 yX4_fails, Cond.instanceMethod yX4_fails, Cond.selects RX4 yX4_fails yX4_fails, Cond.code yX4_fails cX4_fails 2 (some .boolean), Cond.fieldLink RX4 66 "BuildlotsModel" "code" "I", Cond.methodLink RX4 115 yX4_recalled, Cond.instanceMethod yX4_recalled, Cond.selects RX4 yX4_recalled yX4_recalled, Cond.code yX4_recalled cX4_recalled 3 (some .int), Cond.methodLink RX4 106 yX4_isGone, Cond.instanceMethod yX4_isGone, Cond.selects RX4 yX4_isGone yX4_isGone, Cond.code yX4_isGone cX4_isGone 3 (some .boolean), Cond.fieldLink RX4 35 "BuildlotsModel" "used" "[I"]
def wsX4_marks_r2 : List Cond := [Cond.methodLink RX4 96 yX4_bits, Cond.static yX4_bits, Cond.code yX4_bits cX4_bits 3 (some .int)]
def wsX4_marks : List Cond := .code yX4_marks cX4_marks 4 (some .int) :: ((wsX4_marks_r1 ++ wsX4_marks_r2) ++ wsX40)
def wsX4_recall_r1 : List Cond := [Cond.methodLink RX4 146 yX4_marks, Cond.instanceMethod yX4_marks, Cond.selects RX4 yX4_marks yX4_marks, Cond.initialized RX4, Cond.code yX4_marks cX4_marks 4 (some .int), Cond.fieldLink RX4 44 "BuildlotsModel" "areMarked" "[Z", Cond.methodLink RX4 112 yX4_isNoBuild, Cond.instanceMethod yX4_isNoBuild, Cond.selects RX4 yX4_isNoBuild yX4_isNoBuild, Cond.code yX4_isNoBuild cX4_isNoBuild 2 (some .boolean), Cond.fieldLink RX4 80 "BuildlotsModel" "builds" "I", Cond.methodLink RX4 72 yX4_in, Cond.static yX4_in, Cond.code yX4_in cX4_in 3 (some .boolean), Cond.methodLink RX4 76 yX4_fails, Cond.instanceMethod yX4_fails, Cond.selects RX4 yX4_fails yX4_fails, Cond.code yX4_fails cX4_fails 2 (some .boolean), Cond.fieldLink RX4 66 "BuildlotsModel" "code" "I", Cond.methodLink RX4 115 yX4_recalled, Cond.instanceMethod yX4_recalled, Cond.selects RX4 yX4_recalled yX4_recalled, Cond.code yX4_recalled cX4_recalled 3 (some .int), Cond.methodLink RX4 106 yX4_isGone]
def wsX4_recall_r2 : List Cond := [Cond.instanceMethod yX4_isGone, Cond.selects RX4 yX4_isGone yX4_isGone, Cond.code yX4_isGone cX4_isGone 3 (some .boolean), Cond.fieldLink RX4 35 "BuildlotsModel" "used" "[I", Cond.methodLink RX4 96 yX4_bits, Cond.static yX4_bits, Cond.code yX4_bits cX4_bits 3 (some .int)]
def wsX4_recall : List Cond := .code yX4_recall cX4_recall 2 (some .int) :: ((wsX4_recall_r1 ++ wsX4_recall_r2) ++ wsX40)
def wsX4_lift_r1 : List Cond := [Cond.methodLink RX4 146 yX4_marks, Cond.instanceMethod yX4_marks, Cond.selects RX4 yX4_marks yX4_marks, Cond.initialized RX4, Cond.code yX4_marks cX4_marks 4 (some .int), Cond.fieldLink RX4 44 "BuildlotsModel" "areMarked" "[Z", Cond.methodLink RX4 112 yX4_isNoBuild, Cond.instanceMethod yX4_isNoBuild, Cond.selects RX4 yX4_isNoBuild yX4_isNoBuild, Cond.code yX4_isNoBuild cX4_isNoBuild 2 (some .boolean), Cond.fieldLink RX4 80 "BuildlotsModel" "builds" "I", Cond.methodLink RX4 72 yX4_in, Cond.static yX4_in, Cond.code yX4_in cX4_in 3 (some .boolean), Cond.methodLink RX4 76 yX4_fails, Cond.instanceMethod yX4_fails, Cond.selects RX4 yX4_fails yX4_fails, Cond.code yX4_fails cX4_fails 2 (some .boolean), Cond.fieldLink RX4 66 "BuildlotsModel" "code" "I", Cond.methodLink RX4 115 yX4_recalled, Cond.instanceMethod yX4_recalled, Cond.selects RX4 yX4_recalled yX4_recalled, Cond.code yX4_recalled cX4_recalled 3 (some .int), Cond.methodLink RX4 106 yX4_isGone]
def wsX4_lift_r2 : List Cond := [Cond.instanceMethod yX4_isGone, Cond.selects RX4 yX4_isGone yX4_isGone, Cond.code yX4_isGone cX4_isGone 3 (some .boolean), Cond.fieldLink RX4 35 "BuildlotsModel" "used" "[I", Cond.methodLink RX4 96 yX4_bits, Cond.static yX4_bits, Cond.code yX4_bits cX4_bits 3 (some .int)]
def wsX4_lift : List Cond := .code yX4_lift cX4_lift 2 (some .int) :: ((wsX4_lift_r1 ++ wsX4_lift_r2) ++ wsX40)
def wsX4_isRecalled : List Cond := .code yX4_isRecalled cX4_isRecalled 2 (some .boolean) :: ([.methodLink RX4 112 yX4_isNoBuild, .instanceMethod yX4_isNoBuild, .selects RX4 yX4_isNoBuild yX4_isNoBuild, .initialized RX4, .code yX4_isNoBuild cX4_isNoBuild 2 (some .boolean), .fieldLink RX4 80 "BuildlotsModel" "builds" "I", .methodLink RX4 72 yX4_in, .static yX4_in, .code yX4_in cX4_in 3 (some .boolean), .methodLink RX4 76 yX4_fails, .instanceMethod yX4_fails, .selects RX4 yX4_fails yX4_fails, .code yX4_fails cX4_fails 2 (some .boolean), .fieldLink RX4 66 "BuildlotsModel" "code" "I", .methodLink RX4 106 yX4_isGone, .instanceMethod yX4_isGone, .selects RX4 yX4_isGone yX4_isGone, .code yX4_isGone cX4_isGone 3 (some .boolean), .fieldLink RX4 44 "BuildlotsModel" "areMarked" "[Z", .fieldLink RX4 35 "BuildlotsModel" "used" "[I"] ++ wsX40)
def wsX4_rebuild : List Cond := .code yX4_rebuild cX4_rebuild 3 (some .boolean) :: ([.fieldLink RX4 47 "BuildlotsModel" "told" "[I", .fieldLink RX4 50 "BuildlotsModel" "right" "[I", .fieldLink RX4 38 "BuildlotsModel" "results" "[I", .methodLink RX4 112 yX4_isNoBuild, .instanceMethod yX4_isNoBuild, .selects RX4 yX4_isNoBuild yX4_isNoBuild, .initialized RX4, .code yX4_isNoBuild cX4_isNoBuild 2 (some .boolean), .fieldLink RX4 80 "BuildlotsModel" "builds" "I", .methodLink RX4 72 yX4_in, .static yX4_in, .code yX4_in cX4_in 3 (some .boolean), .methodLink RX4 76 yX4_fails, .instanceMethod yX4_fails, .selects RX4 yX4_fails yX4_fails, .code yX4_fails cX4_fails 2 (some .boolean), .fieldLink RX4 66 "BuildlotsModel" "code" "I"] ++ wsX40)
def wsX4_share : List Cond := .code yX4_share cX4_share 2 (some .float) :: ([.fieldLink RX4 47 "BuildlotsModel" "told" "[I", .fieldLink RX4 50 "BuildlotsModel" "right" "[I", .methodLink RX4 112 yX4_isNoBuild, .instanceMethod yX4_isNoBuild, .selects RX4 yX4_isNoBuild yX4_isNoBuild, .initialized RX4, .code yX4_isNoBuild cX4_isNoBuild 2 (some .boolean), .fieldLink RX4 80 "BuildlotsModel" "builds" "I", .methodLink RX4 72 yX4_in, .static yX4_in, .code yX4_in cX4_in 3 (some .boolean), .methodLink RX4 76 yX4_fails, .instanceMethod yX4_fails, .selects RX4 yX4_fails yX4_fails, .code yX4_fails cX4_fails 2 (some .boolean), .fieldLink RX4 66 "BuildlotsModel" "code" "I"] ++ wsX40)
def wsX4_addMirror : List Cond := .code yX4_addMirror cX4_addMirror 1 (some .int) :: ([.fieldLink RX4 83 "BuildlotsModel" "mirrors" "I", .methodLink RX4 76 yX4_fails, .instanceMethod yX4_fails, .selects RX4 yX4_fails yX4_fails, .initialized RX4, .code yX4_fails cX4_fails 2 (some .boolean), .fieldLink RX4 66 "BuildlotsModel" "code" "I"] ++ wsX40)
def wsX4_update_r1 : List Cond := [Cond.fieldLink RX4 53 "BuildlotsModel" "listed" "[I", Cond.fieldLink RX4 80 "BuildlotsModel" "builds" "I", Cond.fieldLink RX4 56 "BuildlotsModel" "listRecalled" "[I", Cond.fieldLink RX4 59 "BuildlotsModel" "listedOn" "[I", Cond.fieldLink RX4 86 "BuildlotsModel" "day" "I", Cond.methodLink RX4 150 yX4_isNoMirror, Cond.instanceMethod yX4_isNoMirror, Cond.selects RX4 yX4_isNoMirror yX4_isNoMirror, Cond.initialized RX4, Cond.code yX4_isNoMirror cX4_isNoMirror 2 (some .boolean), Cond.fieldLink RX4 83 "BuildlotsModel" "mirrors" "I", Cond.methodLink RX4 72 yX4_in, Cond.static yX4_in, Cond.code yX4_in cX4_in 3 (some .boolean), Cond.methodLink RX4 76 yX4_fails, Cond.instanceMethod yX4_fails, Cond.selects RX4 yX4_fails yX4_fails, Cond.code yX4_fails cX4_fails 2 (some .boolean), Cond.fieldLink RX4 66 "BuildlotsModel" "code" "I", Cond.methodLink RX4 115 yX4_recalled, Cond.instanceMethod yX4_recalled, Cond.selects RX4 yX4_recalled yX4_recalled, Cond.code yX4_recalled cX4_recalled 3 (some .int), Cond.methodLink RX4 106 yX4_isGone]
def wsX4_update_r2 : List Cond := [Cond.instanceMethod yX4_isGone, Cond.selects RX4 yX4_isGone yX4_isGone, Cond.code yX4_isGone cX4_isGone 3 (some .boolean), Cond.fieldLink RX4 44 "BuildlotsModel" "areMarked" "[Z", Cond.fieldLink RX4 35 "BuildlotsModel" "used" "[I"]
def wsX4_update : List Cond := .code yX4_update cX4_update 2 (some .int) :: ((wsX4_update_r1 ++ wsX4_update_r2) ++ wsX40)
def wsX4_isOld : List Cond := .code yX4_isOld cX4_isOld 2 (some .boolean) :: ([.fieldLink RX4 59 "BuildlotsModel" "listedOn" "[I", .fieldLink RX4 86 "BuildlotsModel" "day" "I", .fieldLink RX4 62 "BuildlotsModel" "expiry" "I"] ++ wsX40)
def wsX4_isExpired : List Cond := .code yX4_isExpired cX4_isExpired 2 (some .boolean) :: ([.methodLink RX4 150 yX4_isNoMirror, .instanceMethod yX4_isNoMirror, .selects RX4 yX4_isNoMirror yX4_isNoMirror, .initialized RX4, .code yX4_isNoMirror cX4_isNoMirror 2 (some .boolean), .fieldLink RX4 83 "BuildlotsModel" "mirrors" "I", .methodLink RX4 72 yX4_in, .static yX4_in, .code yX4_in cX4_in 3 (some .boolean), .methodLink RX4 76 yX4_fails, .instanceMethod yX4_fails, .selects RX4 yX4_fails yX4_fails, .code yX4_fails cX4_fails 2 (some .boolean), .fieldLink RX4 66 "BuildlotsModel" "code" "I", .methodLink RX4 153 yX4_isOld, .instanceMethod yX4_isOld, .selects RX4 yX4_isOld yX4_isOld, .code yX4_isOld cX4_isOld 2 (some .boolean), .fieldLink RX4 59 "BuildlotsModel" "listedOn" "[I", .fieldLink RX4 86 "BuildlotsModel" "day" "I", .fieldLink RX4 62 "BuildlotsModel" "expiry" "I"] ++ wsX40)
def wsX4_setExpiry : List Cond := .code yX4_setExpiry cX4_setExpiry 3 (some .int) :: ([.fieldLink RX4 62 "BuildlotsModel" "expiry" "I", .methodLink RX4 72 yX4_in, .static yX4_in, .initialized RX4, .code yX4_in cX4_in 3 (some .boolean), .methodLink RX4 76 yX4_fails, .instanceMethod yX4_fails, .selects RX4 yX4_fails yX4_fails, .code yX4_fails cX4_fails 2 (some .boolean), .fieldLink RX4 66 "BuildlotsModel" "code" "I"] ++ wsX40)
def wsX4_install_r1 : List Cond := [Cond.fieldLink RX4 53 "BuildlotsModel" "listed" "[I", Cond.fieldLink RX4 56 "BuildlotsModel" "listRecalled" "[I", Cond.methodLink RX4 150 yX4_isNoMirror, Cond.instanceMethod yX4_isNoMirror, Cond.selects RX4 yX4_isNoMirror yX4_isNoMirror, Cond.initialized RX4, Cond.code yX4_isNoMirror cX4_isNoMirror 2 (some .boolean), Cond.fieldLink RX4 83 "BuildlotsModel" "mirrors" "I", Cond.methodLink RX4 72 yX4_in, Cond.static yX4_in, Cond.code yX4_in cX4_in 3 (some .boolean), Cond.methodLink RX4 76 yX4_fails, Cond.instanceMethod yX4_fails, Cond.selects RX4 yX4_fails yX4_fails, Cond.code yX4_fails cX4_fails 2 (some .boolean), Cond.fieldLink RX4 66 "BuildlotsModel" "code" "I", Cond.methodLink RX4 103 yX4_isNoName, Cond.static yX4_isNoName, Cond.code yX4_isNoName cX4_isNoName 1 (some .boolean), Cond.methodLink RX4 153 yX4_isOld, Cond.instanceMethod yX4_isOld, Cond.selects RX4 yX4_isOld yX4_isOld, Cond.code yX4_isOld cX4_isOld 2 (some .boolean), Cond.fieldLink RX4 59 "BuildlotsModel" "listedOn" "[I"]
def wsX4_install_r2 : List Cond := [Cond.fieldLink RX4 86 "BuildlotsModel" "day" "I", Cond.fieldLink RX4 62 "BuildlotsModel" "expiry" "I", Cond.methodLink RX4 92 yX4_trusted, Cond.instanceMethod yX4_trusted, Cond.selects RX4 yX4_trusted yX4_trusted, Cond.code yX4_trusted cX4_trusted 1 (some .int), Cond.methodLink RX4 137 yX4_trustedWithout, Cond.instanceMethod yX4_trustedWithout, Cond.selects RX4 yX4_trustedWithout yX4_trustedWithout, Cond.code yX4_trustedWithout cX4_trustedWithout 4 (some .int), Cond.fieldLink RX4 80 "BuildlotsModel" "builds" "I", Cond.methodLink RX4 134 yX4_isEnough, Cond.instanceMethod yX4_isEnough, Cond.selects RX4 yX4_isEnough yX4_isEnough, Cond.code yX4_isEnough cX4_isEnough 3 (some .boolean), Cond.fieldLink RX4 13 "BuildlotsModel" "thresholds" "[I", Cond.fieldLink RX4 29 "BuildlotsModel" "names" "[I", Cond.constantFloat RX4 129 (1120403456), Cond.methodLink RX4 130 yX4_scoreOf, Cond.instanceMethod yX4_scoreOf, Cond.selects RX4 yX4_scoreOf yX4_scoreOf, Cond.code yX4_scoreOf cX4_scoreOf 5 (some .float), Cond.fieldLink RX4 7 "BuildlotsModel" "weights" "[I", Cond.methodLink RX4 122 yX4_backs]
def wsX4_install_r3 : List Cond := [Cond.instanceMethod yX4_backs, Cond.selects RX4 yX4_backs yX4_backs, Cond.code yX4_backs cX4_backs 5 (some .boolean), Cond.fieldLink RX4 69 "BuildlotsModel" "keys" "I", Cond.fieldLink RX4 16 "BuildlotsModel" "signers" "[I", Cond.fieldLink RX4 41 "BuildlotsModel" "attested" "[I", Cond.methodLink RX4 100 yX4_lives, Cond.instanceMethod yX4_lives, Cond.selects RX4 yX4_lives yX4_lives, Cond.code yX4_lives cX4_lives 2 (some .boolean), Cond.fieldLink RX4 25 "BuildlotsModel" "areLost" "[Z", Cond.fieldLink RX4 19 "BuildlotsModel" "firsts" "[I", Cond.fieldLink RX4 22 "BuildlotsModel" "lasts" "[I", Cond.methodLink RX4 118 yX4_greatest, Cond.instanceMethod yX4_greatest, Cond.selects RX4 yX4_greatest yX4_greatest, Cond.code yX4_greatest cX4_greatest 5 (some .int)]
def wsX4_install : List Cond := .code yX4_install cX4_install 4 (some .int) :: ((wsX4_install_r1 ++ (wsX4_install_r2 ++ wsX4_install_r3)) ++ wsX40)
def wsX4_pass_r1 : List Cond := [Cond.fieldLink RX4 86 "BuildlotsModel" "day" "I", Cond.methodLink RX4 72 yX4_in, Cond.static yX4_in, Cond.initialized RX4, Cond.code yX4_in cX4_in 3 (some .boolean), Cond.methodLink RX4 76 yX4_fails, Cond.instanceMethod yX4_fails, Cond.selects RX4 yX4_fails yX4_fails, Cond.code yX4_fails cX4_fails 2 (some .boolean), Cond.fieldLink RX4 66 "BuildlotsModel" "code" "I", Cond.methodLink RX4 92 yX4_trusted, Cond.instanceMethod yX4_trusted, Cond.selects RX4 yX4_trusted yX4_trusted, Cond.code yX4_trusted cX4_trusted 1 (some .int), Cond.methodLink RX4 137 yX4_trustedWithout, Cond.instanceMethod yX4_trustedWithout, Cond.selects RX4 yX4_trustedWithout yX4_trustedWithout, Cond.code yX4_trustedWithout cX4_trustedWithout 4 (some .int), Cond.fieldLink RX4 80 "BuildlotsModel" "builds" "I", Cond.methodLink RX4 134 yX4_isEnough, Cond.instanceMethod yX4_isEnough, Cond.selects RX4 yX4_isEnough yX4_isEnough, Cond.code yX4_isEnough cX4_isEnough 3 (some .boolean), Cond.fieldLink RX4 13 "BuildlotsModel" "thresholds" "[I"]
def wsX4_pass_r2 : List Cond := [Cond.fieldLink RX4 29 "BuildlotsModel" "names" "[I", Cond.constantFloat RX4 129 (1120403456), Cond.methodLink RX4 130 yX4_scoreOf, Cond.instanceMethod yX4_scoreOf, Cond.selects RX4 yX4_scoreOf yX4_scoreOf, Cond.code yX4_scoreOf cX4_scoreOf 5 (some .float), Cond.fieldLink RX4 7 "BuildlotsModel" "weights" "[I", Cond.methodLink RX4 122 yX4_backs, Cond.instanceMethod yX4_backs, Cond.selects RX4 yX4_backs yX4_backs, Cond.code yX4_backs cX4_backs 5 (some .boolean), Cond.fieldLink RX4 69 "BuildlotsModel" "keys" "I", Cond.fieldLink RX4 16 "BuildlotsModel" "signers" "[I", Cond.fieldLink RX4 41 "BuildlotsModel" "attested" "[I", Cond.methodLink RX4 100 yX4_lives, Cond.instanceMethod yX4_lives, Cond.selects RX4 yX4_lives yX4_lives, Cond.code yX4_lives cX4_lives 2 (some .boolean), Cond.fieldLink RX4 25 "BuildlotsModel" "areLost" "[Z", Cond.fieldLink RX4 19 "BuildlotsModel" "firsts" "[I", Cond.fieldLink RX4 22 "BuildlotsModel" "lasts" "[I", Cond.methodLink RX4 96 yX4_bits, Cond.static yX4_bits, Cond.code yX4_bits cX4_bits 3 (some .int)]
def wsX4_pass : List Cond := .code yX4_pass cX4_pass 3 (some .int) :: ((wsX4_pass_r1 ++ wsX4_pass_r2) ++ wsX40)
def wsX4_day : List Cond := .code yX4_day cX4_day 1 (some .int) :: ([.fieldLink RX4 86 "BuildlotsModel" "day" "I", .methodLink RX4 156 yX4_tells, .instanceMethod yX4_tells, .selects RX4 yX4_tells yX4_tells, .initialized RX4, .code yX4_tells cX4_tells 2 (some .int), .fieldLink RX4 66 "BuildlotsModel" "code" "I"] ++ wsX40)
def wsJxe99ae_isNaN_b9ae7 : List Cond := .code yJxe99ae_isNaN_b9ae7 cJxe99ae_isNaN_b9ae7 2 (some .boolean) :: ([])
def wsJxe99ae_doubleToLongBits_ccdee : List Cond := .code yJxe99ae_doubleToLongBits_ccdee cJxe99ae_doubleToLongBits_ccdee 2 (some .long) :: ([.methodLink RJxe99ae 134 ⟨"java/lang/Double", "doubleToRawLongBits", "(D)J"⟩, .native ⟨"java/lang/Double", "doubleToRawLongBits", "(D)J"⟩, .static ⟨"java/lang/Double", "doubleToRawLongBits", "(D)J"⟩, .initialized "java/lang/Double", .constantLong RJxe99ae 137 (9221120237041090560), .methodLink RJxe99ae 122 yJxe99ae_isNaN_b9ae7, .static yJxe99ae_isNaN_b9ae7, .initialized RJxe99ae, .code yJxe99ae_isNaN_b9ae7 cJxe99ae_isNaN_b9ae7 2 (some .boolean)])
def wsX4_scoreSumBits_r1 : List Cond := [Cond.fieldLink RX4 66 "BuildlotsModel" "code" "I", Cond.fieldLink RX4 80 "BuildlotsModel" "builds" "I", Cond.methodLink RX4 130 yX4_scoreOf, Cond.instanceMethod yX4_scoreOf, Cond.selects RX4 yX4_scoreOf yX4_scoreOf, Cond.initialized RX4, Cond.code yX4_scoreOf cX4_scoreOf 5 (some .float), Cond.fieldLink RX4 7 "BuildlotsModel" "weights" "[I", Cond.constantFloat RX4 129 (1120403456), Cond.methodLink RX4 122 yX4_backs, Cond.instanceMethod yX4_backs, Cond.selects RX4 yX4_backs yX4_backs, Cond.code yX4_backs cX4_backs 5 (some .boolean), Cond.fieldLink RX4 69 "BuildlotsModel" "keys" "I", Cond.fieldLink RX4 16 "BuildlotsModel" "signers" "[I", Cond.fieldLink RX4 41 "BuildlotsModel" "attested" "[I", Cond.methodLink RX4 100 yX4_lives, Cond.instanceMethod yX4_lives, Cond.selects RX4 yX4_lives yX4_lives, Cond.code yX4_lives cX4_lives 2 (some .boolean), Cond.fieldLink RX4 25 "BuildlotsModel" "areLost" "[Z", Cond.fieldLink RX4 86 "BuildlotsModel" "day" "I", Cond.fieldLink RX4 19 "BuildlotsModel" "firsts" "[I", Cond.fieldLink RX4 22 "BuildlotsModel" "lasts" "[I"]
def wsX4_scoreSumBits_r2 : List Cond := [Cond.methodLink RX4 72 yX4_in, Cond.static yX4_in, Cond.code yX4_in cX4_in 3 (some .boolean), Cond.methodLink RX4 159 yJxe99ae_doubleToLongBits_ccdee, Cond.static yJxe99ae_doubleToLongBits_ccdee, Cond.initialized RJxe99ae, Cond.code yJxe99ae_doubleToLongBits_ccdee cJxe99ae_doubleToLongBits_ccdee 2 (some .long), Cond.methodLink RJxe99ae 134 ⟨"java/lang/Double", "doubleToRawLongBits", "(D)J"⟩, Cond.native ⟨"java/lang/Double", "doubleToRawLongBits", "(D)J"⟩, Cond.static ⟨"java/lang/Double", "doubleToRawLongBits", "(D)J"⟩, Cond.initialized "java/lang/Double", Cond.constantLong RJxe99ae 137 (9221120237041090560), Cond.methodLink RJxe99ae 122 yJxe99ae_isNaN_b9ae7, Cond.static yJxe99ae_isNaN_b9ae7, Cond.code yJxe99ae_isNaN_b9ae7 cJxe99ae_isNaN_b9ae7 2 (some .boolean)]
def wsX4_scoreSumBits : List Cond := .code yX4_scoreSumBits cX4_scoreSumBits 4 (some .long) :: ((wsX4_scoreSumBits_r1 ++ wsX4_scoreSumBits_r2) ++ wsX40)
def wsL_addKey_r1 : List Cond := [Cond.classLink RL 13 "java/lang/IllegalArgumentException", Cond.classLink RL 15 "java/lang/IllegalStateException", Cond.methodLink RL 7 yX3_addKey, Cond.instanceMethod yX3_addKey, Cond.selects RX3 yX3_addKey yX3_addKey, Cond.initialized RX3, Cond.code yX3_addKey cX3_addKey 4 (some .int), Cond.classLink RX3 48 "java/lang/IllegalArgumentException", Cond.initialized "java/lang/IllegalArgumentException", Cond.classLink RX3 58 "java/lang/IllegalStateException", Cond.initialized "java/lang/IllegalStateException", Cond.fieldLink RX3 41 "Buildlots" "today" "I", Cond.fieldLink RX3 10 "Buildlots" "keys" "LBuildlots$Keys;", Cond.methodLink RX3 44 yX3_requireSigner, Cond.instanceMethod yX3_requireSigner, Cond.selects RX3 yX3_requireSigner yX3_requireSigner, Cond.code yX3_requireSigner cX3_requireSigner 2 none, Cond.instanceMethod yX1_append, Cond.initialized RX1, Cond.selects RX1 yX1_append yX1_append, Cond.code yX1_append cX1_append 5 (some .int), Cond.fieldLink RX1 21 "Buildlots$Keys" "count" "I", Cond.fieldLink RX1 9 "Buildlots$Keys" "signers" "[I", Cond.fieldLink RX1 15 "Buildlots$Keys" "firsts" "[I"]
def wsL_addKey_r2 : List Cond := [Cond.fieldLink RX1 18 "Buildlots$Keys" "lasts" "[I"]
def wsL_addKey : List Cond := .codeWith yL_addKey cL_addKey 6 (some .int) [(0, 12, 15, 13), (0, 12, 19, 15)] :: ((wsL_addKey_r1 ++ wsL_addKey_r2) ++ wsX30 ++ wsX10 ++ (vx_atS RX3 52 "java/lang/IllegalArgumentException" ["java/lang/RuntimeException", "java/lang/Exception"]).filter goodWord ++ (vx_atS RX3 62 "java/lang/IllegalStateException" ["java/lang/RuntimeException", "java/lang/Exception"]).filter goodWord)
def wsL_loseKey_r1 : List Cond := [Cond.classLink RL 21 "java/lang/IndexOutOfBoundsException", Cond.classLink RL 15 "java/lang/IllegalStateException", Cond.methodLink RL 17 yX3_loseKey, Cond.instanceMethod yX3_loseKey, Cond.selects RX3 yX3_loseKey yX3_loseKey, Cond.initialized RX3, Cond.code yX3_loseKey cX3_loseKey 3 (some .int), Cond.classLink RX3 58 "java/lang/IllegalStateException", Cond.initialized "java/lang/IllegalStateException", Cond.fieldLink RX3 10 "Buildlots" "keys" "LBuildlots$Keys;", Cond.fieldLink RX3 19 "Buildlots" "builds" "LBuildlots$Builds;", Cond.fieldLink RX3 41 "Buildlots" "today" "I", Cond.methodLink RX3 67 yX3_requireKey, Cond.instanceMethod yX3_requireKey, Cond.selects RX3 yX3_requireKey yX3_requireKey, Cond.code yX3_requireKey cX3_requireKey 2 none, Cond.classLink RX3 235 "java/lang/IndexOutOfBoundsException", Cond.initialized "java/lang/IndexOutOfBoundsException", Cond.methodLink RX3 73 yX3_holds, Cond.static yX3_holds, Cond.code yX3_holds cX3_holds 2 (some .boolean), Cond.methodLink RX3 83 yX3_only, Cond.static yX3_only, Cond.code yX3_only cX3_only 1 (some .int)]
def wsL_loseKey_r2 : List Cond := [Cond.methodLink RX3 79 yX3_trustedBuilds, Cond.instanceMethod yX3_trustedBuilds, Cond.selects RX3 yX3_trustedBuilds yX3_trustedBuilds, Cond.code yX3_trustedBuilds cX3_trustedBuilds 3 (some .int), Cond.methodLink RX3 176 yX3_suffices, Cond.instanceMethod yX3_suffices, Cond.selects RX3 yX3_suffices yX3_suffices, Cond.code yX3_suffices cX3_suffices 3 (some .boolean), Cond.fieldLink RX3 34 "Buildlots" "thresholds" "[I", Cond.constantFloat RX3 230 (1120403456), Cond.methodLink RX3 168 yX3_scoreFrom, Cond.instanceMethod yX3_scoreFrom, Cond.selects RX3 yX3_scoreFrom yX3_scoreFrom, Cond.code yX3_scoreFrom cX3_scoreFrom 4 (some .float), Cond.fieldLink RX3 30 "Buildlots" "weights" "[I", Cond.instanceMethod yX0_keepVouchers, Cond.initialized RX0, Cond.selects RX0 yX0_keepVouchers yX0_keepVouchers, Cond.code yX0_keepVouchers cX0_keepVouchers 5 none, Cond.fieldLink RX0 36 "Buildlots$Builds" "count" "I", Cond.fieldLink RX0 27 "Buildlots$Builds" "vouchers" "[I", Cond.fieldLink RX0 24 "Buildlots$Builds" "attesters" "[I", Cond.instanceMethod yX1_live, Cond.initialized RX1]
def wsL_loseKey_r3 : List Cond := [Cond.selects RX1 yX1_live yX1_live, Cond.code yX1_live cX1_live 4 (some .int), Cond.fieldLink RX1 21 "Buildlots$Keys" "count" "I", Cond.methodLink RX1 32 yX1_liveOn, Cond.instanceMethod yX1_liveOn, Cond.selects RX1 yX1_liveOn yX1_liveOn, Cond.code yX1_liveOn cX1_liveOn 3 (some .boolean), Cond.fieldLink RX1 15 "Buildlots$Keys" "firsts" "[I", Cond.fieldLink RX1 18 "Buildlots$Keys" "lasts" "[I", Cond.fieldLink RX1 25 "Buildlots$Keys" "lost" "I", Cond.instanceMethod yX1_signersOf, Cond.selects RX1 yX1_signersOf yX1_signersOf, Cond.code yX1_signersOf cX1_signersOf 4 (some .int), Cond.fieldLink RX1 9 "Buildlots$Keys" "signers" "[I", Cond.methodLink RX3 91 yJ6_bitCount_0f7a4, Cond.static yJ6_bitCount_0f7a4, Cond.initialized RJ6, Cond.code yJ6_bitCount_0f7a4 cJ6_bitCount_0f7a4 1 (some .int), Cond.constant RJ6 265 (1431655765), Cond.constant RJ6 266 (858993459), Cond.constant RJ6 267 (252645135)]
def wsL_loseKey : List Cond := .codeWith yL_loseKey cL_loseKey 4 (some .int) [(0, 9, 12, 21), (0, 9, 15, 15)] :: ((wsL_loseKey_r1 ++ (wsL_loseKey_r2 ++ wsL_loseKey_r3)) ++ wsX30 ++ wsX10 ++ wsX00 ++ (vx_atS RX3 62 "java/lang/IllegalStateException" ["java/lang/RuntimeException", "java/lang/Exception"]).filter goodWord ++ (vx_atS RX3 239 "java/lang/IndexOutOfBoundsException" ["java/lang/RuntimeException", "java/lang/Exception"]).filter goodWord)
def wsL_extendKey_r1 : List Cond := [Cond.classLink RL 21 "java/lang/IndexOutOfBoundsException", Cond.classLink RL 13 "java/lang/IllegalArgumentException", Cond.classLink RL 15 "java/lang/IllegalStateException", Cond.methodLink RL 23 yX3_extendKey, Cond.instanceMethod yX3_extendKey, Cond.selects RX3 yX3_extendKey yX3_extendKey, Cond.initialized RX3, Cond.code yX3_extendKey cX3_extendKey 4 (some .int), Cond.classLink RX3 48 "java/lang/IllegalArgumentException", Cond.initialized "java/lang/IllegalArgumentException", Cond.classLink RX3 58 "java/lang/IllegalStateException", Cond.initialized "java/lang/IllegalStateException", Cond.fieldLink RX3 10 "Buildlots" "keys" "LBuildlots$Keys;", Cond.fieldLink RX3 41 "Buildlots" "today" "I", Cond.methodLink RX3 67 yX3_requireKey, Cond.instanceMethod yX3_requireKey, Cond.selects RX3 yX3_requireKey yX3_requireKey, Cond.code yX3_requireKey cX3_requireKey 2 none, Cond.classLink RX3 235 "java/lang/IndexOutOfBoundsException", Cond.initialized "java/lang/IndexOutOfBoundsException", Cond.methodLink RX3 73 yX3_holds, Cond.static yX3_holds, Cond.code yX3_holds cX3_holds 2 (some .boolean), Cond.methodLink RX3 83 yX3_only]
def wsL_extendKey_r2 : List Cond := [Cond.static yX3_only, Cond.code yX3_only cX3_only 1 (some .int)]
def wsL_extendKey : List Cond := .codeWith yL_extendKey cL_extendKey 5 (some .int) [(0, 10, 13, 21), (0, 10, 17, 13), (0, 10, 21, 15)] :: ((wsL_extendKey_r1 ++ wsL_extendKey_r2) ++ wsX30 ++ wsX10 ++ (vx_atS RX3 52 "java/lang/IllegalArgumentException" ["java/lang/RuntimeException", "java/lang/Exception"]).filter goodWord ++ (vx_atS RX3 62 "java/lang/IllegalStateException" ["java/lang/RuntimeException", "java/lang/Exception"]).filter goodWord ++ (vx_atS RX3 239 "java/lang/IndexOutOfBoundsException" ["java/lang/RuntimeException", "java/lang/Exception"]).filter goodWord)
def wsL_isLive_r1 : List Cond := [Cond.classLink RL 21 "java/lang/IndexOutOfBoundsException", Cond.methodLink RL 27 yX3_isLive, Cond.instanceMethod yX3_isLive, Cond.selects RX3 yX3_isLive yX3_isLive, Cond.initialized RX3, Cond.code yX3_isLive cX3_isLive 2 (some .boolean), Cond.fieldLink RX3 10 "Buildlots" "keys" "LBuildlots$Keys;", Cond.fieldLink RX3 41 "Buildlots" "today" "I", Cond.methodLink RX3 67 yX3_requireKey, Cond.instanceMethod yX3_requireKey, Cond.selects RX3 yX3_requireKey yX3_requireKey, Cond.code yX3_requireKey cX3_requireKey 2 none, Cond.classLink RX3 235 "java/lang/IndexOutOfBoundsException", Cond.initialized "java/lang/IndexOutOfBoundsException", Cond.instanceMethod yX1_liveOn, Cond.initialized RX1, Cond.selects RX1 yX1_liveOn yX1_liveOn, Cond.code yX1_liveOn cX1_liveOn 3 (some .boolean), Cond.fieldLink RX1 15 "Buildlots$Keys" "firsts" "[I", Cond.fieldLink RX1 18 "Buildlots$Keys" "lasts" "[I", Cond.fieldLink RX1 25 "Buildlots$Keys" "lost" "I", Cond.static yX3_holds, Cond.code yX3_holds cX3_holds 2 (some .boolean), Cond.methodLink RX3 83 yX3_only]
def wsL_isLive_r2 : List Cond := [Cond.static yX3_only, Cond.code yX3_only cX3_only 1 (some .int)]
def wsL_isLive : List Cond := .codeWith yL_isLive cL_isLive 4 (some .int) [(0, 16, 19, 21)] :: ((wsL_isLive_r1 ++ wsL_isLive_r2) ++ wsX30 ++ wsX10 ++ (vx_atS RX3 239 "java/lang/IndexOutOfBoundsException" ["java/lang/RuntimeException", "java/lang/Exception"]).filter goodWord)
def wsL_setWeight : List Cond := .codeWith yL_setWeight cL_setWeight 5 (some .int) [(0, 10, 13, 13)] :: ([.classLink RL 13 "java/lang/IllegalArgumentException", .methodLink RL 31 yX3_setWeight, .instanceMethod yX3_setWeight, .selects RX3 yX3_setWeight yX3_setWeight, .initialized RX3, .code yX3_setWeight cX3_setWeight 4 (some .int), .classLink RX3 48 "java/lang/IllegalArgumentException", .initialized "java/lang/IllegalArgumentException", .fieldLink RX3 30 "Buildlots" "weights" "[I", .methodLink RX3 44 yX3_requireSigner, .instanceMethod yX3_requireSigner, .selects RX3 yX3_requireSigner yX3_requireSigner, .code yX3_requireSigner cX3_requireSigner 2 none] ++ wsX30 ++ (vx_atS RX3 52 "java/lang/IllegalArgumentException" ["java/lang/RuntimeException", "java/lang/Exception"]).filter goodWord)
def wsL_setThreshold : List Cond := .codeWith yL_setThreshold cL_setThreshold 5 (some .int) [(0, 10, 13, 13)] :: ([.classLink RL 13 "java/lang/IllegalArgumentException", .methodLink RL 34 yX3_setThreshold, .instanceMethod yX3_setThreshold, .selects RX3 yX3_setThreshold yX3_setThreshold, .initialized RX3, .code yX3_setThreshold cX3_setThreshold 4 (some .int), .classLink RX3 48 "java/lang/IllegalArgumentException", .initialized "java/lang/IllegalArgumentException", .fieldLink RX3 34 "Buildlots" "thresholds" "[I", .methodLink RX3 108 yX3_requireName, .instanceMethod yX3_requireName, .selects RX3 yX3_requireName yX3_requireName, .code yX3_requireName cX3_requireName 2 none] ++ wsX30 ++ (vx_atS RX3 52 "java/lang/IllegalArgumentException" ["java/lang/RuntimeException", "java/lang/Exception"]).filter goodWord)
def wsL_build_r1 : List Cond := [Cond.classLink RL 13 "java/lang/IllegalArgumentException", Cond.classLink RL 40 "java/lang/UnsupportedOperationException", Cond.classLink RL 15 "java/lang/IllegalStateException", Cond.methodLink RL 37 yX3_build, Cond.instanceMethod yX3_build, Cond.selects RX3 yX3_build yX3_build, Cond.initialized RX3, Cond.code yX3_build cX3_build 4 (some .int), Cond.classLink RX3 48 "java/lang/IllegalArgumentException", Cond.initialized "java/lang/IllegalArgumentException", Cond.classLink RX3 121 "java/lang/UnsupportedOperationException", Cond.initialized "java/lang/UnsupportedOperationException", Cond.classLink RX3 58 "java/lang/IllegalStateException", Cond.initialized "java/lang/IllegalStateException", Cond.fieldLink RX3 19 "Buildlots" "builds" "LBuildlots$Builds;", Cond.methodLink RX3 108 yX3_requireName, Cond.instanceMethod yX3_requireName, Cond.selects RX3 yX3_requireName yX3_requireName, Cond.code yX3_requireName cX3_requireName 2 none, Cond.instanceMethod yX0_all, Cond.initialized RX0, Cond.selects RX0 yX0_all yX0_all, Cond.code yX0_all cX0_all 1 (some .int), Cond.fieldLink RX0 36 "Buildlots$Builds" "count" "I"]
def wsL_build_r2 : List Cond := [Cond.static yX3_only, Cond.code yX3_only cX3_only 1 (some .int), Cond.instanceMethod yX0_recalled, Cond.selects RX0 yX0_recalled yX0_recalled, Cond.code yX0_recalled cX0_recalled 3 (some .int), Cond.fieldLink RX0 54 "Buildlots$Builds" "marked" "I", Cond.fieldLink RX0 18 "Buildlots$Builds" "sources" "[I", Cond.instanceMethod yX0_append, Cond.selects RX0 yX0_append yX0_append, Cond.code yX0_append cX0_append 5 (some .int), Cond.fieldLink RX0 9 "Buildlots$Builds" "names" "[I", Cond.fieldLink RX0 15 "Buildlots$Builds" "versions" "[I", Cond.fieldLink RX0 21 "Buildlots$Builds" "results" "[I", Cond.methodLink RX0 40 yX0_countOf, Cond.instanceMethod yX0_countOf, Cond.selects RX0 yX0_countOf yX0_countOf, Cond.code yX0_countOf cX0_countOf 4 (some .int), Cond.methodLink RX0 44 yX0_withTheirSources, Cond.instanceMethod yX0_withTheirSources, Cond.selects RX0 yX0_withTheirSources yX0_withTheirSources, Cond.code yX0_withTheirSources cX0_withTheirSources 4 (some .int), Cond.static yX3_holds, Cond.code yX3_holds cX3_holds 2 (some .boolean), Cond.methodLink RX3 83 yX3_only]
def wsL_build : List Cond := .codeWith yL_build cL_build 6 (some .int) [(0, 12, 15, 13), (0, 12, 19, 40), (0, 12, 23, 15)] :: ((wsL_build_r1 ++ wsL_build_r2) ++ wsX30 ++ wsX00 ++ (vx_atS RX3 52 "java/lang/IllegalArgumentException" ["java/lang/RuntimeException", "java/lang/Exception"]).filter goodWord ++ (vx_atS RX3 125 "java/lang/UnsupportedOperationException" ["java/lang/RuntimeException", "java/lang/Exception"]).filter goodWord ++ (vx_atS RX3 62 "java/lang/IllegalStateException" ["java/lang/RuntimeException", "java/lang/Exception"]).filter goodWord)
def wsL_nameOf : List Cond := .codeWith yL_nameOf cL_nameOf 4 (some .int) [(0, 9, 12, 21)] :: ([.classLink RL 21 "java/lang/IndexOutOfBoundsException", .methodLink RL 42 yX3_nameOf, .instanceMethod yX3_nameOf, .selects RX3 yX3_nameOf yX3_nameOf, .initialized RX3, .code yX3_nameOf cX3_nameOf 2 (some .int), .fieldLink RX3 19 "Buildlots" "builds" "LBuildlots$Builds;", .methodLink RX3 130 yX3_requireBuild, .instanceMethod yX3_requireBuild, .selects RX3 yX3_requireBuild yX3_requireBuild, .code yX3_requireBuild cX3_requireBuild 2 none, .classLink RX3 235 "java/lang/IndexOutOfBoundsException", .initialized "java/lang/IndexOutOfBoundsException"] ++ wsX30 ++ wsX00 ++ (vx_atS RX3 239 "java/lang/IndexOutOfBoundsException" ["java/lang/RuntimeException", "java/lang/Exception"]).filter goodWord)
def wsL_version : List Cond := .codeWith yL_version cL_version 4 (some .int) [(0, 9, 12, 21)] :: ([.classLink RL 21 "java/lang/IndexOutOfBoundsException", .methodLink RL 45 yX3_version, .instanceMethod yX3_version, .selects RX3 yX3_version yX3_version, .initialized RX3, .code yX3_version cX3_version 2 (some .int), .fieldLink RX3 19 "Buildlots" "builds" "LBuildlots$Builds;", .methodLink RX3 130 yX3_requireBuild, .instanceMethod yX3_requireBuild, .selects RX3 yX3_requireBuild yX3_requireBuild, .code yX3_requireBuild cX3_requireBuild 2 none, .classLink RX3 235 "java/lang/IndexOutOfBoundsException", .initialized "java/lang/IndexOutOfBoundsException"] ++ wsX30 ++ wsX00 ++ (vx_atS RX3 239 "java/lang/IndexOutOfBoundsException" ["java/lang/RuntimeException", "java/lang/Exception"]).filter goodWord)
def wsL_uses : List Cond := .codeWith yL_uses cL_uses 5 (some .int) [(0, 17, 20, 21)] :: ([.classLink RL 21 "java/lang/IndexOutOfBoundsException", .methodLink RL 48 yX3_uses, .instanceMethod yX3_uses, .selects RX3 yX3_uses yX3_uses, .initialized RX3, .code yX3_uses cX3_uses 3 (some .boolean), .fieldLink RX3 19 "Buildlots" "builds" "LBuildlots$Builds;", .methodLink RX3 130 yX3_requireBuild, .instanceMethod yX3_requireBuild, .selects RX3 yX3_requireBuild yX3_requireBuild, .code yX3_requireBuild cX3_requireBuild 2 none, .classLink RX3 235 "java/lang/IndexOutOfBoundsException", .initialized "java/lang/IndexOutOfBoundsException", .methodLink RX3 73 yX3_holds, .static yX3_holds, .code yX3_holds cX3_holds 2 (some .boolean), .methodLink RX3 83 yX3_only, .static yX3_only, .code yX3_only cX3_only 1 (some .int)] ++ wsX30 ++ wsX00 ++ (vx_atS RX3 239 "java/lang/IndexOutOfBoundsException" ["java/lang/RuntimeException", "java/lang/Exception"]).filter goodWord)
def wsL_used : List Cond := .codeWith yL_used cL_used 4 (some .int) [(0, 9, 12, 21)] :: ([.classLink RL 21 "java/lang/IndexOutOfBoundsException", .methodLink RL 52 yX3_used, .instanceMethod yX3_used, .selects RX3 yX3_used yX3_used, .initialized RX3, .code yX3_used cX3_used 2 (some .int), .fieldLink RX3 19 "Buildlots" "builds" "LBuildlots$Builds;", .methodLink RX3 130 yX3_requireBuild, .instanceMethod yX3_requireBuild, .selects RX3 yX3_requireBuild yX3_requireBuild, .code yX3_requireBuild cX3_requireBuild 2 none, .classLink RX3 235 "java/lang/IndexOutOfBoundsException", .initialized "java/lang/IndexOutOfBoundsException", .methodLink RX3 91 yJ6_bitCount_0f7a4, .static yJ6_bitCount_0f7a4, .initialized RJ6, .code yJ6_bitCount_0f7a4 cJ6_bitCount_0f7a4 1 (some .int), .constant RJ6 265 (1431655765), .constant RJ6 266 (858993459), .constant RJ6 267 (252645135)] ++ wsX30 ++ wsX00 ++ (vx_atS RX3 239 "java/lang/IndexOutOfBoundsException" ["java/lang/RuntimeException", "java/lang/Exception"]).filter goodWord)
def wsL_newest_r1 : List Cond := [Cond.classLink RL 13 "java/lang/IllegalArgumentException", Cond.classLink RL 58 "java/util/NoSuchElementException", Cond.methodLink RL 55 yX3_newest, Cond.instanceMethod yX3_newest, Cond.selects RX3 yX3_newest yX3_newest, Cond.initialized RX3, Cond.code yX3_newest cX3_newest 2 (some .int), Cond.fieldLink RX3 19 "Buildlots" "builds" "LBuildlots$Builds;", Cond.methodLink RX3 108 yX3_requireName, Cond.instanceMethod yX3_requireName, Cond.selects RX3 yX3_requireName yX3_requireName, Cond.code yX3_requireName cX3_requireName 2 none, Cond.classLink RX3 48 "java/lang/IllegalArgumentException", Cond.initialized "java/lang/IllegalArgumentException", Cond.methodLink RX3 79 yX3_trustedBuilds, Cond.instanceMethod yX3_trustedBuilds, Cond.selects RX3 yX3_trustedBuilds yX3_trustedBuilds, Cond.code yX3_trustedBuilds cX3_trustedBuilds 3 (some .int), Cond.methodLink RX3 176 yX3_suffices, Cond.instanceMethod yX3_suffices, Cond.selects RX3 yX3_suffices yX3_suffices, Cond.code yX3_suffices cX3_suffices 3 (some .boolean), Cond.fieldLink RX3 34 "Buildlots" "thresholds" "[I", Cond.constantFloat RX3 230 (1120403456)]
def wsL_newest_r2 : List Cond := [Cond.methodLink RX3 168 yX3_scoreFrom, Cond.instanceMethod yX3_scoreFrom, Cond.selects RX3 yX3_scoreFrom yX3_scoreFrom, Cond.code yX3_scoreFrom cX3_scoreFrom 4 (some .float), Cond.fieldLink RX3 30 "Buildlots" "weights" "[I", Cond.methodLink RX3 73 yX3_holds, Cond.static yX3_holds, Cond.code yX3_holds cX3_holds 2 (some .boolean), Cond.methodLink RX3 83 yX3_only, Cond.static yX3_only, Cond.code yX3_only cX3_only 1 (some .int), Cond.instanceMethod yX0_recalled, Cond.initialized RX0, Cond.selects RX0 yX0_recalled yX0_recalled, Cond.code yX0_recalled cX0_recalled 3 (some .int), Cond.fieldLink RX0 54 "Buildlots$Builds" "marked" "I", Cond.fieldLink RX0 36 "Buildlots$Builds" "count" "I", Cond.fieldLink RX0 18 "Buildlots$Builds" "sources" "[I", Cond.instanceMethod yX0_newestOf, Cond.selects RX0 yX0_newestOf yX0_newestOf, Cond.code yX0_newestOf cX0_newestOf 5 (some .int), Cond.fieldLink RX0 9 "Buildlots$Builds" "names" "[I", Cond.methodLink RX3 146 yX3_requireFound, Cond.static yX3_requireFound]
def wsL_newest_r3 : List Cond := [Cond.code yX3_requireFound cX3_requireFound 1 (some .int), Cond.classLink RX3 197 "java/util/NoSuchElementException", Cond.initialized "java/util/NoSuchElementException"]
def wsL_newest : List Cond := .codeWith yL_newest cL_newest 4 (some .int) [(0, 9, 12, 13), (0, 9, 15, 58)] :: ((wsL_newest_r1 ++ (wsL_newest_r2 ++ wsL_newest_r3)) ++ wsX30 ++ wsX00 ++ (vx_atS RX3 52 "java/lang/IllegalArgumentException" ["java/lang/RuntimeException", "java/lang/Exception"]).filter goodWord ++ (vx_atS RX3 201 "java/util/NoSuchElementException" ["java/lang/RuntimeException", "java/lang/Exception"]).filter goodWord)
def wsL_attest_r1 : List Cond := [Cond.classLink RL 21 "java/lang/IndexOutOfBoundsException", Cond.classLink RL 15 "java/lang/IllegalStateException", Cond.classLink RL 40 "java/lang/UnsupportedOperationException", Cond.methodLink RL 60 yX3_attest, Cond.instanceMethod yX3_attest, Cond.selects RX3 yX3_attest yX3_attest, Cond.initialized RX3, Cond.code yX3_attest cX3_attest 3 (some .int), Cond.classLink RX3 58 "java/lang/IllegalStateException", Cond.initialized "java/lang/IllegalStateException", Cond.classLink RX3 121 "java/lang/UnsupportedOperationException", Cond.initialized "java/lang/UnsupportedOperationException", Cond.fieldLink RX3 10 "Buildlots" "keys" "LBuildlots$Keys;", Cond.fieldLink RX3 41 "Buildlots" "today" "I", Cond.fieldLink RX3 19 "Buildlots" "builds" "LBuildlots$Builds;", Cond.methodLink RX3 130 yX3_requireBuild, Cond.instanceMethod yX3_requireBuild, Cond.selects RX3 yX3_requireBuild yX3_requireBuild, Cond.code yX3_requireBuild cX3_requireBuild 2 none, Cond.classLink RX3 235 "java/lang/IndexOutOfBoundsException", Cond.initialized "java/lang/IndexOutOfBoundsException", Cond.methodLink RX3 67 yX3_requireKey, Cond.instanceMethod yX3_requireKey, Cond.selects RX3 yX3_requireKey yX3_requireKey]
def wsL_attest_r2 : List Cond := [Cond.code yX3_requireKey cX3_requireKey 2 none, Cond.instanceMethod yX1_liveOn, Cond.initialized RX1, Cond.selects RX1 yX1_liveOn yX1_liveOn, Cond.code yX1_liveOn cX1_liveOn 3 (some .boolean), Cond.fieldLink RX1 15 "Buildlots$Keys" "firsts" "[I", Cond.fieldLink RX1 18 "Buildlots$Keys" "lasts" "[I", Cond.fieldLink RX1 25 "Buildlots$Keys" "lost" "I", Cond.static yX3_holds, Cond.code yX3_holds cX3_holds 2 (some .boolean), Cond.methodLink RX3 83 yX3_only, Cond.static yX3_only, Cond.code yX3_only cX3_only 1 (some .int), Cond.methodLink RX3 73 yX3_holds, Cond.instanceMethod yX0_recalled, Cond.initialized RX0, Cond.selects RX0 yX0_recalled yX0_recalled, Cond.code yX0_recalled cX0_recalled 3 (some .int), Cond.fieldLink RX0 54 "Buildlots$Builds" "marked" "I", Cond.fieldLink RX0 36 "Buildlots$Builds" "count" "I", Cond.fieldLink RX0 18 "Buildlots$Builds" "sources" "[I", Cond.methodLink RX3 91 yJ6_bitCount_0f7a4, Cond.static yJ6_bitCount_0f7a4, Cond.initialized RJ6]
def wsL_attest_r3 : List Cond := [Cond.code yJ6_bitCount_0f7a4 cJ6_bitCount_0f7a4 1 (some .int), Cond.constant RJ6 265 (1431655765), Cond.constant RJ6 266 (858993459), Cond.constant RJ6 267 (252645135)]
def wsL_attest : List Cond := .codeWith yL_attest cL_attest 5 (some .int) [(0, 10, 13, 21), (0, 10, 17, 15), (0, 10, 21, 40)] :: ((wsL_attest_r1 ++ (wsL_attest_r2 ++ wsL_attest_r3)) ++ wsX30 ++ wsX00 ++ wsX10 ++ (vx_atS RX3 62 "java/lang/IllegalStateException" ["java/lang/RuntimeException", "java/lang/Exception"]).filter goodWord ++ (vx_atS RX3 125 "java/lang/UnsupportedOperationException" ["java/lang/RuntimeException", "java/lang/Exception"]).filter goodWord ++ (vx_atS RX3 239 "java/lang/IndexOutOfBoundsException" ["java/lang/RuntimeException", "java/lang/Exception"]).filter goodWord)
def wsL_vouches_r1 : List Cond := [Cond.classLink RL 21 "java/lang/IndexOutOfBoundsException", Cond.classLink RL 13 "java/lang/IllegalArgumentException", Cond.methodLink RL 63 yX3_vouches, Cond.instanceMethod yX3_vouches, Cond.selects RX3 yX3_vouches yX3_vouches, Cond.initialized RX3, Cond.code yX3_vouches cX3_vouches 3 (some .boolean), Cond.fieldLink RX3 19 "Buildlots" "builds" "LBuildlots$Builds;", Cond.methodLink RX3 130 yX3_requireBuild, Cond.instanceMethod yX3_requireBuild, Cond.selects RX3 yX3_requireBuild yX3_requireBuild, Cond.code yX3_requireBuild cX3_requireBuild 2 none, Cond.classLink RX3 235 "java/lang/IndexOutOfBoundsException", Cond.initialized "java/lang/IndexOutOfBoundsException", Cond.methodLink RX3 44 yX3_requireSigner, Cond.instanceMethod yX3_requireSigner, Cond.selects RX3 yX3_requireSigner yX3_requireSigner, Cond.code yX3_requireSigner cX3_requireSigner 2 none, Cond.classLink RX3 48 "java/lang/IllegalArgumentException", Cond.initialized "java/lang/IllegalArgumentException", Cond.methodLink RX3 73 yX3_holds, Cond.static yX3_holds, Cond.code yX3_holds cX3_holds 2 (some .boolean), Cond.methodLink RX3 83 yX3_only]
def wsL_vouches_r2 : List Cond := [Cond.static yX3_only, Cond.code yX3_only cX3_only 1 (some .int)]
def wsL_vouches : List Cond := .codeWith yL_vouches cL_vouches 5 (some .int) [(0, 17, 20, 21), (0, 17, 24, 13)] :: ((wsL_vouches_r1 ++ wsL_vouches_r2) ++ wsX30 ++ wsX00 ++ (vx_atS RX3 239 "java/lang/IndexOutOfBoundsException" ["java/lang/RuntimeException", "java/lang/Exception"]).filter goodWord ++ (vx_atS RX3 52 "java/lang/IllegalArgumentException" ["java/lang/RuntimeException", "java/lang/Exception"]).filter goodWord)
def wsL_vouchesByList_r1 : List Cond := [Cond.classLink RL 21 "java/lang/IndexOutOfBoundsException", Cond.classLink RL 13 "java/lang/IllegalArgumentException", Cond.methodLink RL 66 yX3_vouchesByList, Cond.instanceMethod yX3_vouchesByList, Cond.selects RX3 yX3_vouchesByList yX3_vouchesByList, Cond.initialized RX3, Cond.code yX3_vouchesByList cX3_vouchesByList 3 (some .boolean), Cond.fieldLink RX3 10 "Buildlots" "keys" "LBuildlots$Keys;", Cond.fieldLink RX3 19 "Buildlots" "builds" "LBuildlots$Builds;", Cond.fieldLink RX3 41 "Buildlots" "today" "I", Cond.methodLink RX3 130 yX3_requireBuild, Cond.instanceMethod yX3_requireBuild, Cond.selects RX3 yX3_requireBuild yX3_requireBuild, Cond.code yX3_requireBuild cX3_requireBuild 2 none, Cond.classLink RX3 235 "java/lang/IndexOutOfBoundsException", Cond.initialized "java/lang/IndexOutOfBoundsException", Cond.methodLink RX3 44 yX3_requireSigner, Cond.instanceMethod yX3_requireSigner, Cond.selects RX3 yX3_requireSigner yX3_requireSigner, Cond.code yX3_requireSigner cX3_requireSigner 2 none, Cond.classLink RX3 48 "java/lang/IllegalArgumentException", Cond.initialized "java/lang/IllegalArgumentException", Cond.instanceMethod yX1_live, Cond.initialized RX1]
def wsL_vouchesByList_r2 : List Cond := [Cond.selects RX1 yX1_live yX1_live, Cond.code yX1_live cX1_live 4 (some .int), Cond.fieldLink RX1 21 "Buildlots$Keys" "count" "I", Cond.methodLink RX1 32 yX1_liveOn, Cond.instanceMethod yX1_liveOn, Cond.selects RX1 yX1_liveOn yX1_liveOn, Cond.code yX1_liveOn cX1_liveOn 3 (some .boolean), Cond.fieldLink RX1 15 "Buildlots$Keys" "firsts" "[I", Cond.fieldLink RX1 18 "Buildlots$Keys" "lasts" "[I", Cond.fieldLink RX1 25 "Buildlots$Keys" "lost" "I", Cond.static yX3_holds, Cond.code yX3_holds cX3_holds 2 (some .boolean), Cond.methodLink RX3 83 yX3_only, Cond.static yX3_only, Cond.code yX3_only cX3_only 1 (some .int), Cond.instanceMethod yX1_signersOf, Cond.selects RX1 yX1_signersOf yX1_signersOf, Cond.code yX1_signersOf cX1_signersOf 4 (some .int), Cond.fieldLink RX1 9 "Buildlots$Keys" "signers" "[I", Cond.methodLink RX3 73 yX3_holds]
def wsL_vouchesByList : List Cond := .codeWith yL_vouchesByList cL_vouchesByList 5 (some .int) [(0, 17, 20, 21), (0, 17, 24, 13)] :: ((wsL_vouchesByList_r1 ++ wsL_vouchesByList_r2) ++ wsX30 ++ wsX00 ++ wsX10 ++ (vx_atS RX3 239 "java/lang/IndexOutOfBoundsException" ["java/lang/RuntimeException", "java/lang/Exception"]).filter goodWord ++ (vx_atS RX3 52 "java/lang/IllegalArgumentException" ["java/lang/RuntimeException", "java/lang/Exception"]).filter goodWord)
def wsL_score_r1 : List Cond := [Cond.classLink RL 21 "java/lang/IndexOutOfBoundsException", Cond.methodLink RL 69 yX3_score, Cond.instanceMethod yX3_score, Cond.selects RX3 yX3_score yX3_score, Cond.initialized RX3, Cond.code yX3_score cX3_score 2 (some .float), Cond.fieldLink RX3 19 "Buildlots" "builds" "LBuildlots$Builds;", Cond.methodLink RX3 130 yX3_requireBuild, Cond.instanceMethod yX3_requireBuild, Cond.selects RX3 yX3_requireBuild yX3_requireBuild, Cond.code yX3_requireBuild cX3_requireBuild 2 none, Cond.classLink RX3 235 "java/lang/IndexOutOfBoundsException", Cond.initialized "java/lang/IndexOutOfBoundsException", Cond.methodLink RX3 168 yX3_scoreFrom, Cond.instanceMethod yX3_scoreFrom, Cond.selects RX3 yX3_scoreFrom yX3_scoreFrom, Cond.code yX3_scoreFrom cX3_scoreFrom 4 (some .float), Cond.fieldLink RX3 30 "Buildlots" "weights" "[I", Cond.constantFloat RX3 230 (1120403456), Cond.methodLink RX3 73 yX3_holds, Cond.static yX3_holds, Cond.code yX3_holds cX3_holds 2 (some .boolean), Cond.methodLink RX3 83 yX3_only, Cond.static yX3_only]
def wsL_score_r2 : List Cond := [Cond.code yX3_only cX3_only 1 (some .int)]
def wsL_score : List Cond := .codeWith yL_score cL_score 4 (some .int) [(0, 9, 12, 21)] :: ((wsL_score_r1 ++ wsL_score_r2) ++ wsX30 ++ wsX00 ++ (vx_atS RX3 239 "java/lang/IndexOutOfBoundsException" ["java/lang/RuntimeException", "java/lang/Exception"]).filter goodWord)
def wsL_scoreBits_r1 : List Cond := [Cond.classLink RL 21 "java/lang/IndexOutOfBoundsException", Cond.methodLink RL 73 yX3_scoreBits, Cond.instanceMethod yX3_scoreBits, Cond.selects RX3 yX3_scoreBits yX3_scoreBits, Cond.initialized RX3, Cond.code yX3_scoreBits cX3_scoreBits 2 (some .int), Cond.fieldLink RX3 19 "Buildlots" "builds" "LBuildlots$Builds;", Cond.methodLink RX3 130 yX3_requireBuild, Cond.instanceMethod yX3_requireBuild, Cond.selects RX3 yX3_requireBuild yX3_requireBuild, Cond.code yX3_requireBuild cX3_requireBuild 2 none, Cond.classLink RX3 235 "java/lang/IndexOutOfBoundsException", Cond.initialized "java/lang/IndexOutOfBoundsException", Cond.methodLink RX3 168 yX3_scoreFrom, Cond.instanceMethod yX3_scoreFrom, Cond.selects RX3 yX3_scoreFrom yX3_scoreFrom, Cond.code yX3_scoreFrom cX3_scoreFrom 4 (some .float), Cond.fieldLink RX3 30 "Buildlots" "weights" "[I", Cond.constantFloat RX3 230 (1120403456), Cond.methodLink RX3 73 yX3_holds, Cond.static yX3_holds, Cond.code yX3_holds cX3_holds 2 (some .boolean), Cond.methodLink RX3 83 yX3_only, Cond.static yX3_only]
def wsL_scoreBits_r2 : List Cond := [Cond.code yX3_only cX3_only 1 (some .int), Cond.methodLink RX3 172 yX3_floatBits, Cond.static yX3_floatBits, Cond.code yX3_floatBits cX3_floatBits 1 (some .int), Cond.constantLong RX3 254 (7516192768), Cond.methodLink RX3 226 yX3_doubleBits, Cond.static yX3_doubleBits, Cond.code yX3_doubleBits cX3_doubleBits 6 (some .long), Cond.constantLong RX3 246 (1023), Cond.constantDouble RX3 248 (4611686018427387904), Cond.constantLong RX3 250 (2046), Cond.constantDouble RX3 252 (4841369599423283200)]
def wsL_scoreBits : List Cond := .codeWith yL_scoreBits cL_scoreBits 4 (some .int) [(0, 9, 12, 21)] :: ((wsL_scoreBits_r1 ++ wsL_scoreBits_r2) ++ wsX30 ++ wsX00 ++ (vx_atS RX3 239 "java/lang/IndexOutOfBoundsException" ["java/lang/RuntimeException", "java/lang/Exception"]).filter goodWord)
def wsL_isTrusted_r1 : List Cond := [Cond.classLink RL 21 "java/lang/IndexOutOfBoundsException", Cond.methodLink RL 76 yX3_isTrusted, Cond.instanceMethod yX3_isTrusted, Cond.selects RX3 yX3_isTrusted yX3_isTrusted, Cond.initialized RX3, Cond.code yX3_isTrusted cX3_isTrusted 2 (some .boolean), Cond.fieldLink RX3 19 "Buildlots" "builds" "LBuildlots$Builds;", Cond.methodLink RX3 130 yX3_requireBuild, Cond.instanceMethod yX3_requireBuild, Cond.selects RX3 yX3_requireBuild yX3_requireBuild, Cond.code yX3_requireBuild cX3_requireBuild 2 none, Cond.classLink RX3 235 "java/lang/IndexOutOfBoundsException", Cond.initialized "java/lang/IndexOutOfBoundsException", Cond.methodLink RX3 176 yX3_suffices, Cond.instanceMethod yX3_suffices, Cond.selects RX3 yX3_suffices yX3_suffices, Cond.code yX3_suffices cX3_suffices 3 (some .boolean), Cond.fieldLink RX3 34 "Buildlots" "thresholds" "[I", Cond.constantFloat RX3 230 (1120403456), Cond.methodLink RX3 168 yX3_scoreFrom, Cond.instanceMethod yX3_scoreFrom, Cond.selects RX3 yX3_scoreFrom yX3_scoreFrom, Cond.code yX3_scoreFrom cX3_scoreFrom 4 (some .float), Cond.fieldLink RX3 30 "Buildlots" "weights" "[I"]
def wsL_isTrusted_r2 : List Cond := [Cond.methodLink RX3 73 yX3_holds, Cond.static yX3_holds, Cond.code yX3_holds cX3_holds 2 (some .boolean), Cond.methodLink RX3 83 yX3_only, Cond.static yX3_only, Cond.code yX3_only cX3_only 1 (some .int)]
def wsL_isTrusted : List Cond := .codeWith yL_isTrusted cL_isTrusted 4 (some .int) [(0, 16, 19, 21)] :: ((wsL_isTrusted_r1 ++ wsL_isTrusted_r2) ++ wsX30 ++ wsX00 ++ (vx_atS RX3 239 "java/lang/IndexOutOfBoundsException" ["java/lang/RuntimeException", "java/lang/Exception"]).filter goodWord)
def wsL_hangsOnKey_r1 : List Cond := [Cond.classLink RL 21 "java/lang/IndexOutOfBoundsException", Cond.methodLink RL 79 yX3_hangsOnKey, Cond.instanceMethod yX3_hangsOnKey, Cond.selects RX3 yX3_hangsOnKey yX3_hangsOnKey, Cond.initialized RX3, Cond.code yX3_hangsOnKey cX3_hangsOnKey 6 (some .int), Cond.fieldLink RX3 10 "Buildlots" "keys" "LBuildlots$Keys;", Cond.fieldLink RX3 41 "Buildlots" "today" "I", Cond.fieldLink RX3 19 "Buildlots" "builds" "LBuildlots$Builds;", Cond.methodLink RX3 67 yX3_requireKey, Cond.instanceMethod yX3_requireKey, Cond.selects RX3 yX3_requireKey yX3_requireKey, Cond.code yX3_requireKey cX3_requireKey 2 none, Cond.classLink RX3 235 "java/lang/IndexOutOfBoundsException", Cond.initialized "java/lang/IndexOutOfBoundsException", Cond.instanceMethod yX1_live, Cond.initialized RX1, Cond.selects RX1 yX1_live yX1_live, Cond.code yX1_live cX1_live 4 (some .int), Cond.fieldLink RX1 21 "Buildlots$Keys" "count" "I", Cond.methodLink RX1 32 yX1_liveOn, Cond.instanceMethod yX1_liveOn, Cond.selects RX1 yX1_liveOn yX1_liveOn, Cond.code yX1_liveOn cX1_liveOn 3 (some .boolean)]
def wsL_hangsOnKey_r2 : List Cond := [Cond.fieldLink RX1 15 "Buildlots$Keys" "firsts" "[I", Cond.fieldLink RX1 18 "Buildlots$Keys" "lasts" "[I", Cond.fieldLink RX1 25 "Buildlots$Keys" "lost" "I", Cond.static yX3_holds, Cond.code yX3_holds cX3_holds 2 (some .boolean), Cond.methodLink RX3 83 yX3_only, Cond.static yX3_only, Cond.code yX3_only cX3_only 1 (some .int), Cond.instanceMethod yX1_signersOf, Cond.selects RX1 yX1_signersOf yX1_signersOf, Cond.code yX1_signersOf cX1_signersOf 4 (some .int), Cond.fieldLink RX1 9 "Buildlots$Keys" "signers" "[I", Cond.methodLink RX3 176 yX3_suffices, Cond.instanceMethod yX3_suffices, Cond.selects RX3 yX3_suffices yX3_suffices, Cond.code yX3_suffices cX3_suffices 3 (some .boolean), Cond.fieldLink RX3 34 "Buildlots" "thresholds" "[I", Cond.constantFloat RX3 230 (1120403456), Cond.methodLink RX3 168 yX3_scoreFrom, Cond.instanceMethod yX3_scoreFrom, Cond.selects RX3 yX3_scoreFrom yX3_scoreFrom, Cond.code yX3_scoreFrom cX3_scoreFrom 4 (some .float), Cond.fieldLink RX3 30 "Buildlots" "weights" "[I", Cond.methodLink RX3 73 yX3_holds]
def wsL_hangsOnKey : List Cond := .codeWith yL_hangsOnKey cL_hangsOnKey 4 (some .int) [(0, 9, 12, 21)] :: ((wsL_hangsOnKey_r1 ++ wsL_hangsOnKey_r2) ++ wsX30 ++ wsX00 ++ wsX10 ++ (vx_atS RX3 239 "java/lang/IndexOutOfBoundsException" ["java/lang/RuntimeException", "java/lang/Exception"]).filter goodWord)
def wsL_recall_r1 : List Cond := [Cond.classLink RL 21 "java/lang/IndexOutOfBoundsException", Cond.classLink RL 15 "java/lang/IllegalStateException", Cond.methodLink RL 82 yX3_recall, Cond.instanceMethod yX3_recall, Cond.selects RX3 yX3_recall yX3_recall, Cond.initialized RX3, Cond.code yX3_recall cX3_recall 3 (some .int), Cond.classLink RX3 58 "java/lang/IllegalStateException", Cond.initialized "java/lang/IllegalStateException", Cond.fieldLink RX3 19 "Buildlots" "builds" "LBuildlots$Builds;", Cond.methodLink RX3 130 yX3_requireBuild, Cond.instanceMethod yX3_requireBuild, Cond.selects RX3 yX3_requireBuild yX3_requireBuild, Cond.code yX3_requireBuild cX3_requireBuild 2 none, Cond.classLink RX3 235 "java/lang/IndexOutOfBoundsException", Cond.initialized "java/lang/IndexOutOfBoundsException", Cond.methodLink RX3 73 yX3_holds, Cond.static yX3_holds, Cond.code yX3_holds cX3_holds 2 (some .boolean), Cond.methodLink RX3 83 yX3_only, Cond.static yX3_only, Cond.code yX3_only cX3_only 1 (some .int), Cond.instanceMethod yX0_recalled, Cond.initialized RX0]
def wsL_recall_r2 : List Cond := [Cond.selects RX0 yX0_recalled yX0_recalled, Cond.code yX0_recalled cX0_recalled 3 (some .int), Cond.fieldLink RX0 54 "Buildlots$Builds" "marked" "I", Cond.fieldLink RX0 36 "Buildlots$Builds" "count" "I", Cond.fieldLink RX0 18 "Buildlots$Builds" "sources" "[I", Cond.methodLink RX3 91 yJ6_bitCount_0f7a4, Cond.static yJ6_bitCount_0f7a4, Cond.initialized RJ6, Cond.code yJ6_bitCount_0f7a4 cJ6_bitCount_0f7a4 1 (some .int), Cond.constant RJ6 265 (1431655765), Cond.constant RJ6 266 (858993459), Cond.constant RJ6 267 (252645135)]
def wsL_recall : List Cond := .codeWith yL_recall cL_recall 4 (some .int) [(0, 9, 12, 21), (0, 9, 15, 15)] :: ((wsL_recall_r1 ++ wsL_recall_r2) ++ wsX30 ++ wsX00 ++ (vx_atS RX3 62 "java/lang/IllegalStateException" ["java/lang/RuntimeException", "java/lang/Exception"]).filter goodWord ++ (vx_atS RX3 239 "java/lang/IndexOutOfBoundsException" ["java/lang/RuntimeException", "java/lang/Exception"]).filter goodWord)
def wsL_lift_r1 : List Cond := [Cond.classLink RL 21 "java/lang/IndexOutOfBoundsException", Cond.classLink RL 15 "java/lang/IllegalStateException", Cond.methodLink RL 85 yX3_lift, Cond.instanceMethod yX3_lift, Cond.selects RX3 yX3_lift yX3_lift, Cond.initialized RX3, Cond.code yX3_lift cX3_lift 3 (some .int), Cond.classLink RX3 58 "java/lang/IllegalStateException", Cond.initialized "java/lang/IllegalStateException", Cond.fieldLink RX3 19 "Buildlots" "builds" "LBuildlots$Builds;", Cond.methodLink RX3 130 yX3_requireBuild, Cond.instanceMethod yX3_requireBuild, Cond.selects RX3 yX3_requireBuild yX3_requireBuild, Cond.code yX3_requireBuild cX3_requireBuild 2 none, Cond.classLink RX3 235 "java/lang/IndexOutOfBoundsException", Cond.initialized "java/lang/IndexOutOfBoundsException", Cond.methodLink RX3 73 yX3_holds, Cond.static yX3_holds, Cond.code yX3_holds cX3_holds 2 (some .boolean), Cond.methodLink RX3 83 yX3_only, Cond.static yX3_only, Cond.code yX3_only cX3_only 1 (some .int), Cond.instanceMethod yX0_recalled, Cond.initialized RX0]
def wsL_lift_r2 : List Cond := [Cond.selects RX0 yX0_recalled yX0_recalled, Cond.code yX0_recalled cX0_recalled 3 (some .int), Cond.fieldLink RX0 54 "Buildlots$Builds" "marked" "I", Cond.fieldLink RX0 36 "Buildlots$Builds" "count" "I", Cond.fieldLink RX0 18 "Buildlots$Builds" "sources" "[I", Cond.methodLink RX3 91 yJ6_bitCount_0f7a4, Cond.static yJ6_bitCount_0f7a4, Cond.initialized RJ6, Cond.code yJ6_bitCount_0f7a4 cJ6_bitCount_0f7a4 1 (some .int), Cond.constant RJ6 265 (1431655765), Cond.constant RJ6 266 (858993459), Cond.constant RJ6 267 (252645135)]
def wsL_lift : List Cond := .codeWith yL_lift cL_lift 4 (some .int) [(0, 9, 12, 21), (0, 9, 15, 15)] :: ((wsL_lift_r1 ++ wsL_lift_r2) ++ wsX30 ++ wsX00 ++ (vx_atS RX3 62 "java/lang/IllegalStateException" ["java/lang/RuntimeException", "java/lang/Exception"]).filter goodWord ++ (vx_atS RX3 239 "java/lang/IndexOutOfBoundsException" ["java/lang/RuntimeException", "java/lang/Exception"]).filter goodWord)
def wsL_isRecalled_r1 : List Cond := [Cond.classLink RL 21 "java/lang/IndexOutOfBoundsException", Cond.methodLink RL 88 yX3_isRecalled, Cond.instanceMethod yX3_isRecalled, Cond.selects RX3 yX3_isRecalled yX3_isRecalled, Cond.initialized RX3, Cond.code yX3_isRecalled cX3_isRecalled 2 (some .boolean), Cond.fieldLink RX3 19 "Buildlots" "builds" "LBuildlots$Builds;", Cond.methodLink RX3 130 yX3_requireBuild, Cond.instanceMethod yX3_requireBuild, Cond.selects RX3 yX3_requireBuild yX3_requireBuild, Cond.code yX3_requireBuild cX3_requireBuild 2 none, Cond.classLink RX3 235 "java/lang/IndexOutOfBoundsException", Cond.initialized "java/lang/IndexOutOfBoundsException", Cond.instanceMethod yX0_recalled, Cond.initialized RX0, Cond.selects RX0 yX0_recalled yX0_recalled, Cond.code yX0_recalled cX0_recalled 3 (some .int), Cond.fieldLink RX0 54 "Buildlots$Builds" "marked" "I", Cond.fieldLink RX0 36 "Buildlots$Builds" "count" "I", Cond.fieldLink RX0 18 "Buildlots$Builds" "sources" "[I", Cond.static yX3_only, Cond.code yX3_only cX3_only 1 (some .int), Cond.methodLink RX3 73 yX3_holds, Cond.static yX3_holds]
def wsL_isRecalled_r2 : List Cond := [Cond.code yX3_holds cX3_holds 2 (some .boolean), Cond.methodLink RX3 83 yX3_only]
def wsL_isRecalled : List Cond := .codeWith yL_isRecalled cL_isRecalled 4 (some .int) [(0, 16, 19, 21)] :: ((wsL_isRecalled_r1 ++ wsL_isRecalled_r2) ++ wsX30 ++ wsX00 ++ (vx_atS RX3 239 "java/lang/IndexOutOfBoundsException" ["java/lang/RuntimeException", "java/lang/Exception"]).filter goodWord)
def wsL_rebuild : List Cond := .codeWith yL_rebuild cL_rebuild 5 (some .int) [(0, 17, 20, 21), (0, 17, 24, 15)] :: ([.classLink RL 21 "java/lang/IndexOutOfBoundsException", .classLink RL 15 "java/lang/IllegalStateException", .methodLink RL 91 yX3_rebuild, .instanceMethod yX3_rebuild, .selects RX3 yX3_rebuild yX3_rebuild, .initialized RX3, .code yX3_rebuild cX3_rebuild 4 (some .boolean), .classLink RX3 58 "java/lang/IllegalStateException", .initialized "java/lang/IllegalStateException", .fieldLink RX3 19 "Buildlots" "builds" "LBuildlots$Builds;", .methodLink RX3 130 yX3_requireBuild, .instanceMethod yX3_requireBuild, .selects RX3 yX3_requireBuild yX3_requireBuild, .code yX3_requireBuild cX3_requireBuild 2 none, .classLink RX3 235 "java/lang/IndexOutOfBoundsException", .initialized "java/lang/IndexOutOfBoundsException"] ++ wsX30 ++ wsX00 ++ (vx_atS RX3 62 "java/lang/IllegalStateException" ["java/lang/RuntimeException", "java/lang/Exception"]).filter goodWord ++ (vx_atS RX3 239 "java/lang/IndexOutOfBoundsException" ["java/lang/RuntimeException", "java/lang/Exception"]).filter goodWord)
def wsL_share : List Cond := .codeWith yL_share cL_share 4 (some .int) [(0, 9, 12, 21), (0, 9, 15, 58)] :: ([.classLink RL 21 "java/lang/IndexOutOfBoundsException", .classLink RL 58 "java/util/NoSuchElementException", .methodLink RL 94 yX3_share, .instanceMethod yX3_share, .selects RX3 yX3_share yX3_share, .initialized RX3, .code yX3_share cX3_share 3 (some .float), .classLink RX3 197 "java/util/NoSuchElementException", .initialized "java/util/NoSuchElementException", .fieldLink RX3 19 "Buildlots" "builds" "LBuildlots$Builds;", .methodLink RX3 130 yX3_requireBuild, .instanceMethod yX3_requireBuild, .selects RX3 yX3_requireBuild yX3_requireBuild, .code yX3_requireBuild cX3_requireBuild 2 none, .classLink RX3 235 "java/lang/IndexOutOfBoundsException", .initialized "java/lang/IndexOutOfBoundsException"] ++ wsX30 ++ wsX00 ++ (vx_atS RX3 201 "java/util/NoSuchElementException" ["java/lang/RuntimeException", "java/lang/Exception"]).filter goodWord ++ (vx_atS RX3 239 "java/lang/IndexOutOfBoundsException" ["java/lang/RuntimeException", "java/lang/Exception"]).filter goodWord)
def wsL_addMirror : List Cond := .codeWith yL_addMirror cL_addMirror 3 (some .int) [(0, 8, 11, 15)] :: ([.classLink RL 15 "java/lang/IllegalStateException", .methodLink RL 97 yX3_addMirror, .instanceMethod yX3_addMirror, .selects RX3 yX3_addMirror yX3_addMirror, .initialized RX3, .code yX3_addMirror cX3_addMirror 1 (some .int), .classLink RX3 58 "java/lang/IllegalStateException", .initialized "java/lang/IllegalStateException", .fieldLink RX3 26 "Buildlots" "mirrors" "LBuildlots$Mirrors;", .instanceMethod yX2_append, .initialized RX2, .selects RX2 yX2_append yX2_append, .code yX2_append cX2_append 2 (some .int), .fieldLink RX2 18 "Buildlots$Mirrors" "count" "I", .fieldLink RX2 9 "Buildlots$Mirrors" "updatedOn" "[I", .fieldLink RX2 15 "Buildlots$Mirrors" "offered" "[I"] ++ wsX30 ++ wsX20 ++ (vx_atS RX3 62 "java/lang/IllegalStateException" ["java/lang/RuntimeException", "java/lang/Exception"]).filter goodWord)
def wsL_update_r1 : List Cond := [Cond.classLink RL 21 "java/lang/IndexOutOfBoundsException", Cond.methodLink RL 101 yX3_update, Cond.instanceMethod yX3_update, Cond.selects RX3 yX3_update yX3_update, Cond.initialized RX3, Cond.code yX3_update cX3_update 2 (some .int), Cond.fieldLink RX3 26 "Buildlots" "mirrors" "LBuildlots$Mirrors;", Cond.fieldLink RX3 19 "Buildlots" "builds" "LBuildlots$Builds;", Cond.fieldLink RX3 41 "Buildlots" "today" "I", Cond.methodLink RX3 207 yX3_requireMirror, Cond.instanceMethod yX3_requireMirror, Cond.selects RX3 yX3_requireMirror yX3_requireMirror, Cond.code yX3_requireMirror cX3_requireMirror 2 none, Cond.classLink RX3 235 "java/lang/IndexOutOfBoundsException", Cond.initialized "java/lang/IndexOutOfBoundsException", Cond.instanceMethod yX0_all, Cond.initialized RX0, Cond.selects RX0 yX0_all yX0_all, Cond.code yX0_all cX0_all 1 (some .int), Cond.fieldLink RX0 36 "Buildlots$Builds" "count" "I", Cond.static yX3_only, Cond.code yX3_only cX3_only 1 (some .int), Cond.instanceMethod yX0_recalled, Cond.selects RX0 yX0_recalled yX0_recalled]
def wsL_update_r2 : List Cond := [Cond.code yX0_recalled cX0_recalled 3 (some .int), Cond.fieldLink RX0 54 "Buildlots$Builds" "marked" "I", Cond.fieldLink RX0 18 "Buildlots$Builds" "sources" "[I"]
def wsL_update : List Cond := .codeWith yL_update cL_update 4 (some .int) [(0, 9, 12, 21)] :: ((wsL_update_r1 ++ wsL_update_r2) ++ wsX30 ++ wsX20 ++ wsX00 ++ (vx_atS RX3 239 "java/lang/IndexOutOfBoundsException" ["java/lang/RuntimeException", "java/lang/Exception"]).filter goodWord)
def wsL_isExpired : List Cond := .codeWith yL_isExpired cL_isExpired 4 (some .int) [(0, 16, 19, 21)] :: ([.classLink RL 21 "java/lang/IndexOutOfBoundsException", .methodLink RL 104 yX3_isExpired, .instanceMethod yX3_isExpired, .selects RX3 yX3_isExpired yX3_isExpired, .initialized RX3, .code yX3_isExpired cX3_isExpired 2 (some .boolean), .methodLink RX3 207 yX3_requireMirror, .instanceMethod yX3_requireMirror, .selects RX3 yX3_requireMirror yX3_requireMirror, .code yX3_requireMirror cX3_requireMirror 2 none, .classLink RX3 235 "java/lang/IndexOutOfBoundsException", .initialized "java/lang/IndexOutOfBoundsException", .fieldLink RX3 26 "Buildlots" "mirrors" "LBuildlots$Mirrors;", .methodLink RX3 216 yX3_hasExpired, .instanceMethod yX3_hasExpired, .selects RX3 yX3_hasExpired yX3_hasExpired, .code yX3_hasExpired cX3_hasExpired 3 (some .boolean), .fieldLink RX3 41 "Buildlots" "today" "I", .fieldLink RX3 37 "Buildlots" "expiry" "I"] ++ wsX30 ++ wsX20 ++ (vx_atS RX3 239 "java/lang/IndexOutOfBoundsException" ["java/lang/RuntimeException", "java/lang/Exception"]).filter goodWord)
def wsL_setExpiry : List Cond := .codeWith yL_setExpiry cL_setExpiry 4 (some .int) [(0, 9, 12, 13)] :: ([.classLink RL 13 "java/lang/IllegalArgumentException", .methodLink RL 107 yX3_setExpiry, .instanceMethod yX3_setExpiry, .selects RX3 yX3_setExpiry yX3_setExpiry, .initialized RX3, .code yX3_setExpiry cX3_setExpiry 3 (some .int), .classLink RX3 48 "java/lang/IllegalArgumentException", .initialized "java/lang/IllegalArgumentException", .fieldLink RX3 37 "Buildlots" "expiry" "I"] ++ wsX30 ++ (vx_atS RX3 52 "java/lang/IllegalArgumentException" ["java/lang/RuntimeException", "java/lang/Exception"]).filter goodWord)
def wsL_install_r1 : List Cond := [Cond.classLink RL 21 "java/lang/IndexOutOfBoundsException", Cond.classLink RL 13 "java/lang/IllegalArgumentException", Cond.classLink RL 40 "java/lang/UnsupportedOperationException", Cond.classLink RL 58 "java/util/NoSuchElementException", Cond.methodLink RL 110 yX3_install, Cond.instanceMethod yX3_install, Cond.selects RX3 yX3_install yX3_install, Cond.initialized RX3, Cond.code yX3_install cX3_install 3 (some .int), Cond.classLink RX3 121 "java/lang/UnsupportedOperationException", Cond.initialized "java/lang/UnsupportedOperationException", Cond.fieldLink RX3 19 "Buildlots" "builds" "LBuildlots$Builds;", Cond.fieldLink RX3 26 "Buildlots" "mirrors" "LBuildlots$Mirrors;", Cond.methodLink RX3 207 yX3_requireMirror, Cond.instanceMethod yX3_requireMirror, Cond.selects RX3 yX3_requireMirror yX3_requireMirror, Cond.code yX3_requireMirror cX3_requireMirror 2 none, Cond.classLink RX3 235 "java/lang/IndexOutOfBoundsException", Cond.initialized "java/lang/IndexOutOfBoundsException", Cond.methodLink RX3 108 yX3_requireName, Cond.instanceMethod yX3_requireName, Cond.selects RX3 yX3_requireName yX3_requireName, Cond.code yX3_requireName cX3_requireName 2 none, Cond.classLink RX3 48 "java/lang/IllegalArgumentException"]
def wsL_install_r2 : List Cond := [Cond.initialized "java/lang/IllegalArgumentException", Cond.methodLink RX3 216 yX3_hasExpired, Cond.instanceMethod yX3_hasExpired, Cond.selects RX3 yX3_hasExpired yX3_hasExpired, Cond.code yX3_hasExpired cX3_hasExpired 3 (some .boolean), Cond.fieldLink RX3 41 "Buildlots" "today" "I", Cond.fieldLink RX3 37 "Buildlots" "expiry" "I", Cond.methodLink RX3 79 yX3_trustedBuilds, Cond.instanceMethod yX3_trustedBuilds, Cond.selects RX3 yX3_trustedBuilds yX3_trustedBuilds, Cond.code yX3_trustedBuilds cX3_trustedBuilds 3 (some .int), Cond.methodLink RX3 176 yX3_suffices, Cond.instanceMethod yX3_suffices, Cond.selects RX3 yX3_suffices yX3_suffices, Cond.code yX3_suffices cX3_suffices 3 (some .boolean), Cond.fieldLink RX3 34 "Buildlots" "thresholds" "[I", Cond.constantFloat RX3 230 (1120403456), Cond.methodLink RX3 168 yX3_scoreFrom, Cond.instanceMethod yX3_scoreFrom, Cond.selects RX3 yX3_scoreFrom yX3_scoreFrom, Cond.code yX3_scoreFrom cX3_scoreFrom 4 (some .float), Cond.fieldLink RX3 30 "Buildlots" "weights" "[I", Cond.methodLink RX3 73 yX3_holds, Cond.static yX3_holds]
def wsL_install_r3 : List Cond := [Cond.code yX3_holds cX3_holds 2 (some .boolean), Cond.methodLink RX3 83 yX3_only, Cond.static yX3_only, Cond.code yX3_only cX3_only 1 (some .int), Cond.instanceMethod yX0_newestOf, Cond.initialized RX0, Cond.selects RX0 yX0_newestOf yX0_newestOf, Cond.code yX0_newestOf cX0_newestOf 5 (some .int), Cond.fieldLink RX0 36 "Buildlots$Builds" "count" "I", Cond.fieldLink RX0 9 "Buildlots$Builds" "names" "[I", Cond.methodLink RX3 146 yX3_requireFound, Cond.static yX3_requireFound, Cond.code yX3_requireFound cX3_requireFound 1 (some .int), Cond.classLink RX3 197 "java/util/NoSuchElementException", Cond.initialized "java/util/NoSuchElementException"]
def wsL_install : List Cond := .codeWith yL_install cL_install 5 (some .int) [(0, 10, 13, 21), (0, 10, 17, 13), (0, 10, 21, 40), (0, 10, 25, 58)] :: ((wsL_install_r1 ++ (wsL_install_r2 ++ wsL_install_r3)) ++ wsX30 ++ wsX20 ++ wsX00 ++ (vx_atS RX3 125 "java/lang/UnsupportedOperationException" ["java/lang/RuntimeException", "java/lang/Exception"]).filter goodWord ++ (vx_atS RX3 239 "java/lang/IndexOutOfBoundsException" ["java/lang/RuntimeException", "java/lang/Exception"]).filter goodWord ++ (vx_atS RX3 52 "java/lang/IllegalArgumentException" ["java/lang/RuntimeException", "java/lang/Exception"]).filter goodWord ++ (vx_atS RX3 201 "java/util/NoSuchElementException" ["java/lang/RuntimeException", "java/lang/Exception"]).filter goodWord)
def wsL_pass_r1 : List Cond := [Cond.classLink RL 13 "java/lang/IllegalArgumentException", Cond.methodLink RL 113 yX3_pass, Cond.instanceMethod yX3_pass, Cond.selects RX3 yX3_pass yX3_pass, Cond.initialized RX3, Cond.code yX3_pass cX3_pass 3 (some .int), Cond.classLink RX3 48 "java/lang/IllegalArgumentException", Cond.initialized "java/lang/IllegalArgumentException", Cond.fieldLink RX3 41 "Buildlots" "today" "I", Cond.fieldLink RX3 19 "Buildlots" "builds" "LBuildlots$Builds;", Cond.fieldLink RX3 10 "Buildlots" "keys" "LBuildlots$Keys;", Cond.methodLink RX3 79 yX3_trustedBuilds, Cond.instanceMethod yX3_trustedBuilds, Cond.selects RX3 yX3_trustedBuilds yX3_trustedBuilds, Cond.code yX3_trustedBuilds cX3_trustedBuilds 3 (some .int), Cond.methodLink RX3 176 yX3_suffices, Cond.instanceMethod yX3_suffices, Cond.selects RX3 yX3_suffices yX3_suffices, Cond.code yX3_suffices cX3_suffices 3 (some .boolean), Cond.fieldLink RX3 34 "Buildlots" "thresholds" "[I", Cond.constantFloat RX3 230 (1120403456), Cond.methodLink RX3 168 yX3_scoreFrom, Cond.instanceMethod yX3_scoreFrom, Cond.selects RX3 yX3_scoreFrom yX3_scoreFrom]
def wsL_pass_r2 : List Cond := [Cond.code yX3_scoreFrom cX3_scoreFrom 4 (some .float), Cond.fieldLink RX3 30 "Buildlots" "weights" "[I", Cond.methodLink RX3 73 yX3_holds, Cond.static yX3_holds, Cond.code yX3_holds cX3_holds 2 (some .boolean), Cond.methodLink RX3 83 yX3_only, Cond.static yX3_only, Cond.code yX3_only cX3_only 1 (some .int), Cond.instanceMethod yX0_keepVouchers, Cond.initialized RX0, Cond.selects RX0 yX0_keepVouchers yX0_keepVouchers, Cond.code yX0_keepVouchers cX0_keepVouchers 5 none, Cond.fieldLink RX0 36 "Buildlots$Builds" "count" "I", Cond.fieldLink RX0 27 "Buildlots$Builds" "vouchers" "[I", Cond.fieldLink RX0 24 "Buildlots$Builds" "attesters" "[I", Cond.instanceMethod yX1_live, Cond.initialized RX1, Cond.selects RX1 yX1_live yX1_live, Cond.code yX1_live cX1_live 4 (some .int), Cond.fieldLink RX1 21 "Buildlots$Keys" "count" "I", Cond.methodLink RX1 32 yX1_liveOn, Cond.instanceMethod yX1_liveOn, Cond.selects RX1 yX1_liveOn yX1_liveOn, Cond.code yX1_liveOn cX1_liveOn 3 (some .boolean)]
def wsL_pass_r3 : List Cond := [Cond.fieldLink RX1 15 "Buildlots$Keys" "firsts" "[I", Cond.fieldLink RX1 18 "Buildlots$Keys" "lasts" "[I", Cond.fieldLink RX1 25 "Buildlots$Keys" "lost" "I", Cond.instanceMethod yX1_signersOf, Cond.selects RX1 yX1_signersOf yX1_signersOf, Cond.code yX1_signersOf cX1_signersOf 4 (some .int), Cond.fieldLink RX1 9 "Buildlots$Keys" "signers" "[I", Cond.methodLink RX3 91 yJ6_bitCount_0f7a4, Cond.static yJ6_bitCount_0f7a4, Cond.initialized RJ6, Cond.code yJ6_bitCount_0f7a4 cJ6_bitCount_0f7a4 1 (some .int), Cond.constant RJ6 265 (1431655765), Cond.constant RJ6 266 (858993459), Cond.constant RJ6 267 (252645135)]
def wsL_pass : List Cond := .codeWith yL_pass cL_pass 4 (some .int) [(0, 9, 12, 13)] :: ((wsL_pass_r1 ++ (wsL_pass_r2 ++ wsL_pass_r3)) ++ wsX30 ++ wsX00 ++ wsX10 ++ (vx_atS RX3 52 "java/lang/IllegalArgumentException" ["java/lang/RuntimeException", "java/lang/Exception"]).filter goodWord)
abbrev vwCl : List vw_C := [(RX0, TX0, 10), (RX1, TX1, 5), (RX2, TX2, 3), (RX3, TX3, 7), (RX4, TX4, 23)]
end
section
theorem dX0_init_0 : decode cX0_init 0 = .ok (.aload_n 0, 1) := by decide +kernel
theorem dX0_init_1 : decode cX0_init 1 = .ok (.invokespecial 3, 3) := by decide +kernel
theorem dX0_init_4 : decode cX0_init 4 = .ok (.aload_n 0, 1) := by decide +kernel
theorem dX0_init_5 : decode cX0_init 5 = .ok (.bipush 24, 2) := by decide +kernel
theorem dX0_init_7 : decode cX0_init 7 = .ok (.newarray .int, 2) := by decide +kernel
theorem dX0_init_9 : decode cX0_init 9 = .ok (.putfield 9, 3) := by decide +kernel
theorem dX0_init_12 : decode cX0_init 12 = .ok (.aload_n 0, 1) := by decide +kernel
theorem dX0_init_13 : decode cX0_init 13 = .ok (.bipush 24, 2) := by decide +kernel
theorem dX0_init_15 : decode cX0_init 15 = .ok (.newarray .int, 2) := by decide +kernel
theorem dX0_init_17 : decode cX0_init 17 = .ok (.putfield 15, 3) := by decide +kernel
theorem dX0_init_20 : decode cX0_init 20 = .ok (.aload_n 0, 1) := by decide +kernel
theorem dX0_init_21 : decode cX0_init 21 = .ok (.bipush 24, 2) := by decide +kernel
theorem dX0_init_23 : decode cX0_init 23 = .ok (.newarray .int, 2) := by decide +kernel
theorem dX0_init_25 : decode cX0_init 25 = .ok (.putfield 18, 3) := by decide +kernel
theorem dX0_init_28 : decode cX0_init 28 = .ok (.aload_n 0, 1) := by decide +kernel
theorem dX0_init_29 : decode cX0_init 29 = .ok (.bipush 24, 2) := by decide +kernel
theorem dX0_init_31 : decode cX0_init 31 = .ok (.newarray .int, 2) := by decide +kernel
theorem dX0_init_33 : decode cX0_init 33 = .ok (.putfield 21, 3) := by decide +kernel
theorem dX0_init_36 : decode cX0_init 36 = .ok (.aload_n 0, 1) := by decide +kernel
theorem dX0_init_37 : decode cX0_init 37 = .ok (.bipush 24, 2) := by decide +kernel
theorem dX0_init_39 : decode cX0_init 39 = .ok (.newarray .int, 2) := by decide +kernel
theorem dX0_init_41 : decode cX0_init 41 = .ok (.putfield 24, 3) := by decide +kernel
theorem dX0_init_44 : decode cX0_init 44 = .ok (.aload_n 0, 1) := by decide +kernel
theorem dX0_init_45 : decode cX0_init 45 = .ok (.bipush 24, 2) := by decide +kernel
theorem dX0_init_47 : decode cX0_init 47 = .ok (.newarray .int, 2) := by decide +kernel
theorem dX0_init_49 : decode cX0_init 49 = .ok (.putfield 27, 3) := by decide +kernel
theorem dX0_init_52 : decode cX0_init 52 = .ok (.aload_n 0, 1) := by decide +kernel
theorem dX0_init_53 : decode cX0_init 53 = .ok (.bipush 24, 2) := by decide +kernel
theorem dX0_init_55 : decode cX0_init 55 = .ok (.newarray .int, 2) := by decide +kernel
theorem dX0_init_57 : decode cX0_init 57 = .ok (.putfield 30, 3) := by decide +kernel
theorem dX0_init_60 : decode cX0_init 60 = .ok (.aload_n 0, 1) := by decide +kernel
theorem dX0_init_61 : decode cX0_init 61 = .ok (.bipush 24, 2) := by decide +kernel
theorem dX0_init_63 : decode cX0_init 63 = .ok (.newarray .int, 2) := by decide +kernel
theorem dX0_init_65 : decode cX0_init 65 = .ok (.putfield 33, 3) := by decide +kernel
theorem dX0_init_68 : decode cX0_init 68 = .ok (.return_, 1) := by decide +kernel
set_option maxRecDepth 20000 in
theorem ggX0_append_X0_countOf : GoodIn wsX0_append wsX0_countOf := goodIn_r _ [10, 1, 2, 21, 22, 23, 24, 25, 26, 27, 28, 29, 30] (by decide +kernel) (by decide +kernel)
set_option maxRecDepth 20000 in
theorem gX0_append_X0_countOf : GoodIn wsX0_append (wsV RX0 40 RX0 yX0_countOf wsX0_countOf) := goodIn_app (goodIn_of _ (by decide +kernel)) ggX0_append_X0_countOf
set_option maxRecDepth 20000 in
theorem ggX0_append_X0_withTheirSources : GoodIn wsX0_append wsX0_withTheirSources := goodIn_r _ [14, 1, 4, 15, 16, 17, 18, 19, 20, 21, 22, 23, 24, 25, 26, 27, 28, 29, 30] (by decide +kernel) (by decide +kernel)
set_option maxRecDepth 20000 in
theorem gX0_append_X0_withTheirSources : GoodIn wsX0_append (wsV RX0 44 RX0 yX0_withTheirSources wsX0_withTheirSources) := goodIn_app (goodIn_of _ (by decide +kernel)) ggX0_append_X0_withTheirSources
theorem dX0_append_0 : decode cX0_append 0 = .ok (.aload_n 0, 1) := by decide +kernel
theorem dX0_append_1 : decode cX0_append 1 = .ok (.getfield 36, 3) := by decide +kernel
theorem dX0_append_4 : decode cX0_append 4 = .ok (.istore 4, 2) := by decide +kernel
theorem dX0_append_6 : decode cX0_append 6 = .ok (.aload_n 0, 1) := by decide +kernel
theorem dX0_append_7 : decode cX0_append 7 = .ok (.getfield 9, 3) := by decide +kernel
theorem dX0_append_10 : decode cX0_append 10 = .ok (.iload 4, 2) := by decide +kernel
theorem dX0_append_12 : decode cX0_append 12 = .ok (.iload_n 1, 1) := by decide +kernel
theorem dX0_append_13 : decode cX0_append 13 = .ok (.iastore, 1) := by decide +kernel
theorem dX0_append_14 : decode cX0_append 14 = .ok (.aload_n 0, 1) := by decide +kernel
theorem dX0_append_15 : decode cX0_append 15 = .ok (.getfield 15, 3) := by decide +kernel
theorem dX0_append_18 : decode cX0_append 18 = .ok (.iload 4, 2) := by decide +kernel
theorem dX0_append_20 : decode cX0_append 20 = .ok (.iconst 1, 1) := by decide +kernel
theorem dX0_append_21 : decode cX0_append 21 = .ok (.aload_n 0, 1) := by decide +kernel
theorem dX0_append_22 : decode cX0_append 22 = .ok (.iload_n 1, 1) := by decide +kernel
theorem dX0_append_23 : decode cX0_append 23 = .ok (.invokevirtual 40, 3) := by decide +kernel
theorem dX0_append_26 : decode cX0_append 26 = .ok (.iadd, 1) := by decide +kernel
theorem dX0_append_27 : decode cX0_append 27 = .ok (.iastore, 1) := by decide +kernel
theorem dX0_append_28 : decode cX0_append 28 = .ok (.aload_n 0, 1) := by decide +kernel
theorem dX0_append_29 : decode cX0_append 29 = .ok (.getfield 18, 3) := by decide +kernel
theorem dX0_append_32 : decode cX0_append 32 = .ok (.iload 4, 2) := by decide +kernel
theorem dX0_append_34 : decode cX0_append 34 = .ok (.aload_n 0, 1) := by decide +kernel
theorem dX0_append_35 : decode cX0_append 35 = .ok (.iload_n 2, 1) := by decide +kernel
theorem dX0_append_36 : decode cX0_append 36 = .ok (.invokevirtual 44, 3) := by decide +kernel
theorem dX0_append_39 : decode cX0_append 39 = .ok (.iastore, 1) := by decide +kernel
theorem dX0_append_40 : decode cX0_append 40 = .ok (.aload_n 0, 1) := by decide +kernel
theorem dX0_append_41 : decode cX0_append 41 = .ok (.getfield 21, 3) := by decide +kernel
theorem dX0_append_44 : decode cX0_append 44 = .ok (.iload 4, 2) := by decide +kernel
theorem dX0_append_46 : decode cX0_append 46 = .ok (.iload_n 3, 1) := by decide +kernel
theorem dX0_append_47 : decode cX0_append 47 = .ok (.iastore, 1) := by decide +kernel
theorem dX0_append_48 : decode cX0_append 48 = .ok (.aload_n 0, 1) := by decide +kernel
theorem dX0_append_49 : decode cX0_append 49 = .ok (.dup, 1) := by decide +kernel
theorem dX0_append_50 : decode cX0_append 50 = .ok (.getfield 36, 3) := by decide +kernel
theorem dX0_append_53 : decode cX0_append 53 = .ok (.iconst 1, 1) := by decide +kernel
theorem dX0_append_54 : decode cX0_append 54 = .ok (.iadd, 1) := by decide +kernel
theorem dX0_append_55 : decode cX0_append 55 = .ok (.putfield 36, 3) := by decide +kernel
theorem dX0_append_58 : decode cX0_append 58 = .ok (.iload 4, 2) := by decide +kernel
theorem dX0_append_60 : decode cX0_append 60 = .ok (.ireturn, 1) := by decide +kernel
theorem dX0_countOf_0 : decode cX0_countOf 0 = .ok (.iconst 0, 1) := by decide +kernel
theorem dX0_countOf_1 : decode cX0_countOf 1 = .ok (.istore_n 2, 1) := by decide +kernel
theorem dX0_countOf_2 : decode cX0_countOf 2 = .ok (.iconst 0, 1) := by decide +kernel
theorem dX0_countOf_3 : decode cX0_countOf 3 = .ok (.istore_n 3, 1) := by decide +kernel
theorem dX0_countOf_4 : decode cX0_countOf 4 = .ok (.iload_n 3, 1) := by decide +kernel
theorem dX0_countOf_5 : decode cX0_countOf 5 = .ok (.aload_n 0, 1) := by decide +kernel
theorem dX0_countOf_6 : decode cX0_countOf 6 = .ok (.getfield 36, 3) := by decide +kernel
theorem dX0_countOf_9 : decode cX0_countOf 9 = .ok (.if_icmp .ge 22, 3) := by decide +kernel
theorem dX0_countOf_12 : decode cX0_countOf 12 = .ok (.aload_n 0, 1) := by decide +kernel
theorem dX0_countOf_13 : decode cX0_countOf 13 = .ok (.getfield 9, 3) := by decide +kernel
theorem dX0_countOf_16 : decode cX0_countOf 16 = .ok (.iload_n 3, 1) := by decide +kernel
theorem dX0_countOf_17 : decode cX0_countOf 17 = .ok (.iaload, 1) := by decide +kernel
theorem dX0_countOf_18 : decode cX0_countOf 18 = .ok (.iload_n 1, 1) := by decide +kernel
theorem dX0_countOf_19 : decode cX0_countOf 19 = .ok (.if_icmp .ne 6, 3) := by decide +kernel
theorem dX0_countOf_22 : decode cX0_countOf 22 = .ok (.iinc 2 1, 3) := by decide +kernel
theorem dX0_countOf_25 : decode cX0_countOf 25 = .ok (.iinc 3 1, 3) := by decide +kernel
theorem dX0_countOf_28 : decode cX0_countOf 28 = .ok (.goto (-24), 3) := by decide +kernel
theorem dX0_countOf_31 : decode cX0_countOf 31 = .ok (.iload_n 2, 1) := by decide +kernel
theorem dX0_countOf_32 : decode cX0_countOf 32 = .ok (.ireturn, 1) := by decide +kernel
set_option maxRecDepth 20000 in
theorem ggX0_withTheirSources_X3_holds : GoodIn wsX0_withTheirSources wsX3_holds := goodIn_r _ [5, 6, 7, 4, 8] (by decide +kernel) (by decide +kernel)
set_option maxRecDepth 20000 in
theorem gX0_withTheirSources_X3_holds_n47 : GoodIn wsX0_withTheirSources (wsX3_holds) := ggX0_withTheirSources_X3_holds
theorem dX0_withTheirSources_0 : decode cX0_withTheirSources 0 = .ok (.iload_n 1, 1) := by decide +kernel
theorem dX0_withTheirSources_1 : decode cX0_withTheirSources 1 = .ok (.istore_n 2, 1) := by decide +kernel
theorem dX0_withTheirSources_2 : decode cX0_withTheirSources 2 = .ok (.iconst 0, 1) := by decide +kernel
theorem dX0_withTheirSources_3 : decode cX0_withTheirSources 3 = .ok (.istore_n 3, 1) := by decide +kernel
theorem dX0_withTheirSources_4 : decode cX0_withTheirSources 4 = .ok (.iload_n 3, 1) := by decide +kernel
theorem dX0_withTheirSources_5 : decode cX0_withTheirSources 5 = .ok (.aload_n 0, 1) := by decide +kernel
theorem dX0_withTheirSources_6 : decode cX0_withTheirSources 6 = .ok (.getfield 36, 3) := by decide +kernel
theorem dX0_withTheirSources_9 : decode cX0_withTheirSources 9 = .ok (.if_icmp .ge 26, 3) := by decide +kernel
theorem dX0_withTheirSources_12 : decode cX0_withTheirSources 12 = .ok (.iload_n 1, 1) := by decide +kernel
theorem dX0_withTheirSources_13 : decode cX0_withTheirSources 13 = .ok (.iload_n 3, 1) := by decide +kernel
theorem dX0_withTheirSources_14 : decode cX0_withTheirSources 14 = .ok (.invokestatic 47, 3) := by decide +kernel
theorem dX0_withTheirSources_17 : decode cX0_withTheirSources 17 = .ok (.ifCond .eq 12, 3) := by decide +kernel
theorem dX0_withTheirSources_20 : decode cX0_withTheirSources 20 = .ok (.iload_n 2, 1) := by decide +kernel
theorem dX0_withTheirSources_21 : decode cX0_withTheirSources 21 = .ok (.aload_n 0, 1) := by decide +kernel
theorem dX0_withTheirSources_22 : decode cX0_withTheirSources 22 = .ok (.getfield 18, 3) := by decide +kernel
theorem dX0_withTheirSources_25 : decode cX0_withTheirSources 25 = .ok (.iload_n 3, 1) := by decide +kernel
theorem dX0_withTheirSources_26 : decode cX0_withTheirSources 26 = .ok (.iaload, 1) := by decide +kernel
theorem dX0_withTheirSources_27 : decode cX0_withTheirSources 27 = .ok (.ior, 1) := by decide +kernel
theorem dX0_withTheirSources_28 : decode cX0_withTheirSources 28 = .ok (.istore_n 2, 1) := by decide +kernel
theorem dX0_withTheirSources_29 : decode cX0_withTheirSources 29 = .ok (.iinc 3 1, 3) := by decide +kernel
theorem dX0_withTheirSources_32 : decode cX0_withTheirSources 32 = .ok (.goto (-28), 3) := by decide +kernel
theorem dX0_withTheirSources_35 : decode cX0_withTheirSources 35 = .ok (.iload_n 2, 1) := by decide +kernel
theorem dX0_withTheirSources_36 : decode cX0_withTheirSources 36 = .ok (.ireturn, 1) := by decide +kernel
set_option maxRecDepth 20000 in
theorem ggX0_all_X3_only : GoodIn wsX0_all wsX3_only := goodIn_r _ [4] (by decide +kernel) (by decide +kernel)
set_option maxRecDepth 20000 in
theorem gX0_all_X3_only_n51 : GoodIn wsX0_all (wsX3_only) := ggX0_all_X3_only
theorem dX0_all_0 : decode cX0_all 0 = .ok (.aload_n 0, 1) := by decide +kernel
theorem dX0_all_1 : decode cX0_all 1 = .ok (.getfield 36, 3) := by decide +kernel
theorem dX0_all_4 : decode cX0_all 4 = .ok (.invokestatic 51, 3) := by decide +kernel
theorem dX0_all_7 : decode cX0_all 7 = .ok (.iconst 1, 1) := by decide +kernel
theorem dX0_all_8 : decode cX0_all 8 = .ok (.isub, 1) := by decide +kernel
theorem dX0_all_9 : decode cX0_all 9 = .ok (.ireturn, 1) := by decide +kernel
set_option maxRecDepth 20000 in
theorem ggX0_recalled_X3_only : GoodIn wsX0_recalled wsX3_only := goodIn_r _ [6] (by decide +kernel) (by decide +kernel)
set_option maxRecDepth 20000 in
theorem gX0_recalled_X3_only_n51 : GoodIn wsX0_recalled (wsX3_only) := ggX0_recalled_X3_only
theorem dX0_recalled_0 : decode cX0_recalled 0 = .ok (.aload_n 0, 1) := by decide +kernel
theorem dX0_recalled_1 : decode cX0_recalled 1 = .ok (.getfield 54, 3) := by decide +kernel
theorem dX0_recalled_4 : decode cX0_recalled 4 = .ok (.istore_n 1, 1) := by decide +kernel
theorem dX0_recalled_5 : decode cX0_recalled 5 = .ok (.iconst 0, 1) := by decide +kernel
theorem dX0_recalled_6 : decode cX0_recalled 6 = .ok (.istore_n 2, 1) := by decide +kernel
theorem dX0_recalled_7 : decode cX0_recalled 7 = .ok (.iload_n 2, 1) := by decide +kernel
theorem dX0_recalled_8 : decode cX0_recalled 8 = .ok (.aload_n 0, 1) := by decide +kernel
theorem dX0_recalled_9 : decode cX0_recalled 9 = .ok (.getfield 36, 3) := by decide +kernel
theorem dX0_recalled_12 : decode cX0_recalled 12 = .ok (.if_icmp .ge 30, 3) := by decide +kernel
theorem dX0_recalled_15 : decode cX0_recalled 15 = .ok (.aload_n 0, 1) := by decide +kernel
theorem dX0_recalled_16 : decode cX0_recalled 16 = .ok (.getfield 18, 3) := by decide +kernel
theorem dX0_recalled_19 : decode cX0_recalled 19 = .ok (.iload_n 2, 1) := by decide +kernel
theorem dX0_recalled_20 : decode cX0_recalled 20 = .ok (.iaload, 1) := by decide +kernel
theorem dX0_recalled_21 : decode cX0_recalled 21 = .ok (.aload_n 0, 1) := by decide +kernel
theorem dX0_recalled_22 : decode cX0_recalled 22 = .ok (.getfield 54, 3) := by decide +kernel
theorem dX0_recalled_25 : decode cX0_recalled 25 = .ok (.iand, 1) := by decide +kernel
theorem dX0_recalled_26 : decode cX0_recalled 26 = .ok (.ifCond .eq 10, 3) := by decide +kernel
theorem dX0_recalled_29 : decode cX0_recalled 29 = .ok (.iload_n 1, 1) := by decide +kernel
theorem dX0_recalled_30 : decode cX0_recalled 30 = .ok (.iload_n 2, 1) := by decide +kernel
theorem dX0_recalled_31 : decode cX0_recalled 31 = .ok (.invokestatic 51, 3) := by decide +kernel
theorem dX0_recalled_34 : decode cX0_recalled 34 = .ok (.ior, 1) := by decide +kernel
theorem dX0_recalled_35 : decode cX0_recalled 35 = .ok (.istore_n 1, 1) := by decide +kernel
theorem dX0_recalled_36 : decode cX0_recalled 36 = .ok (.iinc 2 1, 3) := by decide +kernel
theorem dX0_recalled_39 : decode cX0_recalled 39 = .ok (.goto (-32), 3) := by decide +kernel
theorem dX0_recalled_42 : decode cX0_recalled 42 = .ok (.iload_n 1, 1) := by decide +kernel
theorem dX0_recalled_43 : decode cX0_recalled 43 = .ok (.ireturn, 1) := by decide +kernel
set_option maxRecDepth 20000 in
theorem ggX0_newestOf_X3_holds : GoodIn wsX0_newestOf wsX3_holds := goodIn_r _ [5, 6, 7, 4, 8] (by decide +kernel) (by decide +kernel)
set_option maxRecDepth 20000 in
theorem gX0_newestOf_X3_holds_n47 : GoodIn wsX0_newestOf (wsX3_holds) := ggX0_newestOf_X3_holds
theorem dX0_newestOf_0 : decode cX0_newestOf 0 = .ok (.iconst (-1), 1) := by decide +kernel
theorem dX0_newestOf_1 : decode cX0_newestOf 1 = .ok (.istore_n 3, 1) := by decide +kernel
theorem dX0_newestOf_2 : decode cX0_newestOf 2 = .ok (.iconst 0, 1) := by decide +kernel
theorem dX0_newestOf_3 : decode cX0_newestOf 3 = .ok (.istore 4, 2) := by decide +kernel
theorem dX0_newestOf_5 : decode cX0_newestOf 5 = .ok (.iload 4, 2) := by decide +kernel
theorem dX0_newestOf_7 : decode cX0_newestOf 7 = .ok (.aload_n 0, 1) := by decide +kernel
theorem dX0_newestOf_8 : decode cX0_newestOf 8 = .ok (.getfield 36, 3) := by decide +kernel
theorem dX0_newestOf_11 : decode cX0_newestOf 11 = .ok (.if_icmp .ge 32, 3) := by decide +kernel
theorem dX0_newestOf_14 : decode cX0_newestOf 14 = .ok (.aload_n 0, 1) := by decide +kernel
theorem dX0_newestOf_15 : decode cX0_newestOf 15 = .ok (.getfield 9, 3) := by decide +kernel
theorem dX0_newestOf_18 : decode cX0_newestOf 18 = .ok (.iload 4, 2) := by decide +kernel
theorem dX0_newestOf_20 : decode cX0_newestOf 20 = .ok (.iaload, 1) := by decide +kernel
theorem dX0_newestOf_21 : decode cX0_newestOf 21 = .ok (.iload_n 1, 1) := by decide +kernel
theorem dX0_newestOf_22 : decode cX0_newestOf 22 = .ok (.if_icmp .ne 15, 3) := by decide +kernel
theorem dX0_newestOf_25 : decode cX0_newestOf 25 = .ok (.iload_n 2, 1) := by decide +kernel
theorem dX0_newestOf_26 : decode cX0_newestOf 26 = .ok (.iload 4, 2) := by decide +kernel
theorem dX0_newestOf_28 : decode cX0_newestOf 28 = .ok (.invokestatic 47, 3) := by decide +kernel
theorem dX0_newestOf_31 : decode cX0_newestOf 31 = .ok (.ifCond .eq 6, 3) := by decide +kernel
theorem dX0_newestOf_34 : decode cX0_newestOf 34 = .ok (.iload 4, 2) := by decide +kernel
theorem dX0_newestOf_36 : decode cX0_newestOf 36 = .ok (.istore_n 3, 1) := by decide +kernel
theorem dX0_newestOf_37 : decode cX0_newestOf 37 = .ok (.iinc 4 1, 3) := by decide +kernel
theorem dX0_newestOf_40 : decode cX0_newestOf 40 = .ok (.goto (-35), 3) := by decide +kernel
theorem dX0_newestOf_43 : decode cX0_newestOf 43 = .ok (.iload_n 3, 1) := by decide +kernel
theorem dX0_newestOf_44 : decode cX0_newestOf 44 = .ok (.ireturn, 1) := by decide +kernel
set_option maxRecDepth 20000 in
theorem ggX0_keepVouchers_X1_live : GoodIn wsX0_keepVouchers wsX1_live := goodIn_r _ [7, 8, 9, 10, 11, 5, 12, 13, 14, 15, 16, 17, 18, 19, 20, 21, 36, 37, 38, 39, 40] (by decide +kernel) (by decide +kernel)
set_option maxRecDepth 20000 in
theorem gX0_keepVouchers_X1_live_n57 : GoodIn wsX0_keepVouchers (wsX1_live) := ggX0_keepVouchers_X1_live
set_option maxRecDepth 20000 in
theorem ggX0_keepVouchers_X1_signersOf : GoodIn wsX0_keepVouchers wsX1_signersOf := goodIn_r _ [24, 8, 25, 16, 17, 18, 19, 20, 21, 36, 37, 38, 39, 40] (by decide +kernel) (by decide +kernel)
set_option maxRecDepth 20000 in
theorem gX0_keepVouchers_X1_signersOf_n62 : GoodIn wsX0_keepVouchers (wsX1_signersOf) := ggX0_keepVouchers_X1_signersOf
theorem dX0_keepVouchers_0 : decode cX0_keepVouchers 0 = .ok (.aload_n 1, 1) := by decide +kernel
theorem dX0_keepVouchers_1 : decode cX0_keepVouchers 1 = .ok (.iload_n 2, 1) := by decide +kernel
theorem dX0_keepVouchers_2 : decode cX0_keepVouchers 2 = .ok (.invokevirtual 57, 3) := by decide +kernel
theorem dX0_keepVouchers_5 : decode cX0_keepVouchers 5 = .ok (.istore_n 3, 1) := by decide +kernel
theorem dX0_keepVouchers_6 : decode cX0_keepVouchers 6 = .ok (.iconst 0, 1) := by decide +kernel
theorem dX0_keepVouchers_7 : decode cX0_keepVouchers 7 = .ok (.istore 4, 2) := by decide +kernel
theorem dX0_keepVouchers_9 : decode cX0_keepVouchers 9 = .ok (.iload 4, 2) := by decide +kernel
theorem dX0_keepVouchers_11 : decode cX0_keepVouchers 11 = .ok (.aload_n 0, 1) := by decide +kernel
theorem dX0_keepVouchers_12 : decode cX0_keepVouchers 12 = .ok (.getfield 36, 3) := by decide +kernel
theorem dX0_keepVouchers_15 : decode cX0_keepVouchers 15 = .ok (.if_icmp .ge 29, 3) := by decide +kernel
theorem dX0_keepVouchers_18 : decode cX0_keepVouchers 18 = .ok (.aload_n 0, 1) := by decide +kernel
theorem dX0_keepVouchers_19 : decode cX0_keepVouchers 19 = .ok (.getfield 27, 3) := by decide +kernel
theorem dX0_keepVouchers_22 : decode cX0_keepVouchers 22 = .ok (.iload 4, 2) := by decide +kernel
theorem dX0_keepVouchers_24 : decode cX0_keepVouchers 24 = .ok (.aload_n 1, 1) := by decide +kernel
theorem dX0_keepVouchers_25 : decode cX0_keepVouchers 25 = .ok (.aload_n 0, 1) := by decide +kernel
theorem dX0_keepVouchers_26 : decode cX0_keepVouchers 26 = .ok (.getfield 24, 3) := by decide +kernel
theorem dX0_keepVouchers_29 : decode cX0_keepVouchers 29 = .ok (.iload 4, 2) := by decide +kernel
theorem dX0_keepVouchers_31 : decode cX0_keepVouchers 31 = .ok (.iaload, 1) := by decide +kernel
theorem dX0_keepVouchers_32 : decode cX0_keepVouchers 32 = .ok (.iload_n 3, 1) := by decide +kernel
theorem dX0_keepVouchers_33 : decode cX0_keepVouchers 33 = .ok (.iand, 1) := by decide +kernel
theorem dX0_keepVouchers_34 : decode cX0_keepVouchers 34 = .ok (.invokevirtual 62, 3) := by decide +kernel
theorem dX0_keepVouchers_37 : decode cX0_keepVouchers 37 = .ok (.iastore, 1) := by decide +kernel
theorem dX0_keepVouchers_38 : decode cX0_keepVouchers 38 = .ok (.iinc 4 1, 3) := by decide +kernel
theorem dX0_keepVouchers_41 : decode cX0_keepVouchers 41 = .ok (.goto (-32), 3) := by decide +kernel
theorem dX0_keepVouchers_44 : decode cX0_keepVouchers 44 = .ok (.return_, 1) := by decide +kernel
theorem dX1_init_0 : decode cX1_init 0 = .ok (.aload_n 0, 1) := by decide +kernel
theorem dX1_init_1 : decode cX1_init 1 = .ok (.invokespecial 3, 3) := by decide +kernel
theorem dX1_init_4 : decode cX1_init 4 = .ok (.aload_n 0, 1) := by decide +kernel
theorem dX1_init_5 : decode cX1_init 5 = .ok (.bipush 8, 2) := by decide +kernel
theorem dX1_init_7 : decode cX1_init 7 = .ok (.newarray .int, 2) := by decide +kernel
theorem dX1_init_9 : decode cX1_init 9 = .ok (.putfield 9, 3) := by decide +kernel
theorem dX1_init_12 : decode cX1_init 12 = .ok (.aload_n 0, 1) := by decide +kernel
theorem dX1_init_13 : decode cX1_init 13 = .ok (.bipush 8, 2) := by decide +kernel
theorem dX1_init_15 : decode cX1_init 15 = .ok (.newarray .int, 2) := by decide +kernel
theorem dX1_init_17 : decode cX1_init 17 = .ok (.putfield 15, 3) := by decide +kernel
theorem dX1_init_20 : decode cX1_init 20 = .ok (.aload_n 0, 1) := by decide +kernel
theorem dX1_init_21 : decode cX1_init 21 = .ok (.bipush 8, 2) := by decide +kernel
theorem dX1_init_23 : decode cX1_init 23 = .ok (.newarray .int, 2) := by decide +kernel
theorem dX1_init_25 : decode cX1_init 25 = .ok (.putfield 18, 3) := by decide +kernel
theorem dX1_init_28 : decode cX1_init 28 = .ok (.return_, 1) := by decide +kernel
theorem dX1_append_0 : decode cX1_append 0 = .ok (.aload_n 0, 1) := by decide +kernel
theorem dX1_append_1 : decode cX1_append 1 = .ok (.getfield 21, 3) := by decide +kernel
theorem dX1_append_4 : decode cX1_append 4 = .ok (.istore 4, 2) := by decide +kernel
theorem dX1_append_6 : decode cX1_append 6 = .ok (.aload_n 0, 1) := by decide +kernel
theorem dX1_append_7 : decode cX1_append 7 = .ok (.getfield 9, 3) := by decide +kernel
theorem dX1_append_10 : decode cX1_append 10 = .ok (.iload 4, 2) := by decide +kernel
theorem dX1_append_12 : decode cX1_append 12 = .ok (.iload_n 1, 1) := by decide +kernel
theorem dX1_append_13 : decode cX1_append 13 = .ok (.iastore, 1) := by decide +kernel
theorem dX1_append_14 : decode cX1_append 14 = .ok (.aload_n 0, 1) := by decide +kernel
theorem dX1_append_15 : decode cX1_append 15 = .ok (.getfield 15, 3) := by decide +kernel
theorem dX1_append_18 : decode cX1_append 18 = .ok (.iload 4, 2) := by decide +kernel
theorem dX1_append_20 : decode cX1_append 20 = .ok (.iload_n 2, 1) := by decide +kernel
theorem dX1_append_21 : decode cX1_append 21 = .ok (.iastore, 1) := by decide +kernel
theorem dX1_append_22 : decode cX1_append 22 = .ok (.aload_n 0, 1) := by decide +kernel
theorem dX1_append_23 : decode cX1_append 23 = .ok (.getfield 18, 3) := by decide +kernel
theorem dX1_append_26 : decode cX1_append 26 = .ok (.iload 4, 2) := by decide +kernel
theorem dX1_append_28 : decode cX1_append 28 = .ok (.iload_n 3, 1) := by decide +kernel
theorem dX1_append_29 : decode cX1_append 29 = .ok (.iastore, 1) := by decide +kernel
theorem dX1_append_30 : decode cX1_append 30 = .ok (.aload_n 0, 1) := by decide +kernel
theorem dX1_append_31 : decode cX1_append 31 = .ok (.dup, 1) := by decide +kernel
theorem dX1_append_32 : decode cX1_append 32 = .ok (.getfield 21, 3) := by decide +kernel
theorem dX1_append_35 : decode cX1_append 35 = .ok (.iconst 1, 1) := by decide +kernel
theorem dX1_append_36 : decode cX1_append 36 = .ok (.iadd, 1) := by decide +kernel
theorem dX1_append_37 : decode cX1_append 37 = .ok (.putfield 21, 3) := by decide +kernel
theorem dX1_append_40 : decode cX1_append 40 = .ok (.iload 4, 2) := by decide +kernel
theorem dX1_append_42 : decode cX1_append 42 = .ok (.ireturn, 1) := by decide +kernel
set_option maxRecDepth 20000 in
theorem ggX1_liveOn_X3_holds : GoodIn wsX1_liveOn wsX3_holds := goodIn_r _ [6, 7, 8, 5, 9] (by decide +kernel) (by decide +kernel)
set_option maxRecDepth 20000 in
theorem gX1_liveOn_X3_holds_n28 : GoodIn wsX1_liveOn (wsX3_holds) := ggX1_liveOn_X3_holds
theorem dX1_liveOn_0 : decode cX1_liveOn 0 = .ok (.aload_n 0, 1) := by decide +kernel
theorem dX1_liveOn_1 : decode cX1_liveOn 1 = .ok (.getfield 15, 3) := by decide +kernel
theorem dX1_liveOn_4 : decode cX1_liveOn 4 = .ok (.iload_n 1, 1) := by decide +kernel
theorem dX1_liveOn_5 : decode cX1_liveOn 5 = .ok (.iaload, 1) := by decide +kernel
theorem dX1_liveOn_6 : decode cX1_liveOn 6 = .ok (.iload_n 2, 1) := by decide +kernel
theorem dX1_liveOn_7 : decode cX1_liveOn 7 = .ok (.if_icmp .gt 28, 3) := by decide +kernel
theorem dX1_liveOn_10 : decode cX1_liveOn 10 = .ok (.iload_n 2, 1) := by decide +kernel
theorem dX1_liveOn_11 : decode cX1_liveOn 11 = .ok (.aload_n 0, 1) := by decide +kernel
theorem dX1_liveOn_12 : decode cX1_liveOn 12 = .ok (.getfield 18, 3) := by decide +kernel
theorem dX1_liveOn_15 : decode cX1_liveOn 15 = .ok (.iload_n 1, 1) := by decide +kernel
theorem dX1_liveOn_16 : decode cX1_liveOn 16 = .ok (.iaload, 1) := by decide +kernel
theorem dX1_liveOn_17 : decode cX1_liveOn 17 = .ok (.if_icmp .gt 18, 3) := by decide +kernel
theorem dX1_liveOn_20 : decode cX1_liveOn 20 = .ok (.aload_n 0, 1) := by decide +kernel
theorem dX1_liveOn_21 : decode cX1_liveOn 21 = .ok (.getfield 25, 3) := by decide +kernel
theorem dX1_liveOn_24 : decode cX1_liveOn 24 = .ok (.iload_n 1, 1) := by decide +kernel
theorem dX1_liveOn_25 : decode cX1_liveOn 25 = .ok (.invokestatic 28, 3) := by decide +kernel
theorem dX1_liveOn_28 : decode cX1_liveOn 28 = .ok (.ifCond .ne 7, 3) := by decide +kernel
theorem dX1_liveOn_31 : decode cX1_liveOn 31 = .ok (.iconst 1, 1) := by decide +kernel
theorem dX1_liveOn_32 : decode cX1_liveOn 32 = .ok (.goto 4, 3) := by decide +kernel
theorem dX1_liveOn_35 : decode cX1_liveOn 35 = .ok (.iconst 0, 1) := by decide +kernel
theorem dX1_liveOn_36 : decode cX1_liveOn 36 = .ok (.ireturn, 1) := by decide +kernel
set_option maxRecDepth 20000 in
theorem ggX1_live_X1_liveOn : GoodIn wsX1_live wsX1_liveOn := goodIn_r _ [6, 7, 8, 9, 10, 11, 12, 13, 14, 15, 16, 17, 18, 19, 20] (by decide +kernel) (by decide +kernel)
set_option maxRecDepth 20000 in
theorem gX1_live_X1_liveOn : GoodIn wsX1_live (wsV RX1 32 RX1 yX1_liveOn wsX1_liveOn) := goodIn_app (goodIn_of _ (by decide +kernel)) ggX1_live_X1_liveOn
set_option maxRecDepth 20000 in
theorem ggX1_live_X3_only : GoodIn wsX1_live wsX3_only := goodIn_r _ [15] (by decide +kernel) (by decide +kernel)
set_option maxRecDepth 20000 in
theorem gX1_live_X3_only_n35 : GoodIn wsX1_live (wsX3_only) := ggX1_live_X3_only
theorem dX1_live_0 : decode cX1_live 0 = .ok (.iconst 0, 1) := by decide +kernel
theorem dX1_live_1 : decode cX1_live 1 = .ok (.istore_n 2, 1) := by decide +kernel
theorem dX1_live_2 : decode cX1_live 2 = .ok (.iconst 0, 1) := by decide +kernel
theorem dX1_live_3 : decode cX1_live 3 = .ok (.istore_n 3, 1) := by decide +kernel
theorem dX1_live_4 : decode cX1_live 4 = .ok (.iload_n 3, 1) := by decide +kernel
theorem dX1_live_5 : decode cX1_live 5 = .ok (.aload_n 0, 1) := by decide +kernel
theorem dX1_live_6 : decode cX1_live 6 = .ok (.getfield 21, 3) := by decide +kernel
theorem dX1_live_9 : decode cX1_live 9 = .ok (.if_icmp .ge 25, 3) := by decide +kernel
theorem dX1_live_12 : decode cX1_live 12 = .ok (.aload_n 0, 1) := by decide +kernel
theorem dX1_live_13 : decode cX1_live 13 = .ok (.iload_n 3, 1) := by decide +kernel
theorem dX1_live_14 : decode cX1_live 14 = .ok (.iload_n 1, 1) := by decide +kernel
theorem dX1_live_15 : decode cX1_live 15 = .ok (.invokevirtual 32, 3) := by decide +kernel
theorem dX1_live_18 : decode cX1_live 18 = .ok (.ifCond .eq 10, 3) := by decide +kernel
theorem dX1_live_21 : decode cX1_live 21 = .ok (.iload_n 2, 1) := by decide +kernel
theorem dX1_live_22 : decode cX1_live 22 = .ok (.iload_n 3, 1) := by decide +kernel
theorem dX1_live_23 : decode cX1_live 23 = .ok (.invokestatic 35, 3) := by decide +kernel
theorem dX1_live_26 : decode cX1_live 26 = .ok (.ior, 1) := by decide +kernel
theorem dX1_live_27 : decode cX1_live 27 = .ok (.istore_n 2, 1) := by decide +kernel
theorem dX1_live_28 : decode cX1_live 28 = .ok (.iinc 3 1, 3) := by decide +kernel
theorem dX1_live_31 : decode cX1_live 31 = .ok (.goto (-27), 3) := by decide +kernel
theorem dX1_live_34 : decode cX1_live 34 = .ok (.iload_n 2, 1) := by decide +kernel
theorem dX1_live_35 : decode cX1_live 35 = .ok (.ireturn, 1) := by decide +kernel
set_option maxRecDepth 20000 in
theorem ggX1_signersOf_X3_holds : GoodIn wsX1_signersOf wsX3_holds := goodIn_r _ [5, 6, 7, 4, 8] (by decide +kernel) (by decide +kernel)
set_option maxRecDepth 20000 in
theorem gX1_signersOf_X3_holds_n28 : GoodIn wsX1_signersOf (wsX3_holds) := ggX1_signersOf_X3_holds
set_option maxRecDepth 20000 in
theorem ggX1_signersOf_X3_only : GoodIn wsX1_signersOf wsX3_only := goodIn_r _ [8] (by decide +kernel) (by decide +kernel)
set_option maxRecDepth 20000 in
theorem gX1_signersOf_X3_only_n35 : GoodIn wsX1_signersOf (wsX3_only) := ggX1_signersOf_X3_only
theorem dX1_signersOf_0 : decode cX1_signersOf 0 = .ok (.iconst 0, 1) := by decide +kernel
theorem dX1_signersOf_1 : decode cX1_signersOf 1 = .ok (.istore_n 2, 1) := by decide +kernel
theorem dX1_signersOf_2 : decode cX1_signersOf 2 = .ok (.iconst 0, 1) := by decide +kernel
theorem dX1_signersOf_3 : decode cX1_signersOf 3 = .ok (.istore_n 3, 1) := by decide +kernel
theorem dX1_signersOf_4 : decode cX1_signersOf 4 = .ok (.iload_n 3, 1) := by decide +kernel
theorem dX1_signersOf_5 : decode cX1_signersOf 5 = .ok (.aload_n 0, 1) := by decide +kernel
theorem dX1_signersOf_6 : decode cX1_signersOf 6 = .ok (.getfield 21, 3) := by decide +kernel
theorem dX1_signersOf_9 : decode cX1_signersOf 9 = .ok (.if_icmp .ge 29, 3) := by decide +kernel
theorem dX1_signersOf_12 : decode cX1_signersOf 12 = .ok (.iload_n 1, 1) := by decide +kernel
theorem dX1_signersOf_13 : decode cX1_signersOf 13 = .ok (.iload_n 3, 1) := by decide +kernel
theorem dX1_signersOf_14 : decode cX1_signersOf 14 = .ok (.invokestatic 28, 3) := by decide +kernel
theorem dX1_signersOf_17 : decode cX1_signersOf 17 = .ok (.ifCond .eq 15, 3) := by decide +kernel
theorem dX1_signersOf_20 : decode cX1_signersOf 20 = .ok (.iload_n 2, 1) := by decide +kernel
theorem dX1_signersOf_21 : decode cX1_signersOf 21 = .ok (.aload_n 0, 1) := by decide +kernel
theorem dX1_signersOf_22 : decode cX1_signersOf 22 = .ok (.getfield 9, 3) := by decide +kernel
theorem dX1_signersOf_25 : decode cX1_signersOf 25 = .ok (.iload_n 3, 1) := by decide +kernel
theorem dX1_signersOf_26 : decode cX1_signersOf 26 = .ok (.iaload, 1) := by decide +kernel
theorem dX1_signersOf_27 : decode cX1_signersOf 27 = .ok (.invokestatic 35, 3) := by decide +kernel
theorem dX1_signersOf_30 : decode cX1_signersOf 30 = .ok (.ior, 1) := by decide +kernel
theorem dX1_signersOf_31 : decode cX1_signersOf 31 = .ok (.istore_n 2, 1) := by decide +kernel
theorem dX1_signersOf_32 : decode cX1_signersOf 32 = .ok (.iinc 3 1, 3) := by decide +kernel
theorem dX1_signersOf_35 : decode cX1_signersOf 35 = .ok (.goto (-31), 3) := by decide +kernel
theorem dX1_signersOf_38 : decode cX1_signersOf 38 = .ok (.iload_n 2, 1) := by decide +kernel
theorem dX1_signersOf_39 : decode cX1_signersOf 39 = .ok (.ireturn, 1) := by decide +kernel
theorem dX2_init_0 : decode cX2_init 0 = .ok (.aload_n 0, 1) := by decide +kernel
theorem dX2_init_1 : decode cX2_init 1 = .ok (.invokespecial 3, 3) := by decide +kernel
theorem dX2_init_4 : decode cX2_init 4 = .ok (.aload_n 0, 1) := by decide +kernel
theorem dX2_init_5 : decode cX2_init 5 = .ok (.iconst 3, 1) := by decide +kernel
theorem dX2_init_6 : decode cX2_init 6 = .ok (.newarray .int, 2) := by decide +kernel
theorem dX2_init_8 : decode cX2_init 8 = .ok (.putfield 9, 3) := by decide +kernel
theorem dX2_init_11 : decode cX2_init 11 = .ok (.aload_n 0, 1) := by decide +kernel
theorem dX2_init_12 : decode cX2_init 12 = .ok (.iconst 3, 1) := by decide +kernel
theorem dX2_init_13 : decode cX2_init 13 = .ok (.newarray .int, 2) := by decide +kernel
theorem dX2_init_15 : decode cX2_init 15 = .ok (.putfield 15, 3) := by decide +kernel
theorem dX2_init_18 : decode cX2_init 18 = .ok (.return_, 1) := by decide +kernel
theorem dX2_append_0 : decode cX2_append 0 = .ok (.aload_n 0, 1) := by decide +kernel
theorem dX2_append_1 : decode cX2_append 1 = .ok (.getfield 18, 3) := by decide +kernel
theorem dX2_append_4 : decode cX2_append 4 = .ok (.istore_n 1, 1) := by decide +kernel
theorem dX2_append_5 : decode cX2_append 5 = .ok (.aload_n 0, 1) := by decide +kernel
theorem dX2_append_6 : decode cX2_append 6 = .ok (.getfield 9, 3) := by decide +kernel
theorem dX2_append_9 : decode cX2_append 9 = .ok (.iload_n 1, 1) := by decide +kernel
theorem dX2_append_10 : decode cX2_append 10 = .ok (.iconst (-1), 1) := by decide +kernel
theorem dX2_append_11 : decode cX2_append 11 = .ok (.iastore, 1) := by decide +kernel
theorem dX2_append_12 : decode cX2_append 12 = .ok (.aload_n 0, 1) := by decide +kernel
theorem dX2_append_13 : decode cX2_append 13 = .ok (.getfield 15, 3) := by decide +kernel
theorem dX2_append_16 : decode cX2_append 16 = .ok (.iload_n 1, 1) := by decide +kernel
theorem dX2_append_17 : decode cX2_append 17 = .ok (.iconst 0, 1) := by decide +kernel
theorem dX2_append_18 : decode cX2_append 18 = .ok (.iastore, 1) := by decide +kernel
theorem dX2_append_19 : decode cX2_append 19 = .ok (.aload_n 0, 1) := by decide +kernel
theorem dX2_append_20 : decode cX2_append 20 = .ok (.dup, 1) := by decide +kernel
theorem dX2_append_21 : decode cX2_append 21 = .ok (.getfield 18, 3) := by decide +kernel
theorem dX2_append_24 : decode cX2_append 24 = .ok (.iconst 1, 1) := by decide +kernel
theorem dX2_append_25 : decode cX2_append 25 = .ok (.iadd, 1) := by decide +kernel
theorem dX2_append_26 : decode cX2_append 26 = .ok (.putfield 18, 3) := by decide +kernel
theorem dX2_append_29 : decode cX2_append 29 = .ok (.iload_n 1, 1) := by decide +kernel
theorem dX2_append_30 : decode cX2_append 30 = .ok (.ireturn, 1) := by decide +kernel
set_option maxRecDepth 20000 in
theorem ggX3_init_X1_init : GoodIn wsX3_init wsX1_init := goodIn_r _ [22, 23, 2, 3, 16, 24, 25, 26, 43, 44, 45, 46, 47] (by decide +kernel) (by decide +kernel)
set_option maxRecDepth 20000 in
theorem gX3_init_X1_init_n9 : GoodIn wsX3_init (wsX1_init) := ggX3_init_X1_init
set_option maxRecDepth 20000 in
theorem ggX3_init_X0_init : GoodIn wsX3_init wsX0_init := goodIn_r _ [28, 29, 2, 3, 16, 30, 31, 32, 33, 34, 35, 36, 37, 55, 56, 57, 58, 59, 60, 61, 62, 63, 64] (by decide +kernel) (by decide +kernel)
set_option maxRecDepth 20000 in
theorem gX3_init_X0_init_n18 : GoodIn wsX3_init (wsX0_init) := ggX3_init_X0_init
set_option maxRecDepth 20000 in
theorem ggX3_init_X2_init : GoodIn wsX3_init wsX2_init := goodIn_r _ [39, 40, 2, 3, 16, 41, 42, 65, 66, 67] (by decide +kernel) (by decide +kernel)
set_option maxRecDepth 20000 in
theorem gX3_init_X2_init_n25 : GoodIn wsX3_init (wsX2_init) := ggX3_init_X2_init
end
section
theorem dX3_init_0 : decode cX3_init 0 = .ok (.aload_n 0, 1) := by decide +kernel
theorem dX3_init_1 : decode cX3_init 1 = .ok (.invokespecial 1, 3) := by decide +kernel
theorem dX3_init_4 : decode cX3_init 4 = .ok (.aload_n 0, 1) := by decide +kernel
theorem dX3_init_5 : decode cX3_init 5 = .ok (.new 7, 3) := by decide +kernel
theorem dX3_init_8 : decode cX3_init 8 = .ok (.dup, 1) := by decide +kernel
theorem dX3_init_9 : decode cX3_init 9 = .ok (.invokespecial 9, 3) := by decide +kernel
theorem dX3_init_12 : decode cX3_init 12 = .ok (.putfield 10, 3) := by decide +kernel
theorem dX3_init_15 : decode cX3_init 15 = .ok (.aload_n 0, 1) := by decide +kernel
theorem dX3_init_16 : decode cX3_init 16 = .ok (.new 16, 3) := by decide +kernel
theorem dX3_init_19 : decode cX3_init 19 = .ok (.dup, 1) := by decide +kernel
theorem dX3_init_20 : decode cX3_init 20 = .ok (.invokespecial 18, 3) := by decide +kernel
theorem dX3_init_23 : decode cX3_init 23 = .ok (.putfield 19, 3) := by decide +kernel
theorem dX3_init_26 : decode cX3_init 26 = .ok (.aload_n 0, 1) := by decide +kernel
theorem dX3_init_27 : decode cX3_init 27 = .ok (.new 23, 3) := by decide +kernel
theorem dX3_init_30 : decode cX3_init 30 = .ok (.dup, 1) := by decide +kernel
theorem dX3_init_31 : decode cX3_init 31 = .ok (.invokespecial 25, 3) := by decide +kernel
theorem dX3_init_34 : decode cX3_init 34 = .ok (.putfield 26, 3) := by decide +kernel
theorem dX3_init_37 : decode cX3_init 37 = .ok (.aload_n 0, 1) := by decide +kernel
theorem dX3_init_38 : decode cX3_init 38 = .ok (.iconst 4, 1) := by decide +kernel
theorem dX3_init_39 : decode cX3_init 39 = .ok (.newarray .int, 2) := by decide +kernel
theorem dX3_init_41 : decode cX3_init 41 = .ok (.putfield 30, 3) := by decide +kernel
theorem dX3_init_44 : decode cX3_init 44 = .ok (.aload_n 0, 1) := by decide +kernel
theorem dX3_init_45 : decode cX3_init 45 = .ok (.iconst 5, 1) := by decide +kernel
theorem dX3_init_46 : decode cX3_init 46 = .ok (.newarray .int, 2) := by decide +kernel
theorem dX3_init_48 : decode cX3_init 48 = .ok (.putfield 34, 3) := by decide +kernel
theorem dX3_init_51 : decode cX3_init 51 = .ok (.aload_n 0, 1) := by decide +kernel
theorem dX3_init_52 : decode cX3_init 52 = .ok (.bipush 7, 2) := by decide +kernel
theorem dX3_init_54 : decode cX3_init 54 = .ok (.putfield 37, 3) := by decide +kernel
theorem dX3_init_57 : decode cX3_init 57 = .ok (.aload_n 0, 1) := by decide +kernel
theorem dX3_init_58 : decode cX3_init 58 = .ok (.iconst 0, 1) := by decide +kernel
theorem dX3_init_59 : decode cX3_init 59 = .ok (.putfield 41, 3) := by decide +kernel
theorem dX3_init_62 : decode cX3_init 62 = .ok (.iconst 0, 1) := by decide +kernel
theorem dX3_init_63 : decode cX3_init 63 = .ok (.istore_n 1, 1) := by decide +kernel
theorem dX3_init_64 : decode cX3_init 64 = .ok (.iload_n 1, 1) := by decide +kernel
theorem dX3_init_65 : decode cX3_init 65 = .ok (.iconst 4, 1) := by decide +kernel
theorem dX3_init_66 : decode cX3_init 66 = .ok (.if_icmp .ge 17, 3) := by decide +kernel
theorem dX3_init_69 : decode cX3_init 69 = .ok (.aload_n 0, 1) := by decide +kernel
theorem dX3_init_70 : decode cX3_init 70 = .ok (.getfield 30, 3) := by decide +kernel
theorem dX3_init_73 : decode cX3_init 73 = .ok (.iload_n 1, 1) := by decide +kernel
theorem dX3_init_74 : decode cX3_init 74 = .ok (.bipush 50, 2) := by decide +kernel
theorem dX3_init_76 : decode cX3_init 76 = .ok (.iastore, 1) := by decide +kernel
theorem dX3_init_77 : decode cX3_init 77 = .ok (.iinc 1 1, 3) := by decide +kernel
theorem dX3_init_80 : decode cX3_init 80 = .ok (.goto (-16), 3) := by decide +kernel
theorem dX3_init_83 : decode cX3_init 83 = .ok (.iconst 0, 1) := by decide +kernel
theorem dX3_init_84 : decode cX3_init 84 = .ok (.istore_n 1, 1) := by decide +kernel
theorem dX3_init_85 : decode cX3_init 85 = .ok (.iload_n 1, 1) := by decide +kernel
theorem dX3_init_86 : decode cX3_init 86 = .ok (.iconst 5, 1) := by decide +kernel
theorem dX3_init_87 : decode cX3_init 87 = .ok (.if_icmp .ge 17, 3) := by decide +kernel
theorem dX3_init_90 : decode cX3_init 90 = .ok (.aload_n 0, 1) := by decide +kernel
theorem dX3_init_91 : decode cX3_init 91 = .ok (.getfield 34, 3) := by decide +kernel
theorem dX3_init_94 : decode cX3_init 94 = .ok (.iload_n 1, 1) := by decide +kernel
theorem dX3_init_95 : decode cX3_init 95 = .ok (.bipush 100, 2) := by decide +kernel
theorem dX3_init_97 : decode cX3_init 97 = .ok (.iastore, 1) := by decide +kernel
theorem dX3_init_98 : decode cX3_init 98 = .ok (.iinc 1 1, 3) := by decide +kernel
theorem dX3_init_101 : decode cX3_init 101 = .ok (.goto (-16), 3) := by decide +kernel
theorem dX3_init_104 : decode cX3_init 104 = .ok (.return_, 1) := by decide +kernel
set_option maxRecDepth 20000 in
theorem ggX3_addKey_X3_requireSigner : GoodIn wsX3_addKey wsX3_requireSigner := goodIn_ca (goodIn_r _ [11, 1, 2] (by decide +kernel) (by decide +kernel)) (goodIn_sub (fun _ h => List.mem_cons_of_mem _ (List.mem_append_left _ (List.mem_append_right _ h))) (by decide +kernel))
set_option maxRecDepth 20000 in
theorem gX3_addKey_X3_requireSigner : GoodIn wsX3_addKey (wsV RX3 44 RX3 yX3_requireSigner wsX3_requireSigner) := goodIn_app (goodIn_of _ (by decide +kernel)) ggX3_addKey_X3_requireSigner
set_option maxRecDepth 20000 in
theorem ggX3_addKey_X1_append : GoodIn wsX3_addKey wsX1_append := goodIn_r _ [15, 16, 17, 18, 19, 27, 28, 29, 30, 31] (by decide +kernel) (by decide +kernel)
set_option maxRecDepth 20000 in
theorem gX3_addKey_X1_append_n63 : GoodIn wsX3_addKey (wsX1_append) := ggX3_addKey_X1_append
theorem dX3_addKey_0 : decode cX3_addKey 0 = .ok (.aload_n 0, 1) := by decide +kernel
theorem dX3_addKey_1 : decode cX3_addKey 1 = .ok (.iload_n 1, 1) := by decide +kernel
theorem dX3_addKey_2 : decode cX3_addKey 2 = .ok (.invokevirtual 44, 3) := by decide +kernel
theorem dX3_addKey_5 : decode cX3_addKey 5 = .ok (.iload_n 2, 1) := by decide +kernel
theorem dX3_addKey_6 : decode cX3_addKey 6 = .ok (.aload_n 0, 1) := by decide +kernel
theorem dX3_addKey_7 : decode cX3_addKey 7 = .ok (.getfield 41, 3) := by decide +kernel
theorem dX3_addKey_10 : decode cX3_addKey 10 = .ok (.if_icmp .lt 15, 3) := by decide +kernel
theorem dX3_addKey_13 : decode cX3_addKey 13 = .ok (.iload_n 3, 1) := by decide +kernel
theorem dX3_addKey_14 : decode cX3_addKey 14 = .ok (.iload_n 2, 1) := by decide +kernel
theorem dX3_addKey_15 : decode cX3_addKey 15 = .ok (.if_icmp .lt 10, 3) := by decide +kernel
theorem dX3_addKey_18 : decode cX3_addKey 18 = .ok (.iload_n 3, 1) := by decide +kernel
theorem dX3_addKey_19 : decode cX3_addKey 19 = .ok (.sipush 999, 3) := by decide +kernel
theorem dX3_addKey_22 : decode cX3_addKey 22 = .ok (.if_icmp .le 13, 3) := by decide +kernel
theorem dX3_addKey_25 : decode cX3_addKey 25 = .ok (.new 48, 3) := by decide +kernel
theorem dX3_addKey_28 : decode cX3_addKey 28 = .ok (.dup, 1) := by decide +kernel
theorem dX3_addKey_29 : decode cX3_addKey 29 = .ok (.ldc 50, 2) := by decide +kernel
theorem dX3_addKey_31 : decode cX3_addKey 31 = .ok (.invokespecial 52, 3) := by decide +kernel
theorem dX3_addKey_34 : decode cX3_addKey 34 = .ok (.athrow, 1) := by decide +kernel
theorem dX3_addKey_35 : decode cX3_addKey 35 = .ok (.aload_n 0, 1) := by decide +kernel
theorem dX3_addKey_36 : decode cX3_addKey 36 = .ok (.getfield 10, 3) := by decide +kernel
theorem dX3_addKey_39 : decode cX3_addKey 39 = .ok (.getfield 55, 3) := by decide +kernel
theorem dX3_addKey_42 : decode cX3_addKey 42 = .ok (.bipush 8, 2) := by decide +kernel
theorem dX3_addKey_44 : decode cX3_addKey 44 = .ok (.if_icmp .lt 13, 3) := by decide +kernel
theorem dX3_addKey_47 : decode cX3_addKey 47 = .ok (.new 58, 3) := by decide +kernel
theorem dX3_addKey_50 : decode cX3_addKey 50 = .ok (.dup, 1) := by decide +kernel
theorem dX3_addKey_51 : decode cX3_addKey 51 = .ok (.ldc 60, 2) := by decide +kernel
theorem dX3_addKey_53 : decode cX3_addKey 53 = .ok (.invokespecial 62, 3) := by decide +kernel
theorem dX3_addKey_56 : decode cX3_addKey 56 = .ok (.athrow, 1) := by decide +kernel
theorem dX3_addKey_57 : decode cX3_addKey 57 = .ok (.aload_n 0, 1) := by decide +kernel
theorem dX3_addKey_58 : decode cX3_addKey 58 = .ok (.getfield 10, 3) := by decide +kernel
theorem dX3_addKey_61 : decode cX3_addKey 61 = .ok (.iload_n 1, 1) := by decide +kernel
theorem dX3_addKey_62 : decode cX3_addKey 62 = .ok (.iload_n 2, 1) := by decide +kernel
theorem dX3_addKey_63 : decode cX3_addKey 63 = .ok (.iload_n 3, 1) := by decide +kernel
theorem dX3_addKey_64 : decode cX3_addKey 64 = .ok (.invokevirtual 63, 3) := by decide +kernel
theorem dX3_addKey_67 : decode cX3_addKey 67 = .ok (.ireturn, 1) := by decide +kernel
set_option maxRecDepth 20000 in
theorem ggX3_loseKey_X3_requireKey : GoodIn wsX3_loseKey wsX3_requireKey := goodIn_ca (goodIn_r _ [10, 11, 12, 3, 64, 65, 66, 67, 68, 69, 70, 71, 72, 73, 74, 75] (by decide +kernel) (by decide +kernel)) (goodIn_sub (fun _ h => List.mem_cons_of_mem _ (List.mem_append_right _ h)) (by decide +kernel))
set_option maxRecDepth 20000 in
theorem gX3_loseKey_X3_requireKey : GoodIn wsX3_loseKey (wsV RX3 67 RX3 yX3_requireKey wsX3_requireKey) := goodIn_app (goodIn_of _ (by decide +kernel)) ggX3_loseKey_X3_requireKey
set_option maxRecDepth 20000 in
theorem ggX3_loseKey_X3_holds : GoodIn wsX3_loseKey wsX3_holds := goodIn_r _ [15, 16, 17, 9, 18] (by decide +kernel) (by decide +kernel)
set_option maxRecDepth 20000 in
theorem gX3_loseKey_X3_holds : GoodIn wsX3_loseKey (va_wsS RX3 73 yX3_holds wsX3_holds) := goodIn_app (goodIn_of _ (by decide +kernel)) ggX3_loseKey_X3_holds
set_option maxRecDepth 20000 in
theorem ggX3_loseKey_X3_trustedBuilds : GoodIn wsX3_loseKey wsX3_trustedBuilds := goodIn_r _ [22, 4, 23, 24, 25, 9, 26, 27, 28, 29, 30, 31, 32, 33, 13, 14, 15, 16, 17, 18, 64, 65, 66, 67, 68, 69, 70, 76, 77, 78, 79, 80, 81, 82, 83, 84, 85] (by decide +kernel) (by decide +kernel)
set_option maxRecDepth 20000 in
theorem gX3_loseKey_X3_trustedBuilds : GoodIn wsX3_loseKey (wsV RX3 79 RX3 yX3_trustedBuilds wsX3_trustedBuilds) := goodIn_app (goodIn_of _ (by decide +kernel)) ggX3_loseKey_X3_trustedBuilds
set_option maxRecDepth 20000 in
theorem ggX3_loseKey_X3_only : GoodIn wsX3_loseKey wsX3_only := goodIn_r _ [18] (by decide +kernel) (by decide +kernel)
set_option maxRecDepth 20000 in
theorem gX3_loseKey_X3_only : GoodIn wsX3_loseKey (va_wsS RX3 83 yX3_only wsX3_only) := goodIn_app (goodIn_of _ (by decide +kernel)) ggX3_loseKey_X3_only
set_option maxRecDepth 20000 in
theorem ggX3_loseKey_X0_keepVouchers : GoodIn wsX3_loseKey wsX0_keepVouchers := goodIn_r _ [37, 38, 39, 40, 41, 42, 43, 44, 45, 46, 47, 48, 49, 50, 51, 52, 14, 9, 15, 16, 17, 18, 53, 54, 55, 56, 76, 77, 78, 79, 80, 81, 82, 83, 84, 85, 71, 72, 73, 74, 75] (by decide +kernel) (by decide +kernel)
set_option maxRecDepth 20000 in
theorem gX3_loseKey_X0_keepVouchers_n87 : GoodIn wsX3_loseKey (wsX0_keepVouchers) := ggX3_loseKey_X0_keepVouchers
set_option maxRecDepth 20000 in
theorem ggX3_loseKey_J6_bitCount_0f7a4 : GoodIn wsX3_loseKey wsJ6_bitCount_0f7a4 := goodIn_r _ [60, 61, 62, 63] (by decide +kernel) (by decide +kernel)
set_option maxRecDepth 20000 in
theorem gX3_loseKey_J6_bitCount_0f7a4 : GoodIn wsX3_loseKey (va_wsS RX3 91 yJ6_bitCount_0f7a4 wsJ6_bitCount_0f7a4) := goodIn_app (goodIn_of _ (by decide +kernel)) ggX3_loseKey_J6_bitCount_0f7a4
theorem dX3_loseKey_0 : decode cX3_loseKey 0 = .ok (.aload_n 0, 1) := by decide +kernel
theorem dX3_loseKey_1 : decode cX3_loseKey 1 = .ok (.iload_n 1, 1) := by decide +kernel
theorem dX3_loseKey_2 : decode cX3_loseKey 2 = .ok (.invokevirtual 67, 3) := by decide +kernel
theorem dX3_loseKey_5 : decode cX3_loseKey 5 = .ok (.aload_n 0, 1) := by decide +kernel
theorem dX3_loseKey_6 : decode cX3_loseKey 6 = .ok (.getfield 10, 3) := by decide +kernel
theorem dX3_loseKey_9 : decode cX3_loseKey 9 = .ok (.getfield 70, 3) := by decide +kernel
theorem dX3_loseKey_12 : decode cX3_loseKey 12 = .ok (.iload_n 1, 1) := by decide +kernel
theorem dX3_loseKey_13 : decode cX3_loseKey 13 = .ok (.invokestatic 73, 3) := by decide +kernel
theorem dX3_loseKey_16 : decode cX3_loseKey 16 = .ok (.ifCond .eq 13, 3) := by decide +kernel
theorem dX3_loseKey_19 : decode cX3_loseKey 19 = .ok (.new 58, 3) := by decide +kernel
theorem dX3_loseKey_22 : decode cX3_loseKey 22 = .ok (.dup, 1) := by decide +kernel
theorem dX3_loseKey_23 : decode cX3_loseKey 23 = .ok (.ldc 77, 2) := by decide +kernel
theorem dX3_loseKey_25 : decode cX3_loseKey 25 = .ok (.invokespecial 62, 3) := by decide +kernel
theorem dX3_loseKey_28 : decode cX3_loseKey 28 = .ok (.athrow, 1) := by decide +kernel
theorem dX3_loseKey_29 : decode cX3_loseKey 29 = .ok (.aload_n 0, 1) := by decide +kernel
theorem dX3_loseKey_30 : decode cX3_loseKey 30 = .ok (.invokevirtual 79, 3) := by decide +kernel
theorem dX3_loseKey_33 : decode cX3_loseKey 33 = .ok (.istore_n 2, 1) := by decide +kernel
theorem dX3_loseKey_34 : decode cX3_loseKey 34 = .ok (.aload_n 0, 1) := by decide +kernel
theorem dX3_loseKey_35 : decode cX3_loseKey 35 = .ok (.getfield 10, 3) := by decide +kernel
theorem dX3_loseKey_38 : decode cX3_loseKey 38 = .ok (.dup, 1) := by decide +kernel
theorem dX3_loseKey_39 : decode cX3_loseKey 39 = .ok (.getfield 70, 3) := by decide +kernel
theorem dX3_loseKey_42 : decode cX3_loseKey 42 = .ok (.iload_n 1, 1) := by decide +kernel
theorem dX3_loseKey_43 : decode cX3_loseKey 43 = .ok (.invokestatic 83, 3) := by decide +kernel
theorem dX3_loseKey_46 : decode cX3_loseKey 46 = .ok (.ior, 1) := by decide +kernel
theorem dX3_loseKey_47 : decode cX3_loseKey 47 = .ok (.putfield 70, 3) := by decide +kernel
theorem dX3_loseKey_50 : decode cX3_loseKey 50 = .ok (.aload_n 0, 1) := by decide +kernel
theorem dX3_loseKey_51 : decode cX3_loseKey 51 = .ok (.getfield 19, 3) := by decide +kernel
theorem dX3_loseKey_54 : decode cX3_loseKey 54 = .ok (.aload_n 0, 1) := by decide +kernel
theorem dX3_loseKey_55 : decode cX3_loseKey 55 = .ok (.getfield 10, 3) := by decide +kernel
theorem dX3_loseKey_58 : decode cX3_loseKey 58 = .ok (.aload_n 0, 1) := by decide +kernel
theorem dX3_loseKey_59 : decode cX3_loseKey 59 = .ok (.getfield 41, 3) := by decide +kernel
theorem dX3_loseKey_62 : decode cX3_loseKey 62 = .ok (.invokevirtual 87, 3) := by decide +kernel
theorem dX3_loseKey_65 : decode cX3_loseKey 65 = .ok (.iload_n 2, 1) := by decide +kernel
theorem dX3_loseKey_66 : decode cX3_loseKey 66 = .ok (.aload_n 0, 1) := by decide +kernel
theorem dX3_loseKey_67 : decode cX3_loseKey 67 = .ok (.invokevirtual 79, 3) := by decide +kernel
theorem dX3_loseKey_70 : decode cX3_loseKey 70 = .ok (.iconst (-1), 1) := by decide +kernel
theorem dX3_loseKey_71 : decode cX3_loseKey 71 = .ok (.ixor, 1) := by decide +kernel
theorem dX3_loseKey_72 : decode cX3_loseKey 72 = .ok (.iand, 1) := by decide +kernel
theorem dX3_loseKey_73 : decode cX3_loseKey 73 = .ok (.invokestatic 91, 3) := by decide +kernel
theorem dX3_loseKey_76 : decode cX3_loseKey 76 = .ok (.ireturn, 1) := by decide +kernel
set_option maxRecDepth 20000 in
theorem ggX3_extendKey_X3_requireKey : GoodIn wsX3_extendKey wsX3_requireKey := goodIn_ca (goodIn_r _ [11, 12, 13, 5, 20, 21, 22, 23, 24, 25, 26, 27, 28, 29, 30, 31] (by decide +kernel) (by decide +kernel)) (goodIn_sub (fun _ h => List.mem_cons_of_mem _ (List.mem_append_right _ h)) (by decide +kernel))
set_option maxRecDepth 20000 in
theorem gX3_extendKey_X3_requireKey : GoodIn wsX3_extendKey (wsV RX3 67 RX3 yX3_requireKey wsX3_requireKey) := goodIn_app (goodIn_of _ (by decide +kernel)) ggX3_extendKey_X3_requireKey
set_option maxRecDepth 20000 in
theorem ggX3_extendKey_X3_holds : GoodIn wsX3_extendKey wsX3_holds := goodIn_r _ [16, 17, 18, 10, 19] (by decide +kernel) (by decide +kernel)
set_option maxRecDepth 20000 in
theorem gX3_extendKey_X3_holds : GoodIn wsX3_extendKey (va_wsS RX3 73 yX3_holds wsX3_holds) := goodIn_app (goodIn_of _ (by decide +kernel)) ggX3_extendKey_X3_holds
theorem dX3_extendKey_0 : decode cX3_extendKey 0 = .ok (.aload_n 0, 1) := by decide +kernel
theorem dX3_extendKey_1 : decode cX3_extendKey 1 = .ok (.iload_n 1, 1) := by decide +kernel
theorem dX3_extendKey_2 : decode cX3_extendKey 2 = .ok (.invokevirtual 67, 3) := by decide +kernel
theorem dX3_extendKey_5 : decode cX3_extendKey 5 = .ok (.aload_n 0, 1) := by decide +kernel
theorem dX3_extendKey_6 : decode cX3_extendKey 6 = .ok (.getfield 10, 3) := by decide +kernel
theorem dX3_extendKey_9 : decode cX3_extendKey 9 = .ok (.getfield 96, 3) := by decide +kernel
theorem dX3_extendKey_12 : decode cX3_extendKey 12 = .ok (.iload_n 1, 1) := by decide +kernel
theorem dX3_extendKey_13 : decode cX3_extendKey 13 = .ok (.iaload, 1) := by decide +kernel
theorem dX3_extendKey_14 : decode cX3_extendKey 14 = .ok (.istore_n 3, 1) := by decide +kernel
theorem dX3_extendKey_15 : decode cX3_extendKey 15 = .ok (.iload_n 2, 1) := by decide +kernel
theorem dX3_extendKey_16 : decode cX3_extendKey 16 = .ok (.iload_n 3, 1) := by decide +kernel
theorem dX3_extendKey_17 : decode cX3_extendKey 17 = .ok (.if_icmp .le 10, 3) := by decide +kernel
theorem dX3_extendKey_20 : decode cX3_extendKey 20 = .ok (.iload_n 2, 1) := by decide +kernel
theorem dX3_extendKey_21 : decode cX3_extendKey 21 = .ok (.sipush 999, 3) := by decide +kernel
theorem dX3_extendKey_24 : decode cX3_extendKey 24 = .ok (.if_icmp .le 13, 3) := by decide +kernel
theorem dX3_extendKey_27 : decode cX3_extendKey 27 = .ok (.new 48, 3) := by decide +kernel
theorem dX3_extendKey_30 : decode cX3_extendKey 30 = .ok (.dup, 1) := by decide +kernel
theorem dX3_extendKey_31 : decode cX3_extendKey 31 = .ok (.ldc 99, 2) := by decide +kernel
theorem dX3_extendKey_33 : decode cX3_extendKey 33 = .ok (.invokespecial 52, 3) := by decide +kernel
theorem dX3_extendKey_36 : decode cX3_extendKey 36 = .ok (.athrow, 1) := by decide +kernel
theorem dX3_extendKey_37 : decode cX3_extendKey 37 = .ok (.aload_n 0, 1) := by decide +kernel
theorem dX3_extendKey_38 : decode cX3_extendKey 38 = .ok (.getfield 10, 3) := by decide +kernel
theorem dX3_extendKey_41 : decode cX3_extendKey 41 = .ok (.getfield 70, 3) := by decide +kernel
theorem dX3_extendKey_44 : decode cX3_extendKey 44 = .ok (.iload_n 1, 1) := by decide +kernel
theorem dX3_extendKey_45 : decode cX3_extendKey 45 = .ok (.invokestatic 73, 3) := by decide +kernel
theorem dX3_extendKey_48 : decode cX3_extendKey 48 = .ok (.ifCond .ne 11, 3) := by decide +kernel
theorem dX3_extendKey_51 : decode cX3_extendKey 51 = .ok (.iload_n 3, 1) := by decide +kernel
theorem dX3_extendKey_52 : decode cX3_extendKey 52 = .ok (.aload_n 0, 1) := by decide +kernel
theorem dX3_extendKey_53 : decode cX3_extendKey 53 = .ok (.getfield 41, 3) := by decide +kernel
theorem dX3_extendKey_56 : decode cX3_extendKey 56 = .ok (.if_icmp .ge 13, 3) := by decide +kernel
theorem dX3_extendKey_59 : decode cX3_extendKey 59 = .ok (.new 58, 3) := by decide +kernel
theorem dX3_extendKey_62 : decode cX3_extendKey 62 = .ok (.dup, 1) := by decide +kernel
theorem dX3_extendKey_63 : decode cX3_extendKey 63 = .ok (.ldc 101, 2) := by decide +kernel
theorem dX3_extendKey_65 : decode cX3_extendKey 65 = .ok (.invokespecial 62, 3) := by decide +kernel
theorem dX3_extendKey_68 : decode cX3_extendKey 68 = .ok (.athrow, 1) := by decide +kernel
theorem dX3_extendKey_69 : decode cX3_extendKey 69 = .ok (.aload_n 0, 1) := by decide +kernel
theorem dX3_extendKey_70 : decode cX3_extendKey 70 = .ok (.getfield 10, 3) := by decide +kernel
theorem dX3_extendKey_73 : decode cX3_extendKey 73 = .ok (.getfield 96, 3) := by decide +kernel
theorem dX3_extendKey_76 : decode cX3_extendKey 76 = .ok (.iload_n 1, 1) := by decide +kernel
theorem dX3_extendKey_77 : decode cX3_extendKey 77 = .ok (.iload_n 2, 1) := by decide +kernel
theorem dX3_extendKey_78 : decode cX3_extendKey 78 = .ok (.iastore, 1) := by decide +kernel
theorem dX3_extendKey_79 : decode cX3_extendKey 79 = .ok (.iload_n 3, 1) := by decide +kernel
theorem dX3_extendKey_80 : decode cX3_extendKey 80 = .ok (.ireturn, 1) := by decide +kernel
set_option maxRecDepth 20000 in
theorem ggX3_isLive_X3_requireKey : GoodIn wsX3_isLive wsX3_requireKey := goodIn_ca (goodIn_r _ [7, 8, 9, 1, 22, 23, 24, 25, 26, 27, 28, 29, 30, 31, 32, 33] (by decide +kernel) (by decide +kernel)) (goodIn_sub (fun _ h => List.mem_cons_of_mem _ (List.mem_append_right _ h)) (by decide +kernel))
set_option maxRecDepth 20000 in
theorem gX3_isLive_X3_requireKey : GoodIn wsX3_isLive (wsV RX3 67 RX3 yX3_requireKey wsX3_requireKey) := goodIn_app (goodIn_of _ (by decide +kernel)) ggX3_isLive_X3_requireKey
set_option maxRecDepth 20000 in
theorem ggX3_isLive_X1_liveOn : GoodIn wsX3_isLive wsX1_liveOn := goodIn_r _ [13, 14, 15, 16, 17, 6, 18, 19, 20, 21, 29, 30, 31, 32, 33] (by decide +kernel) (by decide +kernel)
set_option maxRecDepth 20000 in
theorem gX3_isLive_X1_liveOn_n103 : GoodIn wsX3_isLive (wsX1_liveOn) := ggX3_isLive_X1_liveOn
theorem dX3_isLive_0 : decode cX3_isLive 0 = .ok (.aload_n 0, 1) := by decide +kernel
theorem dX3_isLive_1 : decode cX3_isLive 1 = .ok (.iload_n 1, 1) := by decide +kernel
theorem dX3_isLive_2 : decode cX3_isLive 2 = .ok (.invokevirtual 67, 3) := by decide +kernel
theorem dX3_isLive_5 : decode cX3_isLive 5 = .ok (.aload_n 0, 1) := by decide +kernel
theorem dX3_isLive_6 : decode cX3_isLive 6 = .ok (.getfield 10, 3) := by decide +kernel
theorem dX3_isLive_9 : decode cX3_isLive 9 = .ok (.iload_n 1, 1) := by decide +kernel
theorem dX3_isLive_10 : decode cX3_isLive 10 = .ok (.aload_n 0, 1) := by decide +kernel
theorem dX3_isLive_11 : decode cX3_isLive 11 = .ok (.getfield 41, 3) := by decide +kernel
theorem dX3_isLive_14 : decode cX3_isLive 14 = .ok (.invokevirtual 103, 3) := by decide +kernel
theorem dX3_isLive_17 : decode cX3_isLive 17 = .ok (.ireturn, 1) := by decide +kernel
set_option maxRecDepth 20000 in
theorem ggX3_setWeight_X3_requireSigner : GoodIn wsX3_setWeight wsX3_requireSigner := goodIn_ca (goodIn_r _ [8, 1, 2] (by decide +kernel) (by decide +kernel)) (goodIn_sub (fun _ h => List.mem_cons_of_mem _ (List.mem_append_right _ h)) (by decide +kernel))
set_option maxRecDepth 20000 in
theorem gX3_setWeight_X3_requireSigner : GoodIn wsX3_setWeight (wsV RX3 44 RX3 yX3_requireSigner wsX3_requireSigner) := goodIn_app (goodIn_of _ (by decide +kernel)) ggX3_setWeight_X3_requireSigner
theorem dX3_setWeight_0 : decode cX3_setWeight 0 = .ok (.aload_n 0, 1) := by decide +kernel
theorem dX3_setWeight_1 : decode cX3_setWeight 1 = .ok (.iload_n 1, 1) := by decide +kernel
theorem dX3_setWeight_2 : decode cX3_setWeight 2 = .ok (.invokevirtual 44, 3) := by decide +kernel
theorem dX3_setWeight_5 : decode cX3_setWeight 5 = .ok (.iload_n 2, 1) := by decide +kernel
theorem dX3_setWeight_6 : decode cX3_setWeight 6 = .ok (.ifCond .lt 9, 3) := by decide +kernel
theorem dX3_setWeight_9 : decode cX3_setWeight 9 = .ok (.iload_n 2, 1) := by decide +kernel
theorem dX3_setWeight_10 : decode cX3_setWeight 10 = .ok (.bipush 100, 2) := by decide +kernel
theorem dX3_setWeight_12 : decode cX3_setWeight 12 = .ok (.if_icmp .le 13, 3) := by decide +kernel
theorem dX3_setWeight_15 : decode cX3_setWeight 15 = .ok (.new 48, 3) := by decide +kernel
theorem dX3_setWeight_18 : decode cX3_setWeight 18 = .ok (.dup, 1) := by decide +kernel
theorem dX3_setWeight_19 : decode cX3_setWeight 19 = .ok (.ldc 106, 2) := by decide +kernel
theorem dX3_setWeight_21 : decode cX3_setWeight 21 = .ok (.invokespecial 52, 3) := by decide +kernel
theorem dX3_setWeight_24 : decode cX3_setWeight 24 = .ok (.athrow, 1) := by decide +kernel
theorem dX3_setWeight_25 : decode cX3_setWeight 25 = .ok (.aload_n 0, 1) := by decide +kernel
theorem dX3_setWeight_26 : decode cX3_setWeight 26 = .ok (.getfield 30, 3) := by decide +kernel
theorem dX3_setWeight_29 : decode cX3_setWeight 29 = .ok (.iload_n 1, 1) := by decide +kernel
theorem dX3_setWeight_30 : decode cX3_setWeight 30 = .ok (.iaload, 1) := by decide +kernel
theorem dX3_setWeight_31 : decode cX3_setWeight 31 = .ok (.istore_n 3, 1) := by decide +kernel
theorem dX3_setWeight_32 : decode cX3_setWeight 32 = .ok (.aload_n 0, 1) := by decide +kernel
theorem dX3_setWeight_33 : decode cX3_setWeight 33 = .ok (.getfield 30, 3) := by decide +kernel
theorem dX3_setWeight_36 : decode cX3_setWeight 36 = .ok (.iload_n 1, 1) := by decide +kernel
theorem dX3_setWeight_37 : decode cX3_setWeight 37 = .ok (.iload_n 2, 1) := by decide +kernel
theorem dX3_setWeight_38 : decode cX3_setWeight 38 = .ok (.iastore, 1) := by decide +kernel
theorem dX3_setWeight_39 : decode cX3_setWeight 39 = .ok (.iload_n 3, 1) := by decide +kernel
theorem dX3_setWeight_40 : decode cX3_setWeight 40 = .ok (.ireturn, 1) := by decide +kernel
set_option maxRecDepth 20000 in
theorem ggX3_setThreshold_X3_requireName : GoodIn wsX3_setThreshold wsX3_requireName := goodIn_ca (goodIn_r _ [8, 1, 2] (by decide +kernel) (by decide +kernel)) (goodIn_sub (fun _ h => List.mem_cons_of_mem _ (List.mem_append_right _ h)) (by decide +kernel))
set_option maxRecDepth 20000 in
theorem gX3_setThreshold_X3_requireName : GoodIn wsX3_setThreshold (wsV RX3 108 RX3 yX3_requireName wsX3_requireName) := goodIn_app (goodIn_of _ (by decide +kernel)) ggX3_setThreshold_X3_requireName
theorem dX3_setThreshold_0 : decode cX3_setThreshold 0 = .ok (.aload_n 0, 1) := by decide +kernel
theorem dX3_setThreshold_1 : decode cX3_setThreshold 1 = .ok (.iload_n 1, 1) := by decide +kernel
theorem dX3_setThreshold_2 : decode cX3_setThreshold 2 = .ok (.invokevirtual 108, 3) := by decide +kernel
theorem dX3_setThreshold_5 : decode cX3_setThreshold 5 = .ok (.iload_n 2, 1) := by decide +kernel
theorem dX3_setThreshold_6 : decode cX3_setThreshold 6 = .ok (.iconst 1, 1) := by decide +kernel
theorem dX3_setThreshold_7 : decode cX3_setThreshold 7 = .ok (.if_icmp .lt 10, 3) := by decide +kernel
theorem dX3_setThreshold_10 : decode cX3_setThreshold 10 = .ok (.iload_n 2, 1) := by decide +kernel
theorem dX3_setThreshold_11 : decode cX3_setThreshold 11 = .ok (.sipush 400, 3) := by decide +kernel
theorem dX3_setThreshold_14 : decode cX3_setThreshold 14 = .ok (.if_icmp .le 13, 3) := by decide +kernel
theorem dX3_setThreshold_17 : decode cX3_setThreshold 17 = .ok (.new 48, 3) := by decide +kernel
theorem dX3_setThreshold_20 : decode cX3_setThreshold 20 = .ok (.dup, 1) := by decide +kernel
theorem dX3_setThreshold_21 : decode cX3_setThreshold 21 = .ok (.ldc 111, 2) := by decide +kernel
theorem dX3_setThreshold_23 : decode cX3_setThreshold 23 = .ok (.invokespecial 52, 3) := by decide +kernel
theorem dX3_setThreshold_26 : decode cX3_setThreshold 26 = .ok (.athrow, 1) := by decide +kernel
theorem dX3_setThreshold_27 : decode cX3_setThreshold 27 = .ok (.aload_n 0, 1) := by decide +kernel
theorem dX3_setThreshold_28 : decode cX3_setThreshold 28 = .ok (.getfield 34, 3) := by decide +kernel
theorem dX3_setThreshold_31 : decode cX3_setThreshold 31 = .ok (.iload_n 1, 1) := by decide +kernel
theorem dX3_setThreshold_32 : decode cX3_setThreshold 32 = .ok (.iaload, 1) := by decide +kernel
theorem dX3_setThreshold_33 : decode cX3_setThreshold 33 = .ok (.istore_n 3, 1) := by decide +kernel
theorem dX3_setThreshold_34 : decode cX3_setThreshold 34 = .ok (.aload_n 0, 1) := by decide +kernel
theorem dX3_setThreshold_35 : decode cX3_setThreshold 35 = .ok (.getfield 34, 3) := by decide +kernel
theorem dX3_setThreshold_38 : decode cX3_setThreshold 38 = .ok (.iload_n 1, 1) := by decide +kernel
theorem dX3_setThreshold_39 : decode cX3_setThreshold 39 = .ok (.iload_n 2, 1) := by decide +kernel
theorem dX3_setThreshold_40 : decode cX3_setThreshold 40 = .ok (.iastore, 1) := by decide +kernel
theorem dX3_setThreshold_41 : decode cX3_setThreshold 41 = .ok (.iload_n 3, 1) := by decide +kernel
theorem dX3_setThreshold_42 : decode cX3_setThreshold 42 = .ok (.ireturn, 1) := by decide +kernel
set_option maxRecDepth 20000 in
theorem ggX3_build_X3_requireName : GoodIn wsX3_build wsX3_requireName := goodIn_ca (goodIn_r _ [12, 1, 2] (by decide +kernel) (by decide +kernel)) (goodIn_sub (fun _ h => List.mem_cons_of_mem _ (List.mem_append_left _ (List.mem_append_left _ (List.mem_append_right _ h)))) (by decide +kernel))
set_option maxRecDepth 20000 in
theorem gX3_build_X3_requireName : GoodIn wsX3_build (wsV RX3 108 RX3 yX3_requireName wsX3_requireName) := goodIn_app (goodIn_of _ (by decide +kernel)) ggX3_build_X3_requireName
set_option maxRecDepth 20000 in
theorem ggX3_build_X0_all : GoodIn wsX3_build wsX0_all := goodIn_r _ [16, 17, 18, 11, 19, 49, 50, 51, 52, 53, 54, 55, 56, 57, 58] (by decide +kernel) (by decide +kernel)
set_option maxRecDepth 20000 in
theorem gX3_build_X0_all_n113 : GoodIn wsX3_build (wsX0_all) := ggX3_build_X0_all
set_option maxRecDepth 20000 in
theorem ggX3_build_X0_recalled : GoodIn wsX3_build wsX0_recalled := goodIn_r _ [22, 23, 17, 24, 18, 11, 19, 49, 50, 51, 52, 53, 54, 55, 56, 57, 58] (by decide +kernel) (by decide +kernel)
set_option maxRecDepth 20000 in
theorem gX3_build_X0_recalled_n118 : GoodIn wsX3_build (wsX0_recalled) := ggX3_build_X0_recalled
set_option maxRecDepth 20000 in
theorem ggX3_build_X0_append : GoodIn wsX3_build wsX0_append := goodIn_r _ [27, 17, 28, 29, 24, 30, 31, 32, 33, 14, 34, 35, 36, 37, 38, 39, 11, 40, 41, 18, 19, 49, 50, 51, 52, 53, 54, 55, 56, 57, 58] (by decide +kernel) (by decide +kernel)
set_option maxRecDepth 20000 in
theorem gX3_build_X0_append_n129 : GoodIn wsX3_build (wsX0_append) := ggX3_build_X0_append
theorem dX3_build_0 : decode cX3_build 0 = .ok (.aload_n 0, 1) := by decide +kernel
theorem dX3_build_1 : decode cX3_build 1 = .ok (.iload_n 1, 1) := by decide +kernel
theorem dX3_build_2 : decode cX3_build 2 = .ok (.invokevirtual 108, 3) := by decide +kernel
theorem dX3_build_5 : decode cX3_build 5 = .ok (.iload_n 2, 1) := by decide +kernel
theorem dX3_build_6 : decode cX3_build 6 = .ok (.aload_n 0, 1) := by decide +kernel
theorem dX3_build_7 : decode cX3_build 7 = .ok (.getfield 19, 3) := by decide +kernel
theorem dX3_build_10 : decode cX3_build 10 = .ok (.invokevirtual 113, 3) := by decide +kernel
theorem dX3_build_13 : decode cX3_build 13 = .ok (.iconst (-1), 1) := by decide +kernel
theorem dX3_build_14 : decode cX3_build 14 = .ok (.ixor, 1) := by decide +kernel
theorem dX3_build_15 : decode cX3_build 15 = .ok (.iand, 1) := by decide +kernel
theorem dX3_build_16 : decode cX3_build 16 = .ok (.ifCond .eq 13, 3) := by decide +kernel
theorem dX3_build_19 : decode cX3_build 19 = .ok (.new 48, 3) := by decide +kernel
theorem dX3_build_22 : decode cX3_build 22 = .ok (.dup, 1) := by decide +kernel
theorem dX3_build_23 : decode cX3_build 23 = .ok (.ldc 116, 2) := by decide +kernel
theorem dX3_build_25 : decode cX3_build 25 = .ok (.invokespecial 52, 3) := by decide +kernel
theorem dX3_build_28 : decode cX3_build 28 = .ok (.athrow, 1) := by decide +kernel
theorem dX3_build_29 : decode cX3_build 29 = .ok (.iload_n 2, 1) := by decide +kernel
theorem dX3_build_30 : decode cX3_build 30 = .ok (.aload_n 0, 1) := by decide +kernel
theorem dX3_build_31 : decode cX3_build 31 = .ok (.getfield 19, 3) := by decide +kernel
theorem dX3_build_34 : decode cX3_build 34 = .ok (.invokevirtual 118, 3) := by decide +kernel
theorem dX3_build_37 : decode cX3_build 37 = .ok (.iand, 1) := by decide +kernel
theorem dX3_build_38 : decode cX3_build 38 = .ok (.ifCond .eq 13, 3) := by decide +kernel
theorem dX3_build_41 : decode cX3_build 41 = .ok (.new 121, 3) := by decide +kernel
theorem dX3_build_44 : decode cX3_build 44 = .ok (.dup, 1) := by decide +kernel
theorem dX3_build_45 : decode cX3_build 45 = .ok (.ldc 123, 2) := by decide +kernel
theorem dX3_build_47 : decode cX3_build 47 = .ok (.invokespecial 125, 3) := by decide +kernel
theorem dX3_build_50 : decode cX3_build 50 = .ok (.athrow, 1) := by decide +kernel
theorem dX3_build_51 : decode cX3_build 51 = .ok (.aload_n 0, 1) := by decide +kernel
theorem dX3_build_52 : decode cX3_build 52 = .ok (.getfield 19, 3) := by decide +kernel
theorem dX3_build_55 : decode cX3_build 55 = .ok (.getfield 126, 3) := by decide +kernel
theorem dX3_build_58 : decode cX3_build 58 = .ok (.bipush 24, 2) := by decide +kernel
theorem dX3_build_60 : decode cX3_build 60 = .ok (.if_icmp .lt 13, 3) := by decide +kernel
theorem dX3_build_63 : decode cX3_build 63 = .ok (.new 58, 3) := by decide +kernel
theorem dX3_build_66 : decode cX3_build 66 = .ok (.dup, 1) := by decide +kernel
theorem dX3_build_67 : decode cX3_build 67 = .ok (.ldc 127, 2) := by decide +kernel
theorem dX3_build_69 : decode cX3_build 69 = .ok (.invokespecial 62, 3) := by decide +kernel
theorem dX3_build_72 : decode cX3_build 72 = .ok (.athrow, 1) := by decide +kernel
theorem dX3_build_73 : decode cX3_build 73 = .ok (.aload_n 0, 1) := by decide +kernel
theorem dX3_build_74 : decode cX3_build 74 = .ok (.getfield 19, 3) := by decide +kernel
theorem dX3_build_77 : decode cX3_build 77 = .ok (.iload_n 1, 1) := by decide +kernel
theorem dX3_build_78 : decode cX3_build 78 = .ok (.iload_n 2, 1) := by decide +kernel
theorem dX3_build_79 : decode cX3_build 79 = .ok (.iload_n 3, 1) := by decide +kernel
theorem dX3_build_80 : decode cX3_build 80 = .ok (.invokevirtual 129, 3) := by decide +kernel
theorem dX3_build_83 : decode cX3_build 83 = .ok (.ireturn, 1) := by decide +kernel
set_option maxRecDepth 20000 in
theorem ggX3_nameOf_X3_requireBuild : GoodIn wsX3_nameOf wsX3_requireBuild := goodIn_ca (goodIn_r _ [6, 7, 8, 1, 9, 10, 11, 12, 13, 14, 15, 16, 17, 18, 19, 20, 21, 22, 23, 24, 25] (by decide +kernel) (by decide +kernel)) (goodIn_sub (fun _ h => List.mem_cons_of_mem _ (List.mem_append_right _ h)) (by decide +kernel))
set_option maxRecDepth 20000 in
theorem gX3_nameOf_X3_requireBuild : GoodIn wsX3_nameOf (wsV RX3 130 RX3 yX3_requireBuild wsX3_requireBuild) := goodIn_app (goodIn_of _ (by decide +kernel)) ggX3_nameOf_X3_requireBuild
theorem dX3_nameOf_0 : decode cX3_nameOf 0 = .ok (.aload_n 0, 1) := by decide +kernel
theorem dX3_nameOf_1 : decode cX3_nameOf 1 = .ok (.iload_n 1, 1) := by decide +kernel
theorem dX3_nameOf_2 : decode cX3_nameOf 2 = .ok (.invokevirtual 130, 3) := by decide +kernel
theorem dX3_nameOf_5 : decode cX3_nameOf 5 = .ok (.aload_n 0, 1) := by decide +kernel
theorem dX3_nameOf_6 : decode cX3_nameOf 6 = .ok (.getfield 19, 3) := by decide +kernel
theorem dX3_nameOf_9 : decode cX3_nameOf 9 = .ok (.getfield 133, 3) := by decide +kernel
theorem dX3_nameOf_12 : decode cX3_nameOf 12 = .ok (.iload_n 1, 1) := by decide +kernel
theorem dX3_nameOf_13 : decode cX3_nameOf 13 = .ok (.iaload, 1) := by decide +kernel
theorem dX3_nameOf_14 : decode cX3_nameOf 14 = .ok (.ireturn, 1) := by decide +kernel
set_option maxRecDepth 20000 in
theorem ggX3_version_X3_requireBuild : GoodIn wsX3_version wsX3_requireBuild := goodIn_ca (goodIn_r _ [6, 7, 8, 1, 9, 10, 11, 12, 13, 14, 15, 16, 17, 18, 19, 20, 21, 22, 23, 24, 25] (by decide +kernel) (by decide +kernel)) (goodIn_sub (fun _ h => List.mem_cons_of_mem _ (List.mem_append_right _ h)) (by decide +kernel))
set_option maxRecDepth 20000 in
theorem gX3_version_X3_requireBuild : GoodIn wsX3_version (wsV RX3 130 RX3 yX3_requireBuild wsX3_requireBuild) := goodIn_app (goodIn_of _ (by decide +kernel)) ggX3_version_X3_requireBuild
theorem dX3_version_0 : decode cX3_version 0 = .ok (.aload_n 0, 1) := by decide +kernel
theorem dX3_version_1 : decode cX3_version 1 = .ok (.iload_n 1, 1) := by decide +kernel
theorem dX3_version_2 : decode cX3_version 2 = .ok (.invokevirtual 130, 3) := by decide +kernel
theorem dX3_version_5 : decode cX3_version 5 = .ok (.aload_n 0, 1) := by decide +kernel
theorem dX3_version_6 : decode cX3_version 6 = .ok (.getfield 19, 3) := by decide +kernel
theorem dX3_version_9 : decode cX3_version 9 = .ok (.getfield 136, 3) := by decide +kernel
theorem dX3_version_12 : decode cX3_version 12 = .ok (.iload_n 1, 1) := by decide +kernel
theorem dX3_version_13 : decode cX3_version 13 = .ok (.iaload, 1) := by decide +kernel
theorem dX3_version_14 : decode cX3_version 14 = .ok (.ireturn, 1) := by decide +kernel
set_option maxRecDepth 20000 in
theorem ggX3_uses_X3_requireBuild : GoodIn wsX3_uses wsX3_requireBuild := goodIn_ca (goodIn_r _ [6, 7, 8, 1, 15, 16, 17, 18, 19, 20, 21, 22, 23, 24, 25, 26, 27, 28, 29, 30, 31] (by decide +kernel) (by decide +kernel)) (goodIn_sub (fun _ h => List.mem_cons_of_mem _ (List.mem_append_right _ h)) (by decide +kernel))
set_option maxRecDepth 20000 in
theorem gX3_uses_X3_requireBuild : GoodIn wsX3_uses (wsV RX3 130 RX3 yX3_requireBuild wsX3_requireBuild) := goodIn_app (goodIn_of _ (by decide +kernel)) ggX3_uses_X3_requireBuild
set_option maxRecDepth 20000 in
theorem ggX3_uses_X3_holds : GoodIn wsX3_uses wsX3_holds := goodIn_r _ [11, 12, 13, 5, 14] (by decide +kernel) (by decide +kernel)
set_option maxRecDepth 20000 in
theorem gX3_uses_X3_holds : GoodIn wsX3_uses (va_wsS RX3 73 yX3_holds wsX3_holds) := goodIn_app (goodIn_of _ (by decide +kernel)) ggX3_uses_X3_holds
theorem dX3_uses_0 : decode cX3_uses 0 = .ok (.aload_n 0, 1) := by decide +kernel
theorem dX3_uses_1 : decode cX3_uses 1 = .ok (.iload_n 1, 1) := by decide +kernel
theorem dX3_uses_2 : decode cX3_uses 2 = .ok (.invokevirtual 130, 3) := by decide +kernel
theorem dX3_uses_5 : decode cX3_uses 5 = .ok (.aload_n 0, 1) := by decide +kernel
theorem dX3_uses_6 : decode cX3_uses 6 = .ok (.iload_n 2, 1) := by decide +kernel
theorem dX3_uses_7 : decode cX3_uses 7 = .ok (.invokevirtual 130, 3) := by decide +kernel
theorem dX3_uses_10 : decode cX3_uses 10 = .ok (.aload_n 0, 1) := by decide +kernel
theorem dX3_uses_11 : decode cX3_uses 11 = .ok (.getfield 19, 3) := by decide +kernel
theorem dX3_uses_14 : decode cX3_uses 14 = .ok (.getfield 139, 3) := by decide +kernel
theorem dX3_uses_17 : decode cX3_uses 17 = .ok (.iload_n 1, 1) := by decide +kernel
theorem dX3_uses_18 : decode cX3_uses 18 = .ok (.iaload, 1) := by decide +kernel
theorem dX3_uses_19 : decode cX3_uses 19 = .ok (.iload_n 2, 1) := by decide +kernel
theorem dX3_uses_20 : decode cX3_uses 20 = .ok (.invokestatic 73, 3) := by decide +kernel
theorem dX3_uses_23 : decode cX3_uses 23 = .ok (.ireturn, 1) := by decide +kernel
set_option maxRecDepth 20000 in
theorem ggX3_used_X3_requireBuild : GoodIn wsX3_used wsX3_requireBuild := goodIn_ca (goodIn_r _ [6, 7, 8, 1, 16, 17, 18, 19, 20, 21, 22, 23, 24, 25, 26, 27, 28, 29, 30, 31, 32] (by decide +kernel) (by decide +kernel)) (goodIn_sub (fun _ h => List.mem_cons_of_mem _ (List.mem_append_right _ h)) (by decide +kernel))
set_option maxRecDepth 20000 in
theorem gX3_used_X3_requireBuild : GoodIn wsX3_used (wsV RX3 130 RX3 yX3_requireBuild wsX3_requireBuild) := goodIn_app (goodIn_of _ (by decide +kernel)) ggX3_used_X3_requireBuild
set_option maxRecDepth 20000 in
theorem ggX3_used_J6_bitCount_0f7a4 : GoodIn wsX3_used wsJ6_bitCount_0f7a4 := goodIn_r _ [12, 13, 14, 15] (by decide +kernel) (by decide +kernel)
set_option maxRecDepth 20000 in
theorem gX3_used_J6_bitCount_0f7a4 : GoodIn wsX3_used (va_wsS RX3 91 yJ6_bitCount_0f7a4 wsJ6_bitCount_0f7a4) := goodIn_app (goodIn_of _ (by decide +kernel)) ggX3_used_J6_bitCount_0f7a4
theorem dX3_used_0 : decode cX3_used 0 = .ok (.aload_n 0, 1) := by decide +kernel
theorem dX3_used_1 : decode cX3_used 1 = .ok (.iload_n 1, 1) := by decide +kernel
theorem dX3_used_2 : decode cX3_used 2 = .ok (.invokevirtual 130, 3) := by decide +kernel
theorem dX3_used_5 : decode cX3_used 5 = .ok (.aload_n 0, 1) := by decide +kernel
theorem dX3_used_6 : decode cX3_used 6 = .ok (.getfield 19, 3) := by decide +kernel
theorem dX3_used_9 : decode cX3_used 9 = .ok (.getfield 139, 3) := by decide +kernel
theorem dX3_used_12 : decode cX3_used 12 = .ok (.iload_n 1, 1) := by decide +kernel
theorem dX3_used_13 : decode cX3_used 13 = .ok (.iaload, 1) := by decide +kernel
theorem dX3_used_14 : decode cX3_used 14 = .ok (.invokestatic 91, 3) := by decide +kernel
theorem dX3_used_17 : decode cX3_used 17 = .ok (.ireturn, 1) := by decide +kernel
set_option maxRecDepth 20000 in
theorem ggX3_newest_X3_requireName : GoodIn wsX3_newest wsX3_requireName := goodIn_ca (goodIn_r _ [6, 7, 8] (by decide +kernel) (by decide +kernel)) (goodIn_sub (fun _ h => List.mem_cons_of_mem _ (List.mem_append_left _ (List.mem_append_right _ h))) (by decide +kernel))
set_option maxRecDepth 20000 in
theorem gX3_newest_X3_requireName : GoodIn wsX3_newest (wsV RX3 108 RX3 yX3_requireName wsX3_requireName) := goodIn_app (goodIn_of _ (by decide +kernel)) ggX3_newest_X3_requireName
set_option maxRecDepth 20000 in
theorem ggX3_newest_X3_trustedBuilds : GoodIn wsX3_newest wsX3_trustedBuilds := goodIn_r _ [12, 1, 13, 14, 15, 5, 16, 17, 18, 19, 20, 21, 22, 23, 24, 25, 26, 27, 28, 29, 46, 47, 48, 49, 50, 51, 52, 53, 54, 55, 56, 57, 58, 59, 60, 61, 62] (by decide +kernel) (by decide +kernel)
set_option maxRecDepth 20000 in
theorem gX3_newest_X3_trustedBuilds : GoodIn wsX3_newest (wsV RX3 79 RX3 yX3_trustedBuilds wsX3_trustedBuilds) := goodIn_app (goodIn_of _ (by decide +kernel)) ggX3_newest_X3_trustedBuilds
set_option maxRecDepth 20000 in
theorem ggX3_newest_X0_recalled : GoodIn wsX3_newest wsX0_recalled := goodIn_r _ [33, 34, 35, 36, 28, 5, 29, 53, 54, 55, 56, 57, 58, 59, 60, 61, 62] (by decide +kernel) (by decide +kernel)
set_option maxRecDepth 20000 in
theorem gX3_newest_X0_recalled_n118 : GoodIn wsX3_newest (wsX0_recalled) := ggX3_newest_X0_recalled
set_option maxRecDepth 20000 in
theorem ggX3_newest_X0_newestOf : GoodIn wsX3_newest wsX0_newestOf := goodIn_r _ [39, 35, 40, 25, 5, 26, 27, 28, 29, 53, 54, 55, 56, 57, 58, 59, 60, 61, 62] (by decide +kernel) (by decide +kernel)
set_option maxRecDepth 20000 in
theorem gX3_newest_X0_newestOf_n142 : GoodIn wsX3_newest (wsX0_newestOf) := ggX3_newest_X0_newestOf
set_option maxRecDepth 20000 in
theorem ggX3_newest_X3_requireFound : GoodIn wsX3_newest wsX3_requireFound := goodIn_ca (goodIn_r _ [43, 44, 45] (by decide +kernel) (by decide +kernel)) (goodIn_sub (fun _ h => List.mem_cons_of_mem _ (List.mem_append_right _ h)) (by decide +kernel))
set_option maxRecDepth 20000 in
theorem gX3_newest_X3_requireFound : GoodIn wsX3_newest (va_wsS RX3 146 yX3_requireFound wsX3_requireFound) := goodIn_app (goodIn_of _ (by decide +kernel)) ggX3_newest_X3_requireFound
theorem dX3_newest_0 : decode cX3_newest 0 = .ok (.aload_n 0, 1) := by decide +kernel
theorem dX3_newest_1 : decode cX3_newest 1 = .ok (.iload_n 1, 1) := by decide +kernel
theorem dX3_newest_2 : decode cX3_newest 2 = .ok (.invokevirtual 108, 3) := by decide +kernel
theorem dX3_newest_5 : decode cX3_newest 5 = .ok (.aload_n 0, 1) := by decide +kernel
theorem dX3_newest_6 : decode cX3_newest 6 = .ok (.getfield 19, 3) := by decide +kernel
theorem dX3_newest_9 : decode cX3_newest 9 = .ok (.iload_n 1, 1) := by decide +kernel
theorem dX3_newest_10 : decode cX3_newest 10 = .ok (.aload_n 0, 1) := by decide +kernel
theorem dX3_newest_11 : decode cX3_newest 11 = .ok (.invokevirtual 79, 3) := by decide +kernel
theorem dX3_newest_14 : decode cX3_newest 14 = .ok (.aload_n 0, 1) := by decide +kernel
theorem dX3_newest_15 : decode cX3_newest 15 = .ok (.getfield 19, 3) := by decide +kernel
theorem dX3_newest_18 : decode cX3_newest 18 = .ok (.invokevirtual 118, 3) := by decide +kernel
theorem dX3_newest_21 : decode cX3_newest 21 = .ok (.iconst (-1), 1) := by decide +kernel
theorem dX3_newest_22 : decode cX3_newest 22 = .ok (.ixor, 1) := by decide +kernel
theorem dX3_newest_23 : decode cX3_newest 23 = .ok (.iand, 1) := by decide +kernel
theorem dX3_newest_24 : decode cX3_newest 24 = .ok (.invokevirtual 142, 3) := by decide +kernel
theorem dX3_newest_27 : decode cX3_newest 27 = .ok (.invokestatic 146, 3) := by decide +kernel
theorem dX3_newest_30 : decode cX3_newest 30 = .ok (.ireturn, 1) := by decide +kernel
set_option maxRecDepth 20000 in
theorem ggX3_attest_X3_requireBuild : GoodIn wsX3_attest wsX3_requireBuild := goodIn_ca (goodIn_r _ [12, 13, 14, 7, 46, 47, 48, 49, 50, 51, 52, 53, 54, 55, 56, 57, 58, 59, 60, 61, 62] (by decide +kernel) (by decide +kernel)) (goodIn_sub (fun _ h => List.mem_cons_of_mem _ (List.mem_append_right _ h)) (by decide +kernel))
set_option maxRecDepth 20000 in
theorem gX3_attest_X3_requireBuild : GoodIn wsX3_attest (wsV RX3 130 RX3 yX3_requireBuild wsX3_requireBuild) := goodIn_app (goodIn_of _ (by decide +kernel)) ggX3_attest_X3_requireBuild
set_option maxRecDepth 20000 in
theorem ggX3_attest_X3_requireKey : GoodIn wsX3_attest wsX3_requireKey := goodIn_ca (goodIn_r _ [18, 13, 14, 5, 46, 47, 48, 49, 50, 51, 52, 63, 64, 65, 66, 67] (by decide +kernel) (by decide +kernel)) (goodIn_sub (fun _ h => List.mem_cons_of_mem _ (List.mem_append_right _ h)) (by decide +kernel))
set_option maxRecDepth 20000 in
theorem gX3_attest_X3_requireKey : GoodIn wsX3_attest (wsV RX3 67 RX3 yX3_requireKey wsX3_requireKey) := goodIn_app (goodIn_of _ (by decide +kernel)) ggX3_attest_X3_requireKey
set_option maxRecDepth 20000 in
theorem ggX3_attest_X1_liveOn : GoodIn wsX3_attest wsX1_liveOn := goodIn_r _ [22, 23, 24, 25, 26, 11, 27, 28, 29, 30, 63, 64, 65, 66, 67] (by decide +kernel) (by decide +kernel)
set_option maxRecDepth 20000 in
theorem gX3_attest_X1_liveOn_n103 : GoodIn wsX3_attest (wsX1_liveOn) := ggX3_attest_X1_liveOn
set_option maxRecDepth 20000 in
theorem ggX3_attest_X3_holds : GoodIn wsX3_attest wsX3_holds := goodIn_r _ [27, 28, 29, 11, 30] (by decide +kernel) (by decide +kernel)
set_option maxRecDepth 20000 in
theorem gX3_attest_X3_holds : GoodIn wsX3_attest (va_wsS RX3 73 yX3_holds wsX3_holds) := goodIn_app (goodIn_of _ (by decide +kernel)) ggX3_attest_X3_holds
set_option maxRecDepth 20000 in
theorem ggX3_attest_X0_recalled : GoodIn wsX3_attest wsX0_recalled := goodIn_r _ [35, 36, 37, 38, 29, 11, 30, 53, 54, 55, 56, 57, 58, 59, 60, 61, 62] (by decide +kernel) (by decide +kernel)
set_option maxRecDepth 20000 in
theorem gX3_attest_X0_recalled_n118 : GoodIn wsX3_attest (wsX0_recalled) := ggX3_attest_X0_recalled
set_option maxRecDepth 20000 in
theorem ggX3_attest_X3_only : GoodIn wsX3_attest wsX3_only := goodIn_r _ [30] (by decide +kernel) (by decide +kernel)
set_option maxRecDepth 20000 in
theorem gX3_attest_X3_only : GoodIn wsX3_attest (va_wsS RX3 83 yX3_only wsX3_only) := goodIn_app (goodIn_of _ (by decide +kernel)) ggX3_attest_X3_only
set_option maxRecDepth 20000 in
theorem ggX3_attest_J6_bitCount_0f7a4 : GoodIn wsX3_attest wsJ6_bitCount_0f7a4 := goodIn_r _ [42, 43, 44, 45] (by decide +kernel) (by decide +kernel)
set_option maxRecDepth 20000 in
theorem gX3_attest_J6_bitCount_0f7a4 : GoodIn wsX3_attest (va_wsS RX3 91 yJ6_bitCount_0f7a4 wsJ6_bitCount_0f7a4) := goodIn_app (goodIn_of _ (by decide +kernel)) ggX3_attest_J6_bitCount_0f7a4
theorem dX3_attest_0 : decode cX3_attest 0 = .ok (.aload_n 0, 1) := by decide +kernel
theorem dX3_attest_1 : decode cX3_attest 1 = .ok (.iload_n 1, 1) := by decide +kernel
theorem dX3_attest_2 : decode cX3_attest 2 = .ok (.invokevirtual 130, 3) := by decide +kernel
theorem dX3_attest_5 : decode cX3_attest 5 = .ok (.aload_n 0, 1) := by decide +kernel
theorem dX3_attest_6 : decode cX3_attest 6 = .ok (.iload_n 2, 1) := by decide +kernel
theorem dX3_attest_7 : decode cX3_attest 7 = .ok (.invokevirtual 67, 3) := by decide +kernel
theorem dX3_attest_10 : decode cX3_attest 10 = .ok (.aload_n 0, 1) := by decide +kernel
theorem dX3_attest_11 : decode cX3_attest 11 = .ok (.getfield 10, 3) := by decide +kernel
theorem dX3_attest_14 : decode cX3_attest 14 = .ok (.iload_n 2, 1) := by decide +kernel
theorem dX3_attest_15 : decode cX3_attest 15 = .ok (.aload_n 0, 1) := by decide +kernel
theorem dX3_attest_16 : decode cX3_attest 16 = .ok (.getfield 41, 3) := by decide +kernel
theorem dX3_attest_19 : decode cX3_attest 19 = .ok (.invokevirtual 103, 3) := by decide +kernel
theorem dX3_attest_22 : decode cX3_attest 22 = .ok (.ifCond .eq 19, 3) := by decide +kernel
theorem dX3_attest_25 : decode cX3_attest 25 = .ok (.aload_n 0, 1) := by decide +kernel
theorem dX3_attest_26 : decode cX3_attest 26 = .ok (.getfield 19, 3) := by decide +kernel
theorem dX3_attest_29 : decode cX3_attest 29 = .ok (.getfield 149, 3) := by decide +kernel
theorem dX3_attest_32 : decode cX3_attest 32 = .ok (.iload_n 1, 1) := by decide +kernel
theorem dX3_attest_33 : decode cX3_attest 33 = .ok (.iaload, 1) := by decide +kernel
theorem dX3_attest_34 : decode cX3_attest 34 = .ok (.iload_n 2, 1) := by decide +kernel
theorem dX3_attest_35 : decode cX3_attest 35 = .ok (.invokestatic 73, 3) := by decide +kernel
theorem dX3_attest_38 : decode cX3_attest 38 = .ok (.ifCond .eq 13, 3) := by decide +kernel
theorem dX3_attest_41 : decode cX3_attest 41 = .ok (.new 58, 3) := by decide +kernel
theorem dX3_attest_44 : decode cX3_attest 44 = .ok (.dup, 1) := by decide +kernel
theorem dX3_attest_45 : decode cX3_attest 45 = .ok (.ldc 152, 2) := by decide +kernel
theorem dX3_attest_47 : decode cX3_attest 47 = .ok (.invokespecial 62, 3) := by decide +kernel
theorem dX3_attest_50 : decode cX3_attest 50 = .ok (.athrow, 1) := by decide +kernel
theorem dX3_attest_51 : decode cX3_attest 51 = .ok (.aload_n 0, 1) := by decide +kernel
theorem dX3_attest_52 : decode cX3_attest 52 = .ok (.getfield 19, 3) := by decide +kernel
theorem dX3_attest_55 : decode cX3_attest 55 = .ok (.invokevirtual 118, 3) := by decide +kernel
theorem dX3_attest_58 : decode cX3_attest 58 = .ok (.iload_n 1, 1) := by decide +kernel
theorem dX3_attest_59 : decode cX3_attest 59 = .ok (.invokestatic 73, 3) := by decide +kernel
theorem dX3_attest_62 : decode cX3_attest 62 = .ok (.ifCond .eq 13, 3) := by decide +kernel
theorem dX3_attest_65 : decode cX3_attest 65 = .ok (.new 121, 3) := by decide +kernel
theorem dX3_attest_68 : decode cX3_attest 68 = .ok (.dup, 1) := by decide +kernel
theorem dX3_attest_69 : decode cX3_attest 69 = .ok (.ldc 154, 2) := by decide +kernel
theorem dX3_attest_71 : decode cX3_attest 71 = .ok (.invokespecial 125, 3) := by decide +kernel
theorem dX3_attest_74 : decode cX3_attest 74 = .ok (.athrow, 1) := by decide +kernel
theorem dX3_attest_75 : decode cX3_attest 75 = .ok (.aload_n 0, 1) := by decide +kernel
theorem dX3_attest_76 : decode cX3_attest 76 = .ok (.getfield 19, 3) := by decide +kernel
theorem dX3_attest_79 : decode cX3_attest 79 = .ok (.getfield 149, 3) := by decide +kernel
theorem dX3_attest_82 : decode cX3_attest 82 = .ok (.iload_n 1, 1) := by decide +kernel
theorem dX3_attest_83 : decode cX3_attest 83 = .ok (.dup2, 1) := by decide +kernel
theorem dX3_attest_84 : decode cX3_attest 84 = .ok (.iaload, 1) := by decide +kernel
theorem dX3_attest_85 : decode cX3_attest 85 = .ok (.iload_n 2, 1) := by decide +kernel
theorem dX3_attest_86 : decode cX3_attest 86 = .ok (.invokestatic 83, 3) := by decide +kernel
theorem dX3_attest_89 : decode cX3_attest 89 = .ok (.ior, 1) := by decide +kernel
theorem dX3_attest_90 : decode cX3_attest 90 = .ok (.iastore, 1) := by decide +kernel
theorem dX3_attest_91 : decode cX3_attest 91 = .ok (.aload_n 0, 1) := by decide +kernel
theorem dX3_attest_92 : decode cX3_attest 92 = .ok (.getfield 19, 3) := by decide +kernel
theorem dX3_attest_95 : decode cX3_attest 95 = .ok (.getfield 156, 3) := by decide +kernel
theorem dX3_attest_98 : decode cX3_attest 98 = .ok (.iload_n 1, 1) := by decide +kernel
theorem dX3_attest_99 : decode cX3_attest 99 = .ok (.dup2, 1) := by decide +kernel
theorem dX3_attest_100 : decode cX3_attest 100 = .ok (.iaload, 1) := by decide +kernel
theorem dX3_attest_101 : decode cX3_attest 101 = .ok (.aload_n 0, 1) := by decide +kernel
theorem dX3_attest_102 : decode cX3_attest 102 = .ok (.getfield 10, 3) := by decide +kernel
theorem dX3_attest_105 : decode cX3_attest 105 = .ok (.getfield 159, 3) := by decide +kernel
theorem dX3_attest_108 : decode cX3_attest 108 = .ok (.iload_n 2, 1) := by decide +kernel
theorem dX3_attest_109 : decode cX3_attest 109 = .ok (.iaload, 1) := by decide +kernel
theorem dX3_attest_110 : decode cX3_attest 110 = .ok (.invokestatic 83, 3) := by decide +kernel
theorem dX3_attest_113 : decode cX3_attest 113 = .ok (.ior, 1) := by decide +kernel
theorem dX3_attest_114 : decode cX3_attest 114 = .ok (.iastore, 1) := by decide +kernel
theorem dX3_attest_115 : decode cX3_attest 115 = .ok (.aload_n 0, 1) := by decide +kernel
theorem dX3_attest_116 : decode cX3_attest 116 = .ok (.getfield 19, 3) := by decide +kernel
theorem dX3_attest_119 : decode cX3_attest 119 = .ok (.getfield 149, 3) := by decide +kernel
theorem dX3_attest_122 : decode cX3_attest 122 = .ok (.iload_n 1, 1) := by decide +kernel
theorem dX3_attest_123 : decode cX3_attest 123 = .ok (.iaload, 1) := by decide +kernel
theorem dX3_attest_124 : decode cX3_attest 124 = .ok (.invokestatic 91, 3) := by decide +kernel
theorem dX3_attest_127 : decode cX3_attest 127 = .ok (.ireturn, 1) := by decide +kernel
set_option maxRecDepth 20000 in
theorem ggX3_vouches_X3_requireBuild : GoodIn wsX3_vouches wsX3_requireBuild := goodIn_ca (goodIn_r _ [6, 7, 8, 1, 21, 22, 23, 24, 25, 26, 27, 28, 29, 30, 31, 32, 33, 34, 35, 36, 37] (by decide +kernel) (by decide +kernel)) (goodIn_sub (fun _ h => List.mem_cons_of_mem _ (List.mem_append_left _ (List.mem_append_right _ h))) (by decide +kernel))
set_option maxRecDepth 20000 in
theorem gX3_vouches_X3_requireBuild : GoodIn wsX3_vouches (wsV RX3 130 RX3 yX3_requireBuild wsX3_requireBuild) := goodIn_app (goodIn_of _ (by decide +kernel)) ggX3_vouches_X3_requireBuild
set_option maxRecDepth 20000 in
theorem ggX3_vouches_X3_requireSigner : GoodIn wsX3_vouches wsX3_requireSigner := goodIn_ca (goodIn_r _ [12, 13, 14] (by decide +kernel) (by decide +kernel)) (goodIn_sub (fun _ h => List.mem_cons_of_mem _ (List.mem_append_right _ h)) (by decide +kernel))
set_option maxRecDepth 20000 in
theorem gX3_vouches_X3_requireSigner : GoodIn wsX3_vouches (wsV RX3 44 RX3 yX3_requireSigner wsX3_requireSigner) := goodIn_app (goodIn_of _ (by decide +kernel)) ggX3_vouches_X3_requireSigner
set_option maxRecDepth 20000 in
theorem ggX3_vouches_X3_holds : GoodIn wsX3_vouches wsX3_holds := goodIn_r _ [17, 18, 19, 5, 20] (by decide +kernel) (by decide +kernel)
set_option maxRecDepth 20000 in
theorem gX3_vouches_X3_holds : GoodIn wsX3_vouches (va_wsS RX3 73 yX3_holds wsX3_holds) := goodIn_app (goodIn_of _ (by decide +kernel)) ggX3_vouches_X3_holds
theorem dX3_vouches_0 : decode cX3_vouches 0 = .ok (.aload_n 0, 1) := by decide +kernel
theorem dX3_vouches_1 : decode cX3_vouches 1 = .ok (.iload_n 1, 1) := by decide +kernel
theorem dX3_vouches_2 : decode cX3_vouches 2 = .ok (.invokevirtual 130, 3) := by decide +kernel
theorem dX3_vouches_5 : decode cX3_vouches 5 = .ok (.aload_n 0, 1) := by decide +kernel
theorem dX3_vouches_6 : decode cX3_vouches 6 = .ok (.iload_n 2, 1) := by decide +kernel
theorem dX3_vouches_7 : decode cX3_vouches 7 = .ok (.invokevirtual 44, 3) := by decide +kernel
theorem dX3_vouches_10 : decode cX3_vouches 10 = .ok (.aload_n 0, 1) := by decide +kernel
theorem dX3_vouches_11 : decode cX3_vouches 11 = .ok (.getfield 19, 3) := by decide +kernel
theorem dX3_vouches_14 : decode cX3_vouches 14 = .ok (.getfield 156, 3) := by decide +kernel
theorem dX3_vouches_17 : decode cX3_vouches 17 = .ok (.iload_n 1, 1) := by decide +kernel
theorem dX3_vouches_18 : decode cX3_vouches 18 = .ok (.iaload, 1) := by decide +kernel
theorem dX3_vouches_19 : decode cX3_vouches 19 = .ok (.iload_n 2, 1) := by decide +kernel
theorem dX3_vouches_20 : decode cX3_vouches 20 = .ok (.invokestatic 73, 3) := by decide +kernel
theorem dX3_vouches_23 : decode cX3_vouches 23 = .ok (.ireturn, 1) := by decide +kernel
set_option maxRecDepth 20000 in
theorem ggX3_vouchesByList_X3_requireBuild : GoodIn wsX3_vouchesByList wsX3_requireBuild := goodIn_ca (goodIn_r _ [8, 9, 10, 2, 39, 40, 41, 42, 43, 44, 45, 46, 47, 48, 49, 50, 51, 52, 53, 54, 55] (by decide +kernel) (by decide +kernel)) (goodIn_sub (fun _ h => List.mem_cons_of_mem _ (List.mem_append_left _ (List.mem_append_right _ h))) (by decide +kernel))
set_option maxRecDepth 20000 in
theorem gX3_vouchesByList_X3_requireBuild : GoodIn wsX3_vouchesByList (wsV RX3 130 RX3 yX3_requireBuild wsX3_requireBuild) := goodIn_app (goodIn_of _ (by decide +kernel)) ggX3_vouchesByList_X3_requireBuild
set_option maxRecDepth 20000 in
theorem ggX3_vouchesByList_X3_requireSigner : GoodIn wsX3_vouchesByList wsX3_requireSigner := goodIn_ca (goodIn_r _ [14, 15, 16] (by decide +kernel) (by decide +kernel)) (goodIn_sub (fun _ h => List.mem_cons_of_mem _ (List.mem_append_right _ h)) (by decide +kernel))
set_option maxRecDepth 20000 in
theorem gX3_vouchesByList_X3_requireSigner : GoodIn wsX3_vouchesByList (wsV RX3 44 RX3 yX3_requireSigner wsX3_requireSigner) := goodIn_app (goodIn_of _ (by decide +kernel)) ggX3_vouchesByList_X3_requireSigner
set_option maxRecDepth 20000 in
theorem ggX3_vouchesByList_X1_live : GoodIn wsX3_vouchesByList wsX1_live := goodIn_r _ [20, 21, 22, 23, 24, 18, 25, 26, 27, 28, 29, 7, 30, 31, 32, 33, 56, 57, 58, 59, 60] (by decide +kernel) (by decide +kernel)
set_option maxRecDepth 20000 in
theorem gX3_vouchesByList_X1_live_n162 : GoodIn wsX3_vouchesByList (wsX1_live) := ggX3_vouchesByList_X1_live
set_option maxRecDepth 20000 in
theorem ggX3_vouchesByList_X1_signersOf : GoodIn wsX3_vouchesByList wsX1_signersOf := goodIn_r _ [36, 21, 37, 29, 7, 30, 31, 32, 33, 56, 57, 58, 59, 60] (by decide +kernel) (by decide +kernel)
set_option maxRecDepth 20000 in
theorem gX3_vouchesByList_X1_signersOf_n165 : GoodIn wsX3_vouchesByList (wsX1_signersOf) := ggX3_vouchesByList_X1_signersOf
set_option maxRecDepth 20000 in
theorem ggX3_vouchesByList_X3_holds : GoodIn wsX3_vouchesByList wsX3_holds := goodIn_r _ [30, 31, 32, 7, 33] (by decide +kernel) (by decide +kernel)
set_option maxRecDepth 20000 in
theorem gX3_vouchesByList_X3_holds : GoodIn wsX3_vouchesByList (va_wsS RX3 73 yX3_holds wsX3_holds) := goodIn_app (goodIn_of _ (by decide +kernel)) ggX3_vouchesByList_X3_holds
theorem dX3_vouchesByList_0 : decode cX3_vouchesByList 0 = .ok (.aload_n 0, 1) := by decide +kernel
theorem dX3_vouchesByList_1 : decode cX3_vouchesByList 1 = .ok (.iload_n 1, 1) := by decide +kernel
theorem dX3_vouchesByList_2 : decode cX3_vouchesByList 2 = .ok (.invokevirtual 130, 3) := by decide +kernel
theorem dX3_vouchesByList_5 : decode cX3_vouchesByList 5 = .ok (.aload_n 0, 1) := by decide +kernel
theorem dX3_vouchesByList_6 : decode cX3_vouchesByList 6 = .ok (.iload_n 2, 1) := by decide +kernel
theorem dX3_vouchesByList_7 : decode cX3_vouchesByList 7 = .ok (.invokevirtual 44, 3) := by decide +kernel
theorem dX3_vouchesByList_10 : decode cX3_vouchesByList 10 = .ok (.aload_n 0, 1) := by decide +kernel
theorem dX3_vouchesByList_11 : decode cX3_vouchesByList 11 = .ok (.getfield 10, 3) := by decide +kernel
theorem dX3_vouchesByList_14 : decode cX3_vouchesByList 14 = .ok (.aload_n 0, 1) := by decide +kernel
theorem dX3_vouchesByList_15 : decode cX3_vouchesByList 15 = .ok (.getfield 19, 3) := by decide +kernel
theorem dX3_vouchesByList_18 : decode cX3_vouchesByList 18 = .ok (.getfield 149, 3) := by decide +kernel
theorem dX3_vouchesByList_21 : decode cX3_vouchesByList 21 = .ok (.iload_n 1, 1) := by decide +kernel
theorem dX3_vouchesByList_22 : decode cX3_vouchesByList 22 = .ok (.iaload, 1) := by decide +kernel
theorem dX3_vouchesByList_23 : decode cX3_vouchesByList 23 = .ok (.aload_n 0, 1) := by decide +kernel
theorem dX3_vouchesByList_24 : decode cX3_vouchesByList 24 = .ok (.getfield 10, 3) := by decide +kernel
theorem dX3_vouchesByList_27 : decode cX3_vouchesByList 27 = .ok (.aload_n 0, 1) := by decide +kernel
theorem dX3_vouchesByList_28 : decode cX3_vouchesByList 28 = .ok (.getfield 41, 3) := by decide +kernel
theorem dX3_vouchesByList_31 : decode cX3_vouchesByList 31 = .ok (.invokevirtual 162, 3) := by decide +kernel
theorem dX3_vouchesByList_34 : decode cX3_vouchesByList 34 = .ok (.iand, 1) := by decide +kernel
theorem dX3_vouchesByList_35 : decode cX3_vouchesByList 35 = .ok (.invokevirtual 165, 3) := by decide +kernel
theorem dX3_vouchesByList_38 : decode cX3_vouchesByList 38 = .ok (.iload_n 2, 1) := by decide +kernel
theorem dX3_vouchesByList_39 : decode cX3_vouchesByList 39 = .ok (.invokestatic 73, 3) := by decide +kernel
theorem dX3_vouchesByList_42 : decode cX3_vouchesByList 42 = .ok (.ireturn, 1) := by decide +kernel
set_option maxRecDepth 20000 in
theorem ggX3_score_X3_requireBuild : GoodIn wsX3_score wsX3_requireBuild := goodIn_ca (goodIn_r _ [6, 7, 8, 1, 21, 22, 23, 24, 25, 26, 27, 28, 29, 30, 31, 32, 33, 34, 35, 36, 37] (by decide +kernel) (by decide +kernel)) (goodIn_sub (fun _ h => List.mem_cons_of_mem _ (List.mem_append_right _ h)) (by decide +kernel))
set_option maxRecDepth 20000 in
theorem gX3_score_X3_requireBuild : GoodIn wsX3_score (wsV RX3 130 RX3 yX3_requireBuild wsX3_requireBuild) := goodIn_app (goodIn_of _ (by decide +kernel)) ggX3_score_X3_requireBuild
set_option maxRecDepth 20000 in
theorem ggX3_score_X3_scoreFrom : GoodIn wsX3_score wsX3_scoreFrom := goodIn_r _ [12, 13, 14, 15, 16, 5, 17, 18, 19, 20, 21, 22, 23, 24, 25, 26, 27] (by decide +kernel) (by decide +kernel)
set_option maxRecDepth 20000 in
theorem gX3_score_X3_scoreFrom : GoodIn wsX3_score (wsV RX3 168 RX3 yX3_scoreFrom wsX3_scoreFrom) := goodIn_app (goodIn_of _ (by decide +kernel)) ggX3_score_X3_scoreFrom
theorem dX3_score_0 : decode cX3_score 0 = .ok (.aload_n 0, 1) := by decide +kernel
theorem dX3_score_1 : decode cX3_score 1 = .ok (.iload_n 1, 1) := by decide +kernel
theorem dX3_score_2 : decode cX3_score 2 = .ok (.invokevirtual 130, 3) := by decide +kernel
theorem dX3_score_5 : decode cX3_score 5 = .ok (.aload_n 0, 1) := by decide +kernel
theorem dX3_score_6 : decode cX3_score 6 = .ok (.aload_n 0, 1) := by decide +kernel
theorem dX3_score_7 : decode cX3_score 7 = .ok (.getfield 19, 3) := by decide +kernel
theorem dX3_score_10 : decode cX3_score 10 = .ok (.getfield 156, 3) := by decide +kernel
theorem dX3_score_13 : decode cX3_score 13 = .ok (.iload_n 1, 1) := by decide +kernel
theorem dX3_score_14 : decode cX3_score 14 = .ok (.iaload, 1) := by decide +kernel
theorem dX3_score_15 : decode cX3_score 15 = .ok (.invokevirtual 168, 3) := by decide +kernel
theorem dX3_score_18 : decode cX3_score 18 = .ok (.freturn, 1) := by decide +kernel
set_option maxRecDepth 20000 in
theorem ggX3_scoreBits_X3_requireBuild : GoodIn wsX3_scoreBits wsX3_requireBuild := goodIn_ca (goodIn_r _ [6, 7, 8, 1, 32, 33, 34, 35, 36, 37, 38, 39, 40, 41, 42, 43, 44, 45, 46, 47, 48] (by decide +kernel) (by decide +kernel)) (goodIn_sub (fun _ h => List.mem_cons_of_mem _ (List.mem_append_right _ h)) (by decide +kernel))
set_option maxRecDepth 20000 in
theorem gX3_scoreBits_X3_requireBuild : GoodIn wsX3_scoreBits (wsV RX3 130 RX3 yX3_requireBuild wsX3_requireBuild) := goodIn_app (goodIn_of _ (by decide +kernel)) ggX3_scoreBits_X3_requireBuild
set_option maxRecDepth 20000 in
theorem ggX3_scoreBits_X3_scoreFrom : GoodIn wsX3_scoreBits wsX3_scoreFrom := goodIn_r _ [12, 13, 14, 15, 16, 5, 17, 18, 19, 20, 32, 33, 34, 35, 36, 37, 38] (by decide +kernel) (by decide +kernel)
set_option maxRecDepth 20000 in
theorem gX3_scoreBits_X3_scoreFrom : GoodIn wsX3_scoreBits (wsV RX3 168 RX3 yX3_scoreFrom wsX3_scoreFrom) := goodIn_app (goodIn_of _ (by decide +kernel)) ggX3_scoreBits_X3_scoreFrom
set_option maxRecDepth 20000 in
theorem ggX3_scoreBits_X3_floatBits : GoodIn wsX3_scoreBits wsX3_floatBits := goodIn_r _ [23, 24, 25, 26, 5, 27, 28, 29, 30, 31] (by decide +kernel) (by decide +kernel)
set_option maxRecDepth 20000 in
theorem gX3_scoreBits_X3_floatBits : GoodIn wsX3_scoreBits (va_wsS RX3 172 yX3_floatBits wsX3_floatBits) := goodIn_app (goodIn_of _ (by decide +kernel)) ggX3_scoreBits_X3_floatBits
theorem dX3_scoreBits_0 : decode cX3_scoreBits 0 = .ok (.aload_n 0, 1) := by decide +kernel
theorem dX3_scoreBits_1 : decode cX3_scoreBits 1 = .ok (.iload_n 1, 1) := by decide +kernel
theorem dX3_scoreBits_2 : decode cX3_scoreBits 2 = .ok (.invokevirtual 130, 3) := by decide +kernel
theorem dX3_scoreBits_5 : decode cX3_scoreBits 5 = .ok (.aload_n 0, 1) := by decide +kernel
theorem dX3_scoreBits_6 : decode cX3_scoreBits 6 = .ok (.aload_n 0, 1) := by decide +kernel
theorem dX3_scoreBits_7 : decode cX3_scoreBits 7 = .ok (.getfield 19, 3) := by decide +kernel
theorem dX3_scoreBits_10 : decode cX3_scoreBits 10 = .ok (.getfield 156, 3) := by decide +kernel
theorem dX3_scoreBits_13 : decode cX3_scoreBits 13 = .ok (.iload_n 1, 1) := by decide +kernel
theorem dX3_scoreBits_14 : decode cX3_scoreBits 14 = .ok (.iaload, 1) := by decide +kernel
theorem dX3_scoreBits_15 : decode cX3_scoreBits 15 = .ok (.invokevirtual 168, 3) := by decide +kernel
theorem dX3_scoreBits_18 : decode cX3_scoreBits 18 = .ok (.invokestatic 172, 3) := by decide +kernel
theorem dX3_scoreBits_21 : decode cX3_scoreBits 21 = .ok (.ireturn, 1) := by decide +kernel
set_option maxRecDepth 20000 in
theorem ggX3_isTrusted_X3_requireBuild : GoodIn wsX3_isTrusted wsX3_requireBuild := goodIn_ca (goodIn_r _ [6, 7, 8, 1, 26, 27, 28, 29, 30, 31, 32, 33, 34, 35, 36, 37, 38, 39, 40, 41, 42] (by decide +kernel) (by decide +kernel)) (goodIn_sub (fun _ h => List.mem_cons_of_mem _ (List.mem_append_right _ h)) (by decide +kernel))
set_option maxRecDepth 20000 in
theorem gX3_isTrusted_X3_requireBuild : GoodIn wsX3_isTrusted (wsV RX3 130 RX3 yX3_requireBuild wsX3_requireBuild) := goodIn_app (goodIn_of _ (by decide +kernel)) ggX3_isTrusted_X3_requireBuild
set_option maxRecDepth 20000 in
theorem ggX3_isTrusted_X3_suffices : GoodIn wsX3_isTrusted wsX3_suffices := goodIn_r _ [12, 13, 1, 14, 15, 16, 17, 5, 18, 19, 20, 21, 22, 23, 24, 25, 26, 27, 28, 29, 30, 31, 32, 33, 34, 35, 36, 37, 38, 39, 40, 41, 42] (by decide +kernel) (by decide +kernel)
set_option maxRecDepth 20000 in
theorem gX3_isTrusted_X3_suffices : GoodIn wsX3_isTrusted (wsV RX3 176 RX3 yX3_suffices wsX3_suffices) := goodIn_app (goodIn_of _ (by decide +kernel)) ggX3_isTrusted_X3_suffices
theorem dX3_isTrusted_0 : decode cX3_isTrusted 0 = .ok (.aload_n 0, 1) := by decide +kernel
theorem dX3_isTrusted_1 : decode cX3_isTrusted 1 = .ok (.iload_n 1, 1) := by decide +kernel
theorem dX3_isTrusted_2 : decode cX3_isTrusted 2 = .ok (.invokevirtual 130, 3) := by decide +kernel
theorem dX3_isTrusted_5 : decode cX3_isTrusted 5 = .ok (.aload_n 0, 1) := by decide +kernel
theorem dX3_isTrusted_6 : decode cX3_isTrusted 6 = .ok (.aload_n 0, 1) := by decide +kernel
theorem dX3_isTrusted_7 : decode cX3_isTrusted 7 = .ok (.getfield 19, 3) := by decide +kernel
theorem dX3_isTrusted_10 : decode cX3_isTrusted 10 = .ok (.getfield 156, 3) := by decide +kernel
theorem dX3_isTrusted_13 : decode cX3_isTrusted 13 = .ok (.iload_n 1, 1) := by decide +kernel
theorem dX3_isTrusted_14 : decode cX3_isTrusted 14 = .ok (.iaload, 1) := by decide +kernel
theorem dX3_isTrusted_15 : decode cX3_isTrusted 15 = .ok (.iload_n 1, 1) := by decide +kernel
theorem dX3_isTrusted_16 : decode cX3_isTrusted 16 = .ok (.invokevirtual 176, 3) := by decide +kernel
theorem dX3_isTrusted_19 : decode cX3_isTrusted 19 = .ok (.ireturn, 1) := by decide +kernel
set_option maxRecDepth 20000 in
theorem ggX3_hangsOnKey_X3_requireKey : GoodIn wsX3_hangsOnKey wsX3_requireKey := goodIn_ca (goodIn_r _ [8, 9, 10, 1, 44, 45, 46, 47, 48, 49, 50, 61, 62, 63, 64, 65] (by decide +kernel) (by decide +kernel)) (goodIn_sub (fun _ h => List.mem_cons_of_mem _ (List.mem_append_right _ h)) (by decide +kernel))
set_option maxRecDepth 20000 in
theorem gX3_hangsOnKey_X3_requireKey : GoodIn wsX3_hangsOnKey (wsV RX3 67 RX3 yX3_requireKey wsX3_requireKey) := goodIn_app (goodIn_of _ (by decide +kernel)) ggX3_hangsOnKey_X3_requireKey
set_option maxRecDepth 20000 in
theorem ggX3_hangsOnKey_X1_live : GoodIn wsX3_hangsOnKey wsX1_live := goodIn_r _ [14, 15, 16, 17, 18, 12, 19, 20, 21, 22, 23, 7, 24, 25, 26, 27, 61, 62, 63, 64, 65] (by decide +kernel) (by decide +kernel)
set_option maxRecDepth 20000 in
theorem gX3_hangsOnKey_X1_live_n162 : GoodIn wsX3_hangsOnKey (wsX1_live) := ggX3_hangsOnKey_X1_live
set_option maxRecDepth 20000 in
theorem ggX3_hangsOnKey_X3_only : GoodIn wsX3_hangsOnKey wsX3_only := goodIn_r _ [27] (by decide +kernel) (by decide +kernel)
set_option maxRecDepth 20000 in
theorem gX3_hangsOnKey_X3_only : GoodIn wsX3_hangsOnKey (va_wsS RX3 83 yX3_only wsX3_only) := goodIn_app (goodIn_of _ (by decide +kernel)) ggX3_hangsOnKey_X3_only
set_option maxRecDepth 20000 in
theorem ggX3_hangsOnKey_X1_signersOf : GoodIn wsX3_hangsOnKey wsX1_signersOf := goodIn_r _ [30, 15, 31, 23, 7, 24, 25, 26, 27, 61, 62, 63, 64, 65] (by decide +kernel) (by decide +kernel)
set_option maxRecDepth 20000 in
theorem gX3_hangsOnKey_X1_signersOf_n165 : GoodIn wsX3_hangsOnKey (wsX1_signersOf) := ggX3_hangsOnKey_X1_signersOf
set_option maxRecDepth 20000 in
theorem ggX3_hangsOnKey_X3_suffices : GoodIn wsX3_hangsOnKey wsX3_suffices := goodIn_r _ [35, 36, 3, 37, 38, 39, 40, 7, 41, 42, 43, 23, 24, 25, 26, 27, 44, 45, 46, 47, 48, 49, 50, 51, 52, 53, 54, 55, 56, 57, 58, 59, 60] (by decide +kernel) (by decide +kernel)
set_option maxRecDepth 20000 in
theorem gX3_hangsOnKey_X3_suffices : GoodIn wsX3_hangsOnKey (wsV RX3 176 RX3 yX3_suffices wsX3_suffices) := goodIn_app (goodIn_of _ (by decide +kernel)) ggX3_hangsOnKey_X3_suffices
theorem dX3_hangsOnKey_0 : decode cX3_hangsOnKey 0 = .ok (.aload_n 0, 1) := by decide +kernel
theorem dX3_hangsOnKey_1 : decode cX3_hangsOnKey 1 = .ok (.iload_n 1, 1) := by decide +kernel
theorem dX3_hangsOnKey_2 : decode cX3_hangsOnKey 2 = .ok (.invokevirtual 67, 3) := by decide +kernel
theorem dX3_hangsOnKey_5 : decode cX3_hangsOnKey 5 = .ok (.aload_n 0, 1) := by decide +kernel
theorem dX3_hangsOnKey_6 : decode cX3_hangsOnKey 6 = .ok (.getfield 10, 3) := by decide +kernel
theorem dX3_hangsOnKey_9 : decode cX3_hangsOnKey 9 = .ok (.aload_n 0, 1) := by decide +kernel
theorem dX3_hangsOnKey_10 : decode cX3_hangsOnKey 10 = .ok (.getfield 41, 3) := by decide +kernel
theorem dX3_hangsOnKey_13 : decode cX3_hangsOnKey 13 = .ok (.invokevirtual 162, 3) := by decide +kernel
theorem dX3_hangsOnKey_16 : decode cX3_hangsOnKey 16 = .ok (.iload_n 1, 1) := by decide +kernel
theorem dX3_hangsOnKey_17 : decode cX3_hangsOnKey 17 = .ok (.invokestatic 83, 3) := by decide +kernel
theorem dX3_hangsOnKey_20 : decode cX3_hangsOnKey 20 = .ok (.iconst (-1), 1) := by decide +kernel
theorem dX3_hangsOnKey_21 : decode cX3_hangsOnKey 21 = .ok (.ixor, 1) := by decide +kernel
theorem dX3_hangsOnKey_22 : decode cX3_hangsOnKey 22 = .ok (.iand, 1) := by decide +kernel
theorem dX3_hangsOnKey_23 : decode cX3_hangsOnKey 23 = .ok (.istore_n 2, 1) := by decide +kernel
theorem dX3_hangsOnKey_24 : decode cX3_hangsOnKey 24 = .ok (.iconst 0, 1) := by decide +kernel
theorem dX3_hangsOnKey_25 : decode cX3_hangsOnKey 25 = .ok (.istore_n 3, 1) := by decide +kernel
theorem dX3_hangsOnKey_26 : decode cX3_hangsOnKey 26 = .ok (.iconst 0, 1) := by decide +kernel
theorem dX3_hangsOnKey_27 : decode cX3_hangsOnKey 27 = .ok (.istore 4, 2) := by decide +kernel
theorem dX3_hangsOnKey_29 : decode cX3_hangsOnKey 29 = .ok (.iload 4, 2) := by decide +kernel
theorem dX3_hangsOnKey_31 : decode cX3_hangsOnKey 31 = .ok (.aload_n 0, 1) := by decide +kernel
theorem dX3_hangsOnKey_32 : decode cX3_hangsOnKey 32 = .ok (.getfield 19, 3) := by decide +kernel
theorem dX3_hangsOnKey_35 : decode cX3_hangsOnKey 35 = .ok (.getfield 126, 3) := by decide +kernel
theorem dX3_hangsOnKey_38 : decode cX3_hangsOnKey 38 = .ok (.if_icmp .ge 63, 3) := by decide +kernel
theorem dX3_hangsOnKey_41 : decode cX3_hangsOnKey 41 = .ok (.aload_n 0, 1) := by decide +kernel
theorem dX3_hangsOnKey_42 : decode cX3_hangsOnKey 42 = .ok (.getfield 10, 3) := by decide +kernel
theorem dX3_hangsOnKey_45 : decode cX3_hangsOnKey 45 = .ok (.aload_n 0, 1) := by decide +kernel
theorem dX3_hangsOnKey_46 : decode cX3_hangsOnKey 46 = .ok (.getfield 19, 3) := by decide +kernel
theorem dX3_hangsOnKey_49 : decode cX3_hangsOnKey 49 = .ok (.getfield 149, 3) := by decide +kernel
theorem dX3_hangsOnKey_52 : decode cX3_hangsOnKey 52 = .ok (.iload 4, 2) := by decide +kernel
theorem dX3_hangsOnKey_54 : decode cX3_hangsOnKey 54 = .ok (.iaload, 1) := by decide +kernel
theorem dX3_hangsOnKey_55 : decode cX3_hangsOnKey 55 = .ok (.iload_n 2, 1) := by decide +kernel
theorem dX3_hangsOnKey_56 : decode cX3_hangsOnKey 56 = .ok (.iand, 1) := by decide +kernel
theorem dX3_hangsOnKey_57 : decode cX3_hangsOnKey 57 = .ok (.invokevirtual 165, 3) := by decide +kernel
theorem dX3_hangsOnKey_60 : decode cX3_hangsOnKey 60 = .ok (.istore 5, 2) := by decide +kernel
theorem dX3_hangsOnKey_62 : decode cX3_hangsOnKey 62 = .ok (.aload_n 0, 1) := by decide +kernel
theorem dX3_hangsOnKey_63 : decode cX3_hangsOnKey 63 = .ok (.aload_n 0, 1) := by decide +kernel
theorem dX3_hangsOnKey_64 : decode cX3_hangsOnKey 64 = .ok (.getfield 19, 3) := by decide +kernel
theorem dX3_hangsOnKey_67 : decode cX3_hangsOnKey 67 = .ok (.getfield 156, 3) := by decide +kernel
theorem dX3_hangsOnKey_70 : decode cX3_hangsOnKey 70 = .ok (.iload 4, 2) := by decide +kernel
theorem dX3_hangsOnKey_72 : decode cX3_hangsOnKey 72 = .ok (.iaload, 1) := by decide +kernel
theorem dX3_hangsOnKey_73 : decode cX3_hangsOnKey 73 = .ok (.iload 4, 2) := by decide +kernel
theorem dX3_hangsOnKey_75 : decode cX3_hangsOnKey 75 = .ok (.invokevirtual 176, 3) := by decide +kernel
theorem dX3_hangsOnKey_78 : decode cX3_hangsOnKey 78 = .ok (.ifCond .eq 17, 3) := by decide +kernel
theorem dX3_hangsOnKey_81 : decode cX3_hangsOnKey 81 = .ok (.aload_n 0, 1) := by decide +kernel
theorem dX3_hangsOnKey_82 : decode cX3_hangsOnKey 82 = .ok (.iload 5, 2) := by decide +kernel
theorem dX3_hangsOnKey_84 : decode cX3_hangsOnKey 84 = .ok (.iload 4, 2) := by decide +kernel
theorem dX3_hangsOnKey_86 : decode cX3_hangsOnKey 86 = .ok (.invokevirtual 176, 3) := by decide +kernel
theorem dX3_hangsOnKey_89 : decode cX3_hangsOnKey 89 = .ok (.ifCond .ne 6, 3) := by decide +kernel
theorem dX3_hangsOnKey_92 : decode cX3_hangsOnKey 92 = .ok (.iinc 3 1, 3) := by decide +kernel
theorem dX3_hangsOnKey_95 : decode cX3_hangsOnKey 95 = .ok (.iinc 4 1, 3) := by decide +kernel
theorem dX3_hangsOnKey_98 : decode cX3_hangsOnKey 98 = .ok (.goto (-69), 3) := by decide +kernel
theorem dX3_hangsOnKey_101 : decode cX3_hangsOnKey 101 = .ok (.iload_n 3, 1) := by decide +kernel
theorem dX3_hangsOnKey_102 : decode cX3_hangsOnKey 102 = .ok (.ireturn, 1) := by decide +kernel
set_option maxRecDepth 20000 in
theorem ggX3_recall_X3_requireBuild : GoodIn wsX3_recall wsX3_requireBuild := goodIn_ca (goodIn_r _ [8, 9, 10, 3, 31, 32, 33, 34, 35, 36, 37, 38, 39, 40, 41, 42, 43, 44, 45, 46, 47] (by decide +kernel) (by decide +kernel)) (goodIn_sub (fun _ h => List.mem_cons_of_mem _ (List.mem_append_right _ h)) (by decide +kernel))
set_option maxRecDepth 20000 in
theorem gX3_recall_X3_requireBuild : GoodIn wsX3_recall (wsV RX3 130 RX3 yX3_requireBuild wsX3_requireBuild) := goodIn_app (goodIn_of _ (by decide +kernel)) ggX3_recall_X3_requireBuild
set_option maxRecDepth 20000 in
theorem ggX3_recall_X3_holds : GoodIn wsX3_recall wsX3_holds := goodIn_r _ [13, 14, 15, 7, 16] (by decide +kernel) (by decide +kernel)
set_option maxRecDepth 20000 in
theorem gX3_recall_X3_holds : GoodIn wsX3_recall (va_wsS RX3 73 yX3_holds wsX3_holds) := goodIn_app (goodIn_of _ (by decide +kernel)) ggX3_recall_X3_holds
set_option maxRecDepth 20000 in
theorem ggX3_recall_X0_recalled : GoodIn wsX3_recall wsX0_recalled := goodIn_r _ [20, 21, 22, 23, 15, 7, 16, 38, 39, 40, 41, 42, 43, 44, 45, 46, 47] (by decide +kernel) (by decide +kernel)
set_option maxRecDepth 20000 in
theorem gX3_recall_X0_recalled_n118 : GoodIn wsX3_recall (wsX0_recalled) := ggX3_recall_X0_recalled
set_option maxRecDepth 20000 in
theorem ggX3_recall_X3_only : GoodIn wsX3_recall wsX3_only := goodIn_r _ [16] (by decide +kernel) (by decide +kernel)
set_option maxRecDepth 20000 in
theorem gX3_recall_X3_only : GoodIn wsX3_recall (va_wsS RX3 83 yX3_only wsX3_only) := goodIn_app (goodIn_of _ (by decide +kernel)) ggX3_recall_X3_only
set_option maxRecDepth 20000 in
theorem ggX3_recall_J6_bitCount_0f7a4 : GoodIn wsX3_recall wsJ6_bitCount_0f7a4 := goodIn_r _ [27, 28, 29, 30] (by decide +kernel) (by decide +kernel)
set_option maxRecDepth 20000 in
theorem gX3_recall_J6_bitCount_0f7a4 : GoodIn wsX3_recall (va_wsS RX3 91 yJ6_bitCount_0f7a4 wsJ6_bitCount_0f7a4) := goodIn_app (goodIn_of _ (by decide +kernel)) ggX3_recall_J6_bitCount_0f7a4
theorem dX3_recall_0 : decode cX3_recall 0 = .ok (.aload_n 0, 1) := by decide +kernel
theorem dX3_recall_1 : decode cX3_recall 1 = .ok (.iload_n 1, 1) := by decide +kernel
theorem dX3_recall_2 : decode cX3_recall 2 = .ok (.invokevirtual 130, 3) := by decide +kernel
theorem dX3_recall_5 : decode cX3_recall 5 = .ok (.aload_n 0, 1) := by decide +kernel
theorem dX3_recall_6 : decode cX3_recall 6 = .ok (.getfield 19, 3) := by decide +kernel
theorem dX3_recall_9 : decode cX3_recall 9 = .ok (.getfield 179, 3) := by decide +kernel
theorem dX3_recall_12 : decode cX3_recall 12 = .ok (.iload_n 1, 1) := by decide +kernel
theorem dX3_recall_13 : decode cX3_recall 13 = .ok (.invokestatic 73, 3) := by decide +kernel
theorem dX3_recall_16 : decode cX3_recall 16 = .ok (.ifCond .eq 13, 3) := by decide +kernel
theorem dX3_recall_19 : decode cX3_recall 19 = .ok (.new 58, 3) := by decide +kernel
theorem dX3_recall_22 : decode cX3_recall 22 = .ok (.dup, 1) := by decide +kernel
theorem dX3_recall_23 : decode cX3_recall 23 = .ok (.ldc 182, 2) := by decide +kernel
theorem dX3_recall_25 : decode cX3_recall 25 = .ok (.invokespecial 62, 3) := by decide +kernel
theorem dX3_recall_28 : decode cX3_recall 28 = .ok (.athrow, 1) := by decide +kernel
theorem dX3_recall_29 : decode cX3_recall 29 = .ok (.aload_n 0, 1) := by decide +kernel
theorem dX3_recall_30 : decode cX3_recall 30 = .ok (.getfield 19, 3) := by decide +kernel
theorem dX3_recall_33 : decode cX3_recall 33 = .ok (.invokevirtual 118, 3) := by decide +kernel
theorem dX3_recall_36 : decode cX3_recall 36 = .ok (.istore_n 2, 1) := by decide +kernel
theorem dX3_recall_37 : decode cX3_recall 37 = .ok (.aload_n 0, 1) := by decide +kernel
theorem dX3_recall_38 : decode cX3_recall 38 = .ok (.getfield 19, 3) := by decide +kernel
theorem dX3_recall_41 : decode cX3_recall 41 = .ok (.dup, 1) := by decide +kernel
theorem dX3_recall_42 : decode cX3_recall 42 = .ok (.getfield 179, 3) := by decide +kernel
theorem dX3_recall_45 : decode cX3_recall 45 = .ok (.iload_n 1, 1) := by decide +kernel
theorem dX3_recall_46 : decode cX3_recall 46 = .ok (.invokestatic 83, 3) := by decide +kernel
theorem dX3_recall_49 : decode cX3_recall 49 = .ok (.ior, 1) := by decide +kernel
theorem dX3_recall_50 : decode cX3_recall 50 = .ok (.putfield 179, 3) := by decide +kernel
theorem dX3_recall_53 : decode cX3_recall 53 = .ok (.aload_n 0, 1) := by decide +kernel
theorem dX3_recall_54 : decode cX3_recall 54 = .ok (.getfield 19, 3) := by decide +kernel
theorem dX3_recall_57 : decode cX3_recall 57 = .ok (.invokevirtual 118, 3) := by decide +kernel
theorem dX3_recall_60 : decode cX3_recall 60 = .ok (.iload_n 2, 1) := by decide +kernel
theorem dX3_recall_61 : decode cX3_recall 61 = .ok (.iconst (-1), 1) := by decide +kernel
theorem dX3_recall_62 : decode cX3_recall 62 = .ok (.ixor, 1) := by decide +kernel
theorem dX3_recall_63 : decode cX3_recall 63 = .ok (.iand, 1) := by decide +kernel
theorem dX3_recall_64 : decode cX3_recall 64 = .ok (.invokestatic 91, 3) := by decide +kernel
theorem dX3_recall_67 : decode cX3_recall 67 = .ok (.ireturn, 1) := by decide +kernel
set_option maxRecDepth 20000 in
theorem ggX3_lift_X3_requireBuild : GoodIn wsX3_lift wsX3_requireBuild := goodIn_ca (goodIn_r _ [8, 9, 10, 3, 31, 32, 33, 34, 35, 36, 37, 38, 39, 40, 41, 42, 43, 44, 45, 46, 47] (by decide +kernel) (by decide +kernel)) (goodIn_sub (fun _ h => List.mem_cons_of_mem _ (List.mem_append_right _ h)) (by decide +kernel))
set_option maxRecDepth 20000 in
theorem gX3_lift_X3_requireBuild : GoodIn wsX3_lift (wsV RX3 130 RX3 yX3_requireBuild wsX3_requireBuild) := goodIn_app (goodIn_of _ (by decide +kernel)) ggX3_lift_X3_requireBuild
set_option maxRecDepth 20000 in
theorem ggX3_lift_X3_holds : GoodIn wsX3_lift wsX3_holds := goodIn_r _ [13, 14, 15, 7, 16] (by decide +kernel) (by decide +kernel)
set_option maxRecDepth 20000 in
theorem gX3_lift_X3_holds : GoodIn wsX3_lift (va_wsS RX3 73 yX3_holds wsX3_holds) := goodIn_app (goodIn_of _ (by decide +kernel)) ggX3_lift_X3_holds
set_option maxRecDepth 20000 in
theorem ggX3_lift_X0_recalled : GoodIn wsX3_lift wsX0_recalled := goodIn_r _ [20, 21, 22, 23, 15, 7, 16, 38, 39, 40, 41, 42, 43, 44, 45, 46, 47] (by decide +kernel) (by decide +kernel)
set_option maxRecDepth 20000 in
theorem gX3_lift_X0_recalled_n118 : GoodIn wsX3_lift (wsX0_recalled) := ggX3_lift_X0_recalled
set_option maxRecDepth 20000 in
theorem ggX3_lift_X3_only : GoodIn wsX3_lift wsX3_only := goodIn_r _ [16] (by decide +kernel) (by decide +kernel)
set_option maxRecDepth 20000 in
theorem gX3_lift_X3_only : GoodIn wsX3_lift (va_wsS RX3 83 yX3_only wsX3_only) := goodIn_app (goodIn_of _ (by decide +kernel)) ggX3_lift_X3_only
set_option maxRecDepth 20000 in
theorem ggX3_lift_J6_bitCount_0f7a4 : GoodIn wsX3_lift wsJ6_bitCount_0f7a4 := goodIn_r _ [27, 28, 29, 30] (by decide +kernel) (by decide +kernel)
set_option maxRecDepth 20000 in
theorem gX3_lift_J6_bitCount_0f7a4 : GoodIn wsX3_lift (va_wsS RX3 91 yJ6_bitCount_0f7a4 wsJ6_bitCount_0f7a4) := goodIn_app (goodIn_of _ (by decide +kernel)) ggX3_lift_J6_bitCount_0f7a4
theorem dX3_lift_0 : decode cX3_lift 0 = .ok (.aload_n 0, 1) := by decide +kernel
theorem dX3_lift_1 : decode cX3_lift 1 = .ok (.iload_n 1, 1) := by decide +kernel
theorem dX3_lift_2 : decode cX3_lift 2 = .ok (.invokevirtual 130, 3) := by decide +kernel
theorem dX3_lift_5 : decode cX3_lift 5 = .ok (.aload_n 0, 1) := by decide +kernel
theorem dX3_lift_6 : decode cX3_lift 6 = .ok (.getfield 19, 3) := by decide +kernel
theorem dX3_lift_9 : decode cX3_lift 9 = .ok (.getfield 179, 3) := by decide +kernel
theorem dX3_lift_12 : decode cX3_lift 12 = .ok (.iload_n 1, 1) := by decide +kernel
theorem dX3_lift_13 : decode cX3_lift 13 = .ok (.invokestatic 73, 3) := by decide +kernel
theorem dX3_lift_16 : decode cX3_lift 16 = .ok (.ifCond .ne 13, 3) := by decide +kernel
theorem dX3_lift_19 : decode cX3_lift 19 = .ok (.new 58, 3) := by decide +kernel
theorem dX3_lift_22 : decode cX3_lift 22 = .ok (.dup, 1) := by decide +kernel
theorem dX3_lift_23 : decode cX3_lift 23 = .ok (.ldc 184, 2) := by decide +kernel
theorem dX3_lift_25 : decode cX3_lift 25 = .ok (.invokespecial 62, 3) := by decide +kernel
theorem dX3_lift_28 : decode cX3_lift 28 = .ok (.athrow, 1) := by decide +kernel
theorem dX3_lift_29 : decode cX3_lift 29 = .ok (.aload_n 0, 1) := by decide +kernel
theorem dX3_lift_30 : decode cX3_lift 30 = .ok (.getfield 19, 3) := by decide +kernel
theorem dX3_lift_33 : decode cX3_lift 33 = .ok (.invokevirtual 118, 3) := by decide +kernel
theorem dX3_lift_36 : decode cX3_lift 36 = .ok (.istore_n 2, 1) := by decide +kernel
theorem dX3_lift_37 : decode cX3_lift 37 = .ok (.aload_n 0, 1) := by decide +kernel
theorem dX3_lift_38 : decode cX3_lift 38 = .ok (.getfield 19, 3) := by decide +kernel
theorem dX3_lift_41 : decode cX3_lift 41 = .ok (.dup, 1) := by decide +kernel
theorem dX3_lift_42 : decode cX3_lift 42 = .ok (.getfield 179, 3) := by decide +kernel
theorem dX3_lift_45 : decode cX3_lift 45 = .ok (.iload_n 1, 1) := by decide +kernel
theorem dX3_lift_46 : decode cX3_lift 46 = .ok (.invokestatic 83, 3) := by decide +kernel
theorem dX3_lift_49 : decode cX3_lift 49 = .ok (.iconst (-1), 1) := by decide +kernel
theorem dX3_lift_50 : decode cX3_lift 50 = .ok (.ixor, 1) := by decide +kernel
theorem dX3_lift_51 : decode cX3_lift 51 = .ok (.iand, 1) := by decide +kernel
theorem dX3_lift_52 : decode cX3_lift 52 = .ok (.putfield 179, 3) := by decide +kernel
theorem dX3_lift_55 : decode cX3_lift 55 = .ok (.iload_n 2, 1) := by decide +kernel
theorem dX3_lift_56 : decode cX3_lift 56 = .ok (.aload_n 0, 1) := by decide +kernel
theorem dX3_lift_57 : decode cX3_lift 57 = .ok (.getfield 19, 3) := by decide +kernel
theorem dX3_lift_60 : decode cX3_lift 60 = .ok (.invokevirtual 118, 3) := by decide +kernel
theorem dX3_lift_63 : decode cX3_lift 63 = .ok (.iconst (-1), 1) := by decide +kernel
theorem dX3_lift_64 : decode cX3_lift 64 = .ok (.ixor, 1) := by decide +kernel
theorem dX3_lift_65 : decode cX3_lift 65 = .ok (.iand, 1) := by decide +kernel
theorem dX3_lift_66 : decode cX3_lift 66 = .ok (.invokestatic 91, 3) := by decide +kernel
theorem dX3_lift_69 : decode cX3_lift 69 = .ok (.ireturn, 1) := by decide +kernel
set_option maxRecDepth 20000 in
theorem ggX3_isRecalled_X3_requireBuild : GoodIn wsX3_isRecalled wsX3_requireBuild := goodIn_ca (goodIn_r _ [6, 7, 8, 1, 22, 23, 24, 25, 26, 27, 28, 29, 30, 31, 32, 33, 34, 35, 36, 37, 38] (by decide +kernel) (by decide +kernel)) (goodIn_sub (fun _ h => List.mem_cons_of_mem _ (List.mem_append_right _ h)) (by decide +kernel))
set_option maxRecDepth 20000 in
theorem gX3_isRecalled_X3_requireBuild : GoodIn wsX3_isRecalled (wsV RX3 130 RX3 yX3_requireBuild wsX3_requireBuild) := goodIn_app (goodIn_of _ (by decide +kernel)) ggX3_isRecalled_X3_requireBuild
set_option maxRecDepth 20000 in
theorem ggX3_isRecalled_X0_recalled : GoodIn wsX3_isRecalled wsX0_recalled := goodIn_r _ [12, 13, 14, 15, 16, 5, 17, 29, 30, 31, 32, 33, 34, 35, 36, 37, 38] (by decide +kernel) (by decide +kernel)
set_option maxRecDepth 20000 in
theorem gX3_isRecalled_X0_recalled_n118 : GoodIn wsX3_isRecalled (wsX0_recalled) := ggX3_isRecalled_X0_recalled
set_option maxRecDepth 20000 in
theorem ggX3_isRecalled_X3_holds : GoodIn wsX3_isRecalled wsX3_holds := goodIn_r _ [20, 21, 16, 5, 17] (by decide +kernel) (by decide +kernel)
set_option maxRecDepth 20000 in
theorem gX3_isRecalled_X3_holds : GoodIn wsX3_isRecalled (va_wsS RX3 73 yX3_holds wsX3_holds) := goodIn_app (goodIn_of _ (by decide +kernel)) ggX3_isRecalled_X3_holds
theorem dX3_isRecalled_0 : decode cX3_isRecalled 0 = .ok (.aload_n 0, 1) := by decide +kernel
theorem dX3_isRecalled_1 : decode cX3_isRecalled 1 = .ok (.iload_n 1, 1) := by decide +kernel
theorem dX3_isRecalled_2 : decode cX3_isRecalled 2 = .ok (.invokevirtual 130, 3) := by decide +kernel
theorem dX3_isRecalled_5 : decode cX3_isRecalled 5 = .ok (.aload_n 0, 1) := by decide +kernel
theorem dX3_isRecalled_6 : decode cX3_isRecalled 6 = .ok (.getfield 19, 3) := by decide +kernel
theorem dX3_isRecalled_9 : decode cX3_isRecalled 9 = .ok (.invokevirtual 118, 3) := by decide +kernel
theorem dX3_isRecalled_12 : decode cX3_isRecalled 12 = .ok (.iload_n 1, 1) := by decide +kernel
theorem dX3_isRecalled_13 : decode cX3_isRecalled 13 = .ok (.invokestatic 73, 3) := by decide +kernel
theorem dX3_isRecalled_16 : decode cX3_isRecalled 16 = .ok (.ireturn, 1) := by decide +kernel
set_option maxRecDepth 20000 in
theorem ggX3_rebuild_X3_requireBuild : GoodIn wsX3_rebuild wsX3_requireBuild := goodIn_ca (goodIn_r _ [8, 9, 10, 3, 11, 12, 13, 14, 15, 16, 17, 18, 19, 20, 21, 22, 23, 24, 25, 26, 27] (by decide +kernel) (by decide +kernel)) (goodIn_sub (fun _ h => List.mem_cons_of_mem _ (List.mem_append_right _ h)) (by decide +kernel))
set_option maxRecDepth 20000 in
theorem gX3_rebuild_X3_requireBuild : GoodIn wsX3_rebuild (wsV RX3 130 RX3 yX3_requireBuild wsX3_requireBuild) := goodIn_app (goodIn_of _ (by decide +kernel)) ggX3_rebuild_X3_requireBuild
theorem dX3_rebuild_0 : decode cX3_rebuild 0 = .ok (.aload_n 0, 1) := by decide +kernel
theorem dX3_rebuild_1 : decode cX3_rebuild 1 = .ok (.iload_n 1, 1) := by decide +kernel
theorem dX3_rebuild_2 : decode cX3_rebuild 2 = .ok (.invokevirtual 130, 3) := by decide +kernel
theorem dX3_rebuild_5 : decode cX3_rebuild 5 = .ok (.aload_n 0, 1) := by decide +kernel
theorem dX3_rebuild_6 : decode cX3_rebuild 6 = .ok (.getfield 19, 3) := by decide +kernel
theorem dX3_rebuild_9 : decode cX3_rebuild 9 = .ok (.getfield 186, 3) := by decide +kernel
theorem dX3_rebuild_12 : decode cX3_rebuild 12 = .ok (.iload_n 1, 1) := by decide +kernel
theorem dX3_rebuild_13 : decode cX3_rebuild 13 = .ok (.iaload, 1) := by decide +kernel
theorem dX3_rebuild_14 : decode cX3_rebuild 14 = .ok (.bipush 99, 2) := by decide +kernel
theorem dX3_rebuild_16 : decode cX3_rebuild 16 = .ok (.if_icmp .lt 13, 3) := by decide +kernel
theorem dX3_rebuild_19 : decode cX3_rebuild 19 = .ok (.new 58, 3) := by decide +kernel
theorem dX3_rebuild_22 : decode cX3_rebuild 22 = .ok (.dup, 1) := by decide +kernel
theorem dX3_rebuild_23 : decode cX3_rebuild 23 = .ok (.ldc 189, 2) := by decide +kernel
theorem dX3_rebuild_25 : decode cX3_rebuild 25 = .ok (.invokespecial 62, 3) := by decide +kernel
theorem dX3_rebuild_28 : decode cX3_rebuild 28 = .ok (.athrow, 1) := by decide +kernel
theorem dX3_rebuild_29 : decode cX3_rebuild 29 = .ok (.iload_n 2, 1) := by decide +kernel
theorem dX3_rebuild_30 : decode cX3_rebuild 30 = .ok (.aload_n 0, 1) := by decide +kernel
theorem dX3_rebuild_31 : decode cX3_rebuild 31 = .ok (.getfield 19, 3) := by decide +kernel
theorem dX3_rebuild_34 : decode cX3_rebuild 34 = .ok (.getfield 191, 3) := by decide +kernel
theorem dX3_rebuild_37 : decode cX3_rebuild 37 = .ok (.iload_n 1, 1) := by decide +kernel
theorem dX3_rebuild_38 : decode cX3_rebuild 38 = .ok (.iaload, 1) := by decide +kernel
theorem dX3_rebuild_39 : decode cX3_rebuild 39 = .ok (.if_icmp .ne 7, 3) := by decide +kernel
theorem dX3_rebuild_42 : decode cX3_rebuild 42 = .ok (.iconst 1, 1) := by decide +kernel
theorem dX3_rebuild_43 : decode cX3_rebuild 43 = .ok (.goto 4, 3) := by decide +kernel
theorem dX3_rebuild_46 : decode cX3_rebuild 46 = .ok (.iconst 0, 1) := by decide +kernel
theorem dX3_rebuild_47 : decode cX3_rebuild 47 = .ok (.istore_n 3, 1) := by decide +kernel
theorem dX3_rebuild_48 : decode cX3_rebuild 48 = .ok (.aload_n 0, 1) := by decide +kernel
theorem dX3_rebuild_49 : decode cX3_rebuild 49 = .ok (.getfield 19, 3) := by decide +kernel
theorem dX3_rebuild_52 : decode cX3_rebuild 52 = .ok (.getfield 186, 3) := by decide +kernel
theorem dX3_rebuild_55 : decode cX3_rebuild 55 = .ok (.iload_n 1, 1) := by decide +kernel
theorem dX3_rebuild_56 : decode cX3_rebuild 56 = .ok (.dup2, 1) := by decide +kernel
theorem dX3_rebuild_57 : decode cX3_rebuild 57 = .ok (.iaload, 1) := by decide +kernel
theorem dX3_rebuild_58 : decode cX3_rebuild 58 = .ok (.iconst 1, 1) := by decide +kernel
theorem dX3_rebuild_59 : decode cX3_rebuild 59 = .ok (.iadd, 1) := by decide +kernel
theorem dX3_rebuild_60 : decode cX3_rebuild 60 = .ok (.iastore, 1) := by decide +kernel
theorem dX3_rebuild_61 : decode cX3_rebuild 61 = .ok (.iload_n 3, 1) := by decide +kernel
theorem dX3_rebuild_62 : decode cX3_rebuild 62 = .ok (.ifCond .eq 16, 3) := by decide +kernel
theorem dX3_rebuild_65 : decode cX3_rebuild 65 = .ok (.aload_n 0, 1) := by decide +kernel
theorem dX3_rebuild_66 : decode cX3_rebuild 66 = .ok (.getfield 19, 3) := by decide +kernel
theorem dX3_rebuild_69 : decode cX3_rebuild 69 = .ok (.getfield 194, 3) := by decide +kernel
theorem dX3_rebuild_72 : decode cX3_rebuild 72 = .ok (.iload_n 1, 1) := by decide +kernel
theorem dX3_rebuild_73 : decode cX3_rebuild 73 = .ok (.dup2, 1) := by decide +kernel
theorem dX3_rebuild_74 : decode cX3_rebuild 74 = .ok (.iaload, 1) := by decide +kernel
theorem dX3_rebuild_75 : decode cX3_rebuild 75 = .ok (.iconst 1, 1) := by decide +kernel
theorem dX3_rebuild_76 : decode cX3_rebuild 76 = .ok (.iadd, 1) := by decide +kernel
theorem dX3_rebuild_77 : decode cX3_rebuild 77 = .ok (.iastore, 1) := by decide +kernel
theorem dX3_rebuild_78 : decode cX3_rebuild 78 = .ok (.iload_n 3, 1) := by decide +kernel
theorem dX3_rebuild_79 : decode cX3_rebuild 79 = .ok (.ireturn, 1) := by decide +kernel
set_option maxRecDepth 20000 in
theorem ggX3_share_X3_requireBuild : GoodIn wsX3_share wsX3_requireBuild := goodIn_ca (goodIn_r _ [8, 9, 10, 3, 11, 12, 13, 14, 15, 16, 17, 18, 19, 20, 21, 22, 23, 24, 25, 26, 27] (by decide +kernel) (by decide +kernel)) (goodIn_sub (fun _ h => List.mem_cons_of_mem _ (List.mem_append_right _ h)) (by decide +kernel))
set_option maxRecDepth 20000 in
theorem gX3_share_X3_requireBuild : GoodIn wsX3_share (wsV RX3 130 RX3 yX3_requireBuild wsX3_requireBuild) := goodIn_app (goodIn_of _ (by decide +kernel)) ggX3_share_X3_requireBuild
theorem dX3_share_0 : decode cX3_share 0 = .ok (.aload_n 0, 1) := by decide +kernel
theorem dX3_share_1 : decode cX3_share 1 = .ok (.iload_n 1, 1) := by decide +kernel
theorem dX3_share_2 : decode cX3_share 2 = .ok (.invokevirtual 130, 3) := by decide +kernel
theorem dX3_share_5 : decode cX3_share 5 = .ok (.aload_n 0, 1) := by decide +kernel
theorem dX3_share_6 : decode cX3_share 6 = .ok (.getfield 19, 3) := by decide +kernel
theorem dX3_share_9 : decode cX3_share 9 = .ok (.getfield 186, 3) := by decide +kernel
theorem dX3_share_12 : decode cX3_share 12 = .ok (.iload_n 1, 1) := by decide +kernel
theorem dX3_share_13 : decode cX3_share 13 = .ok (.iaload, 1) := by decide +kernel
theorem dX3_share_14 : decode cX3_share 14 = .ok (.istore_n 2, 1) := by decide +kernel
theorem dX3_share_15 : decode cX3_share 15 = .ok (.iload_n 2, 1) := by decide +kernel
theorem dX3_share_16 : decode cX3_share 16 = .ok (.ifCond .gt 13, 3) := by decide +kernel
theorem dX3_share_19 : decode cX3_share 19 = .ok (.new 197, 3) := by decide +kernel
theorem dX3_share_22 : decode cX3_share 22 = .ok (.dup, 1) := by decide +kernel
theorem dX3_share_23 : decode cX3_share 23 = .ok (.ldc 199, 2) := by decide +kernel
theorem dX3_share_25 : decode cX3_share 25 = .ok (.invokespecial 201, 3) := by decide +kernel
theorem dX3_share_28 : decode cX3_share 28 = .ok (.athrow, 1) := by decide +kernel
theorem dX3_share_29 : decode cX3_share 29 = .ok (.aload_n 0, 1) := by decide +kernel
theorem dX3_share_30 : decode cX3_share 30 = .ok (.getfield 19, 3) := by decide +kernel
theorem dX3_share_33 : decode cX3_share 33 = .ok (.getfield 194, 3) := by decide +kernel
theorem dX3_share_36 : decode cX3_share 36 = .ok (.iload_n 1, 1) := by decide +kernel
theorem dX3_share_37 : decode cX3_share 37 = .ok (.iaload, 1) := by decide +kernel
theorem dX3_share_38 : decode cX3_share 38 = .ok (.i2f, 1) := by decide +kernel
theorem dX3_share_39 : decode cX3_share 39 = .ok (.iload_n 2, 1) := by decide +kernel
theorem dX3_share_40 : decode cX3_share 40 = .ok (.i2f, 1) := by decide +kernel
theorem dX3_share_41 : decode cX3_share 41 = .ok (.fdiv, 1) := by decide +kernel
theorem dX3_share_42 : decode cX3_share 42 = .ok (.freturn, 1) := by decide +kernel
set_option maxRecDepth 20000 in
theorem ggX3_addMirror_X2_append : GoodIn wsX3_addMirror wsX2_append := goodIn_r _ [7, 8, 9, 10, 18, 19, 20] (by decide +kernel) (by decide +kernel)
set_option maxRecDepth 20000 in
theorem gX3_addMirror_X2_append_n205 : GoodIn wsX3_addMirror (wsX2_append) := ggX3_addMirror_X2_append
theorem dX3_addMirror_0 : decode cX3_addMirror 0 = .ok (.aload_n 0, 1) := by decide +kernel
theorem dX3_addMirror_1 : decode cX3_addMirror 1 = .ok (.getfield 26, 3) := by decide +kernel
theorem dX3_addMirror_4 : decode cX3_addMirror 4 = .ok (.getfield 202, 3) := by decide +kernel
theorem dX3_addMirror_7 : decode cX3_addMirror 7 = .ok (.iconst 3, 1) := by decide +kernel
theorem dX3_addMirror_8 : decode cX3_addMirror 8 = .ok (.if_icmp .lt 13, 3) := by decide +kernel
theorem dX3_addMirror_11 : decode cX3_addMirror 11 = .ok (.new 58, 3) := by decide +kernel
theorem dX3_addMirror_14 : decode cX3_addMirror 14 = .ok (.dup, 1) := by decide +kernel
theorem dX3_addMirror_15 : decode cX3_addMirror 15 = .ok (.ldc 203, 2) := by decide +kernel
theorem dX3_addMirror_17 : decode cX3_addMirror 17 = .ok (.invokespecial 62, 3) := by decide +kernel
theorem dX3_addMirror_20 : decode cX3_addMirror 20 = .ok (.athrow, 1) := by decide +kernel
theorem dX3_addMirror_21 : decode cX3_addMirror 21 = .ok (.aload_n 0, 1) := by decide +kernel
theorem dX3_addMirror_22 : decode cX3_addMirror 22 = .ok (.getfield 26, 3) := by decide +kernel
theorem dX3_addMirror_25 : decode cX3_addMirror 25 = .ok (.invokevirtual 205, 3) := by decide +kernel
theorem dX3_addMirror_28 : decode cX3_addMirror 28 = .ok (.ireturn, 1) := by decide +kernel
set_option maxRecDepth 20000 in
theorem ggX3_update_X3_requireMirror : GoodIn wsX3_update wsX3_requireMirror := goodIn_ca (goodIn_r _ [8, 9, 10, 1, 23, 24, 25, 26, 27, 28, 29, 30, 31, 32] (by decide +kernel) (by decide +kernel)) (goodIn_sub (fun _ h => List.mem_cons_of_mem _ (List.mem_append_right _ h)) (by decide +kernel))
set_option maxRecDepth 20000 in
theorem gX3_update_X3_requireMirror : GoodIn wsX3_update (wsV RX3 207 RX3 yX3_requireMirror wsX3_requireMirror) := goodIn_app (goodIn_of _ (by decide +kernel)) ggX3_update_X3_requireMirror
set_option maxRecDepth 20000 in
theorem ggX3_update_X0_all : GoodIn wsX3_update wsX0_all := goodIn_r _ [14, 15, 16, 7, 17, 33, 34, 35, 36, 37, 38, 39, 40, 41, 42] (by decide +kernel) (by decide +kernel)
set_option maxRecDepth 20000 in
theorem gX3_update_X0_all_n113 : GoodIn wsX3_update (wsX0_all) := ggX3_update_X0_all
set_option maxRecDepth 20000 in
theorem ggX3_update_X0_recalled : GoodIn wsX3_update wsX0_recalled := goodIn_r _ [20, 21, 15, 22, 16, 7, 17, 33, 34, 35, 36, 37, 38, 39, 40, 41, 42] (by decide +kernel) (by decide +kernel)
set_option maxRecDepth 20000 in
theorem gX3_update_X0_recalled_n118 : GoodIn wsX3_update (wsX0_recalled) := ggX3_update_X0_recalled
theorem dX3_update_0 : decode cX3_update 0 = .ok (.aload_n 0, 1) := by decide +kernel
theorem dX3_update_1 : decode cX3_update 1 = .ok (.iload_n 1, 1) := by decide +kernel
theorem dX3_update_2 : decode cX3_update 2 = .ok (.invokevirtual 207, 3) := by decide +kernel
theorem dX3_update_5 : decode cX3_update 5 = .ok (.aload_n 0, 1) := by decide +kernel
theorem dX3_update_6 : decode cX3_update 6 = .ok (.getfield 26, 3) := by decide +kernel
theorem dX3_update_9 : decode cX3_update 9 = .ok (.getfield 210, 3) := by decide +kernel
theorem dX3_update_12 : decode cX3_update 12 = .ok (.iload_n 1, 1) := by decide +kernel
theorem dX3_update_13 : decode cX3_update 13 = .ok (.aload_n 0, 1) := by decide +kernel
theorem dX3_update_14 : decode cX3_update 14 = .ok (.getfield 19, 3) := by decide +kernel
theorem dX3_update_17 : decode cX3_update 17 = .ok (.invokevirtual 113, 3) := by decide +kernel
theorem dX3_update_20 : decode cX3_update 20 = .ok (.aload_n 0, 1) := by decide +kernel
theorem dX3_update_21 : decode cX3_update 21 = .ok (.getfield 19, 3) := by decide +kernel
theorem dX3_update_24 : decode cX3_update 24 = .ok (.invokevirtual 118, 3) := by decide +kernel
theorem dX3_update_27 : decode cX3_update 27 = .ok (.iconst (-1), 1) := by decide +kernel
theorem dX3_update_28 : decode cX3_update 28 = .ok (.ixor, 1) := by decide +kernel
theorem dX3_update_29 : decode cX3_update 29 = .ok (.iand, 1) := by decide +kernel
theorem dX3_update_30 : decode cX3_update 30 = .ok (.iastore, 1) := by decide +kernel
theorem dX3_update_31 : decode cX3_update 31 = .ok (.aload_n 0, 1) := by decide +kernel
theorem dX3_update_32 : decode cX3_update 32 = .ok (.getfield 26, 3) := by decide +kernel
theorem dX3_update_35 : decode cX3_update 35 = .ok (.getfield 213, 3) := by decide +kernel
theorem dX3_update_38 : decode cX3_update 38 = .ok (.iload_n 1, 1) := by decide +kernel
theorem dX3_update_39 : decode cX3_update 39 = .ok (.aload_n 0, 1) := by decide +kernel
theorem dX3_update_40 : decode cX3_update 40 = .ok (.getfield 41, 3) := by decide +kernel
theorem dX3_update_43 : decode cX3_update 43 = .ok (.iastore, 1) := by decide +kernel
theorem dX3_update_44 : decode cX3_update 44 = .ok (.aload_n 0, 1) := by decide +kernel
theorem dX3_update_45 : decode cX3_update 45 = .ok (.getfield 19, 3) := by decide +kernel
theorem dX3_update_48 : decode cX3_update 48 = .ok (.getfield 126, 3) := by decide +kernel
theorem dX3_update_51 : decode cX3_update 51 = .ok (.ireturn, 1) := by decide +kernel
set_option maxRecDepth 20000 in
theorem ggX3_isExpired_X3_requireMirror : GoodIn wsX3_isExpired wsX3_requireMirror := goodIn_ca (goodIn_r _ [5, 6, 7, 8, 15, 16, 17, 18, 19, 20, 21, 22, 23, 24] (by decide +kernel) (by decide +kernel)) (goodIn_sub (fun _ h => List.mem_cons_of_mem _ (List.mem_append_right _ h)) (by decide +kernel))
set_option maxRecDepth 20000 in
theorem gX3_isExpired_X3_requireMirror : GoodIn wsX3_isExpired (wsV RX3 207 RX3 yX3_requireMirror wsX3_requireMirror) := goodIn_app (goodIn_of _ (by decide +kernel)) ggX3_isExpired_X3_requireMirror
set_option maxRecDepth 20000 in
theorem ggX3_isExpired_X3_hasExpired : GoodIn wsX3_isExpired wsX3_hasExpired := goodIn_r _ [12, 8, 13, 14, 15, 16, 17, 18, 19, 20, 21, 22, 23, 24] (by decide +kernel) (by decide +kernel)
set_option maxRecDepth 20000 in
theorem gX3_isExpired_X3_hasExpired : GoodIn wsX3_isExpired (wsV RX3 216 RX3 yX3_hasExpired wsX3_hasExpired) := goodIn_app (goodIn_of _ (by decide +kernel)) ggX3_isExpired_X3_hasExpired
theorem dX3_isExpired_0 : decode cX3_isExpired 0 = .ok (.aload_n 0, 1) := by decide +kernel
theorem dX3_isExpired_1 : decode cX3_isExpired 1 = .ok (.iload_n 1, 1) := by decide +kernel
theorem dX3_isExpired_2 : decode cX3_isExpired 2 = .ok (.invokevirtual 207, 3) := by decide +kernel
theorem dX3_isExpired_5 : decode cX3_isExpired 5 = .ok (.aload_n 0, 1) := by decide +kernel
theorem dX3_isExpired_6 : decode cX3_isExpired 6 = .ok (.iload_n 1, 1) := by decide +kernel
theorem dX3_isExpired_7 : decode cX3_isExpired 7 = .ok (.invokevirtual 216, 3) := by decide +kernel
theorem dX3_isExpired_10 : decode cX3_isExpired 10 = .ok (.ireturn, 1) := by decide +kernel
theorem dX3_setExpiry_0 : decode cX3_setExpiry 0 = .ok (.iload_n 1, 1) := by decide +kernel
theorem dX3_setExpiry_1 : decode cX3_setExpiry 1 = .ok (.ifCond .lt 9, 3) := by decide +kernel
theorem dX3_setExpiry_4 : decode cX3_setExpiry 4 = .ok (.iload_n 1, 1) := by decide +kernel
theorem dX3_setExpiry_5 : decode cX3_setExpiry 5 = .ok (.bipush 99, 2) := by decide +kernel
theorem dX3_setExpiry_7 : decode cX3_setExpiry 7 = .ok (.if_icmp .le 13, 3) := by decide +kernel
theorem dX3_setExpiry_10 : decode cX3_setExpiry 10 = .ok (.new 48, 3) := by decide +kernel
theorem dX3_setExpiry_13 : decode cX3_setExpiry 13 = .ok (.dup, 1) := by decide +kernel
theorem dX3_setExpiry_14 : decode cX3_setExpiry 14 = .ok (.ldc 220, 2) := by decide +kernel
theorem dX3_setExpiry_16 : decode cX3_setExpiry 16 = .ok (.invokespecial 52, 3) := by decide +kernel
theorem dX3_setExpiry_19 : decode cX3_setExpiry 19 = .ok (.athrow, 1) := by decide +kernel
theorem dX3_setExpiry_20 : decode cX3_setExpiry 20 = .ok (.aload_n 0, 1) := by decide +kernel
theorem dX3_setExpiry_21 : decode cX3_setExpiry 21 = .ok (.getfield 37, 3) := by decide +kernel
theorem dX3_setExpiry_24 : decode cX3_setExpiry 24 = .ok (.istore_n 2, 1) := by decide +kernel
theorem dX3_setExpiry_25 : decode cX3_setExpiry 25 = .ok (.aload_n 0, 1) := by decide +kernel
theorem dX3_setExpiry_26 : decode cX3_setExpiry 26 = .ok (.iload_n 1, 1) := by decide +kernel
theorem dX3_setExpiry_27 : decode cX3_setExpiry 27 = .ok (.putfield 37, 3) := by decide +kernel
theorem dX3_setExpiry_30 : decode cX3_setExpiry 30 = .ok (.iload_n 2, 1) := by decide +kernel
theorem dX3_setExpiry_31 : decode cX3_setExpiry 31 = .ok (.ireturn, 1) := by decide +kernel
set_option maxRecDepth 20000 in
theorem ggX3_install_X3_requireMirror : GoodIn wsX3_install wsX3_requireMirror := goodIn_ca (goodIn_r _ [9, 10, 11, 4, 56, 57, 58, 59, 60, 61, 62, 63, 64, 65] (by decide +kernel) (by decide +kernel)) (goodIn_sub (fun _ h => List.mem_cons_of_mem _ (List.mem_append_left _ (List.mem_append_left _ (List.mem_append_right _ h)))) (by decide +kernel))
set_option maxRecDepth 20000 in
theorem gX3_install_X3_requireMirror : GoodIn wsX3_install (wsV RX3 207 RX3 yX3_requireMirror wsX3_requireMirror) := goodIn_app (goodIn_of _ (by decide +kernel)) ggX3_install_X3_requireMirror
set_option maxRecDepth 20000 in
theorem ggX3_install_X3_requireName : GoodIn wsX3_install wsX3_requireName := goodIn_ca (goodIn_r _ [15, 16, 17] (by decide +kernel) (by decide +kernel)) (goodIn_sub (fun _ h => List.mem_cons_of_mem _ (List.mem_append_left _ (List.mem_append_right _ h))) (by decide +kernel))
set_option maxRecDepth 20000 in
theorem gX3_install_X3_requireName : GoodIn wsX3_install (wsV RX3 108 RX3 yX3_requireName wsX3_requireName) := goodIn_app (goodIn_of _ (by decide +kernel)) ggX3_install_X3_requireName
set_option maxRecDepth 20000 in
theorem ggX3_install_X3_hasExpired : GoodIn wsX3_install wsX3_hasExpired := goodIn_r _ [21, 4, 22, 23, 56, 57, 58, 59, 60, 61, 62, 63, 64, 65] (by decide +kernel) (by decide +kernel)
set_option maxRecDepth 20000 in
theorem gX3_install_X3_hasExpired : GoodIn wsX3_install (wsV RX3 216 RX3 yX3_hasExpired wsX3_hasExpired) := goodIn_app (goodIn_of _ (by decide +kernel)) ggX3_install_X3_hasExpired
set_option maxRecDepth 20000 in
theorem ggX3_install_X3_trustedBuilds : GoodIn wsX3_install wsX3_trustedBuilds := goodIn_r _ [27, 3, 28, 29, 30, 8, 31, 32, 33, 34, 35, 36, 37, 38, 39, 40, 41, 42, 43, 44, 56, 57, 58, 59, 60, 61, 62, 66, 67, 68, 69, 70, 71, 72, 73, 74, 75] (by decide +kernel) (by decide +kernel)
set_option maxRecDepth 20000 in
theorem gX3_install_X3_trustedBuilds : GoodIn wsX3_install (wsV RX3 79 RX3 yX3_trustedBuilds wsX3_trustedBuilds) := goodIn_app (goodIn_of _ (by decide +kernel)) ggX3_install_X3_trustedBuilds
set_option maxRecDepth 20000 in
theorem ggX3_install_X0_newestOf : GoodIn wsX3_install wsX0_newestOf := goodIn_r _ [48, 49, 50, 40, 8, 41, 42, 43, 44, 66, 67, 68, 69, 70, 71, 72, 73, 74, 75] (by decide +kernel) (by decide +kernel)
set_option maxRecDepth 20000 in
theorem gX3_install_X0_newestOf_n142 : GoodIn wsX3_install (wsX0_newestOf) := ggX3_install_X0_newestOf
set_option maxRecDepth 20000 in
theorem ggX3_install_X3_requireFound : GoodIn wsX3_install wsX3_requireFound := goodIn_ca (goodIn_r _ [53, 54, 55] (by decide +kernel) (by decide +kernel)) (goodIn_sub (fun _ h => List.mem_cons_of_mem _ (List.mem_append_right _ h)) (by decide +kernel))
set_option maxRecDepth 20000 in
theorem gX3_install_X3_requireFound : GoodIn wsX3_install (va_wsS RX3 146 yX3_requireFound wsX3_requireFound) := goodIn_app (goodIn_of _ (by decide +kernel)) ggX3_install_X3_requireFound
theorem dX3_install_0 : decode cX3_install 0 = .ok (.aload_n 0, 1) := by decide +kernel
theorem dX3_install_1 : decode cX3_install 1 = .ok (.iload_n 1, 1) := by decide +kernel
theorem dX3_install_2 : decode cX3_install 2 = .ok (.invokevirtual 207, 3) := by decide +kernel
theorem dX3_install_5 : decode cX3_install 5 = .ok (.aload_n 0, 1) := by decide +kernel
theorem dX3_install_6 : decode cX3_install 6 = .ok (.iload_n 2, 1) := by decide +kernel
theorem dX3_install_7 : decode cX3_install 7 = .ok (.invokevirtual 108, 3) := by decide +kernel
theorem dX3_install_10 : decode cX3_install 10 = .ok (.aload_n 0, 1) := by decide +kernel
theorem dX3_install_11 : decode cX3_install 11 = .ok (.iload_n 1, 1) := by decide +kernel
theorem dX3_install_12 : decode cX3_install 12 = .ok (.invokevirtual 216, 3) := by decide +kernel
theorem dX3_install_15 : decode cX3_install 15 = .ok (.ifCond .eq 13, 3) := by decide +kernel
theorem dX3_install_18 : decode cX3_install 18 = .ok (.new 121, 3) := by decide +kernel
theorem dX3_install_21 : decode cX3_install 21 = .ok (.dup, 1) := by decide +kernel
theorem dX3_install_22 : decode cX3_install 22 = .ok (.ldc 222, 2) := by decide +kernel
theorem dX3_install_24 : decode cX3_install 24 = .ok (.invokespecial 125, 3) := by decide +kernel
theorem dX3_install_27 : decode cX3_install 27 = .ok (.athrow, 1) := by decide +kernel
theorem dX3_install_28 : decode cX3_install 28 = .ok (.aload_n 0, 1) := by decide +kernel
theorem dX3_install_29 : decode cX3_install 29 = .ok (.getfield 19, 3) := by decide +kernel
theorem dX3_install_32 : decode cX3_install 32 = .ok (.iload_n 2, 1) := by decide +kernel
theorem dX3_install_33 : decode cX3_install 33 = .ok (.aload_n 0, 1) := by decide +kernel
theorem dX3_install_34 : decode cX3_install 34 = .ok (.invokevirtual 79, 3) := by decide +kernel
theorem dX3_install_37 : decode cX3_install 37 = .ok (.aload_n 0, 1) := by decide +kernel
theorem dX3_install_38 : decode cX3_install 38 = .ok (.getfield 26, 3) := by decide +kernel
theorem dX3_install_41 : decode cX3_install 41 = .ok (.getfield 210, 3) := by decide +kernel
theorem dX3_install_44 : decode cX3_install 44 = .ok (.iload_n 1, 1) := by decide +kernel
theorem dX3_install_45 : decode cX3_install 45 = .ok (.iaload, 1) := by decide +kernel
theorem dX3_install_46 : decode cX3_install 46 = .ok (.iand, 1) := by decide +kernel
theorem dX3_install_47 : decode cX3_install 47 = .ok (.invokevirtual 142, 3) := by decide +kernel
theorem dX3_install_50 : decode cX3_install 50 = .ok (.invokestatic 146, 3) := by decide +kernel
theorem dX3_install_53 : decode cX3_install 53 = .ok (.ireturn, 1) := by decide +kernel
set_option maxRecDepth 20000 in
theorem ggX3_pass_X3_trustedBuilds : GoodIn wsX3_pass wsX3_trustedBuilds := goodIn_r _ [10, 4, 11, 12, 13, 9, 14, 15, 16, 17, 18, 19, 20, 21, 22, 23, 24, 25, 26, 27, 58, 59, 60, 61, 62, 63, 64, 65, 66, 67, 68, 69, 70, 71, 72, 73, 74] (by decide +kernel) (by decide +kernel)
set_option maxRecDepth 20000 in
theorem gX3_pass_X3_trustedBuilds : GoodIn wsX3_pass (wsV RX3 79 RX3 yX3_trustedBuilds wsX3_trustedBuilds) := goodIn_app (goodIn_of _ (by decide +kernel)) ggX3_pass_X3_trustedBuilds
set_option maxRecDepth 20000 in
theorem ggX3_pass_X0_keepVouchers : GoodIn wsX3_pass wsX0_keepVouchers := goodIn_r _ [31, 32, 33, 34, 35, 36, 37, 38, 39, 40, 41, 42, 43, 44, 45, 46, 23, 9, 24, 25, 26, 27, 47, 48, 49, 50, 65, 66, 67, 68, 69, 70, 71, 72, 73, 74, 75, 76, 77, 78, 79] (by decide +kernel) (by decide +kernel)
set_option maxRecDepth 20000 in
theorem gX3_pass_X0_keepVouchers_n87 : GoodIn wsX3_pass (wsX0_keepVouchers) := ggX3_pass_X0_keepVouchers
set_option maxRecDepth 20000 in
theorem ggX3_pass_J6_bitCount_0f7a4 : GoodIn wsX3_pass wsJ6_bitCount_0f7a4 := goodIn_r _ [54, 55, 56, 57] (by decide +kernel) (by decide +kernel)
set_option maxRecDepth 20000 in
theorem gX3_pass_J6_bitCount_0f7a4 : GoodIn wsX3_pass (va_wsS RX3 91 yJ6_bitCount_0f7a4 wsJ6_bitCount_0f7a4) := goodIn_app (goodIn_of _ (by decide +kernel)) ggX3_pass_J6_bitCount_0f7a4
theorem dX3_pass_0 : decode cX3_pass 0 = .ok (.iload_n 1, 1) := by decide +kernel
theorem dX3_pass_1 : decode cX3_pass 1 = .ok (.iconst 1, 1) := by decide +kernel
theorem dX3_pass_2 : decode cX3_pass 2 = .ok (.if_icmp .lt 21, 3) := by decide +kernel
theorem dX3_pass_5 : decode cX3_pass 5 = .ok (.iload_n 1, 1) := by decide +kernel
theorem dX3_pass_6 : decode cX3_pass 6 = .ok (.bipush 60, 2) := by decide +kernel
theorem dX3_pass_8 : decode cX3_pass 8 = .ok (.if_icmp .gt 15, 3) := by decide +kernel
theorem dX3_pass_11 : decode cX3_pass 11 = .ok (.iload_n 1, 1) := by decide +kernel
theorem dX3_pass_12 : decode cX3_pass 12 = .ok (.sipush 999, 3) := by decide +kernel
theorem dX3_pass_15 : decode cX3_pass 15 = .ok (.aload_n 0, 1) := by decide +kernel
theorem dX3_pass_16 : decode cX3_pass 16 = .ok (.getfield 41, 3) := by decide +kernel
theorem dX3_pass_19 : decode cX3_pass 19 = .ok (.isub, 1) := by decide +kernel
theorem dX3_pass_20 : decode cX3_pass 20 = .ok (.if_icmp .le 13, 3) := by decide +kernel
theorem dX3_pass_23 : decode cX3_pass 23 = .ok (.new 48, 3) := by decide +kernel
theorem dX3_pass_26 : decode cX3_pass 26 = .ok (.dup, 1) := by decide +kernel
theorem dX3_pass_27 : decode cX3_pass 27 = .ok (.ldc 224, 2) := by decide +kernel
theorem dX3_pass_29 : decode cX3_pass 29 = .ok (.invokespecial 52, 3) := by decide +kernel
theorem dX3_pass_32 : decode cX3_pass 32 = .ok (.athrow, 1) := by decide +kernel
theorem dX3_pass_33 : decode cX3_pass 33 = .ok (.aload_n 0, 1) := by decide +kernel
theorem dX3_pass_34 : decode cX3_pass 34 = .ok (.invokevirtual 79, 3) := by decide +kernel
theorem dX3_pass_37 : decode cX3_pass 37 = .ok (.istore_n 2, 1) := by decide +kernel
theorem dX3_pass_38 : decode cX3_pass 38 = .ok (.aload_n 0, 1) := by decide +kernel
theorem dX3_pass_39 : decode cX3_pass 39 = .ok (.dup, 1) := by decide +kernel
theorem dX3_pass_40 : decode cX3_pass 40 = .ok (.getfield 41, 3) := by decide +kernel
theorem dX3_pass_43 : decode cX3_pass 43 = .ok (.iload_n 1, 1) := by decide +kernel
theorem dX3_pass_44 : decode cX3_pass 44 = .ok (.iadd, 1) := by decide +kernel
theorem dX3_pass_45 : decode cX3_pass 45 = .ok (.putfield 41, 3) := by decide +kernel
theorem dX3_pass_48 : decode cX3_pass 48 = .ok (.aload_n 0, 1) := by decide +kernel
theorem dX3_pass_49 : decode cX3_pass 49 = .ok (.getfield 19, 3) := by decide +kernel
theorem dX3_pass_52 : decode cX3_pass 52 = .ok (.aload_n 0, 1) := by decide +kernel
theorem dX3_pass_53 : decode cX3_pass 53 = .ok (.getfield 10, 3) := by decide +kernel
theorem dX3_pass_56 : decode cX3_pass 56 = .ok (.aload_n 0, 1) := by decide +kernel
theorem dX3_pass_57 : decode cX3_pass 57 = .ok (.getfield 41, 3) := by decide +kernel
theorem dX3_pass_60 : decode cX3_pass 60 = .ok (.invokevirtual 87, 3) := by decide +kernel
theorem dX3_pass_63 : decode cX3_pass 63 = .ok (.iload_n 2, 1) := by decide +kernel
theorem dX3_pass_64 : decode cX3_pass 64 = .ok (.aload_n 0, 1) := by decide +kernel
theorem dX3_pass_65 : decode cX3_pass 65 = .ok (.invokevirtual 79, 3) := by decide +kernel
theorem dX3_pass_68 : decode cX3_pass 68 = .ok (.iconst (-1), 1) := by decide +kernel
theorem dX3_pass_69 : decode cX3_pass 69 = .ok (.ixor, 1) := by decide +kernel
theorem dX3_pass_70 : decode cX3_pass 70 = .ok (.iand, 1) := by decide +kernel
theorem dX3_pass_71 : decode cX3_pass 71 = .ok (.invokestatic 91, 3) := by decide +kernel
theorem dX3_pass_74 : decode cX3_pass 74 = .ok (.ireturn, 1) := by decide +kernel
theorem dX3_day_0 : decode cX3_day 0 = .ok (.aload_n 0, 1) := by decide +kernel
theorem dX3_day_1 : decode cX3_day 1 = .ok (.getfield 41, 3) := by decide +kernel
theorem dX3_day_4 : decode cX3_day 4 = .ok (.ireturn, 1) := by decide +kernel
set_option maxRecDepth 20000 in
theorem ggX3_scoreSumBits_X3_scoreFrom : GoodIn wsX3_scoreSumBits wsX3_scoreFrom := goodIn_r _ [6, 7, 8, 9, 10, 5, 11, 12, 13, 14, 22, 23, 24, 25, 26, 27, 28] (by decide +kernel) (by decide +kernel)
set_option maxRecDepth 20000 in
theorem gX3_scoreSumBits_X3_scoreFrom : GoodIn wsX3_scoreSumBits (wsV RX3 168 RX3 yX3_scoreFrom wsX3_scoreFrom) := goodIn_app (goodIn_of _ (by decide +kernel)) ggX3_scoreSumBits_X3_scoreFrom
set_option maxRecDepth 20000 in
theorem ggX3_scoreSumBits_X3_doubleBits : GoodIn wsX3_scoreSumBits wsX3_doubleBits := goodIn_r _ [17, 18, 19, 20, 21] (by decide +kernel) (by decide +kernel)
set_option maxRecDepth 20000 in
theorem gX3_scoreSumBits_X3_doubleBits : GoodIn wsX3_scoreSumBits (va_wsS RX3 226 yX3_doubleBits wsX3_doubleBits) := goodIn_app (goodIn_of _ (by decide +kernel)) ggX3_scoreSumBits_X3_doubleBits
theorem dX3_scoreSumBits_0 : decode cX3_scoreSumBits 0 = .ok (.dconst 0, 1) := by decide +kernel
theorem dX3_scoreSumBits_1 : decode cX3_scoreSumBits 1 = .ok (.dstore_n 1, 1) := by decide +kernel
theorem dX3_scoreSumBits_2 : decode cX3_scoreSumBits 2 = .ok (.iconst 0, 1) := by decide +kernel
theorem dX3_scoreSumBits_3 : decode cX3_scoreSumBits 3 = .ok (.istore_n 3, 1) := by decide +kernel
theorem dX3_scoreSumBits_4 : decode cX3_scoreSumBits 4 = .ok (.iload_n 3, 1) := by decide +kernel
theorem dX3_scoreSumBits_5 : decode cX3_scoreSumBits 5 = .ok (.aload_n 0, 1) := by decide +kernel
theorem dX3_scoreSumBits_6 : decode cX3_scoreSumBits 6 = .ok (.getfield 19, 3) := by decide +kernel
theorem dX3_scoreSumBits_9 : decode cX3_scoreSumBits 9 = .ok (.getfield 126, 3) := by decide +kernel
theorem dX3_scoreSumBits_12 : decode cX3_scoreSumBits 12 = .ok (.if_icmp .ge 26, 3) := by decide +kernel
theorem dX3_scoreSumBits_15 : decode cX3_scoreSumBits 15 = .ok (.dload_n 1, 1) := by decide +kernel
theorem dX3_scoreSumBits_16 : decode cX3_scoreSumBits 16 = .ok (.aload_n 0, 1) := by decide +kernel
theorem dX3_scoreSumBits_17 : decode cX3_scoreSumBits 17 = .ok (.aload_n 0, 1) := by decide +kernel
theorem dX3_scoreSumBits_18 : decode cX3_scoreSumBits 18 = .ok (.getfield 19, 3) := by decide +kernel
theorem dX3_scoreSumBits_21 : decode cX3_scoreSumBits 21 = .ok (.getfield 156, 3) := by decide +kernel
theorem dX3_scoreSumBits_24 : decode cX3_scoreSumBits 24 = .ok (.iload_n 3, 1) := by decide +kernel
theorem dX3_scoreSumBits_25 : decode cX3_scoreSumBits 25 = .ok (.iaload, 1) := by decide +kernel
theorem dX3_scoreSumBits_26 : decode cX3_scoreSumBits 26 = .ok (.invokevirtual 168, 3) := by decide +kernel
theorem dX3_scoreSumBits_29 : decode cX3_scoreSumBits 29 = .ok (.f2d, 1) := by decide +kernel
theorem dX3_scoreSumBits_30 : decode cX3_scoreSumBits 30 = .ok (.dadd, 1) := by decide +kernel
theorem dX3_scoreSumBits_31 : decode cX3_scoreSumBits 31 = .ok (.dstore_n 1, 1) := by decide +kernel
theorem dX3_scoreSumBits_32 : decode cX3_scoreSumBits 32 = .ok (.iinc 3 1, 3) := by decide +kernel
theorem dX3_scoreSumBits_35 : decode cX3_scoreSumBits 35 = .ok (.goto (-31), 3) := by decide +kernel
theorem dX3_scoreSumBits_38 : decode cX3_scoreSumBits 38 = .ok (.dload_n 1, 1) := by decide +kernel
theorem dX3_scoreSumBits_39 : decode cX3_scoreSumBits 39 = .ok (.invokestatic 226, 3) := by decide +kernel
theorem dX3_scoreSumBits_42 : decode cX3_scoreSumBits 42 = .ok (.lreturn, 1) := by decide +kernel
set_option maxRecDepth 20000 in
theorem ggX3_scoreFrom_X3_holds : GoodIn wsX3_scoreFrom wsX3_holds := goodIn_r _ [6, 7, 8, 5, 9] (by decide +kernel) (by decide +kernel)
set_option maxRecDepth 20000 in
theorem gX3_scoreFrom_X3_holds : GoodIn wsX3_scoreFrom (va_wsS RX3 73 yX3_holds wsX3_holds) := goodIn_app (goodIn_of _ (by decide +kernel)) ggX3_scoreFrom_X3_holds
theorem dX3_scoreFrom_0 : decode cX3_scoreFrom 0 = .ok (.fconst 0, 1) := by decide +kernel
theorem dX3_scoreFrom_1 : decode cX3_scoreFrom 1 = .ok (.fstore_n 2, 1) := by decide +kernel
theorem dX3_scoreFrom_2 : decode cX3_scoreFrom 2 = .ok (.iconst 0, 1) := by decide +kernel
theorem dX3_scoreFrom_3 : decode cX3_scoreFrom 3 = .ok (.istore_n 3, 1) := by decide +kernel
theorem dX3_scoreFrom_4 : decode cX3_scoreFrom 4 = .ok (.iload_n 3, 1) := by decide +kernel
theorem dX3_scoreFrom_5 : decode cX3_scoreFrom 5 = .ok (.iconst 4, 1) := by decide +kernel
theorem dX3_scoreFrom_6 : decode cX3_scoreFrom 6 = .ok (.if_icmp .ge 30, 3) := by decide +kernel
theorem dX3_scoreFrom_9 : decode cX3_scoreFrom 9 = .ok (.iload_n 1, 1) := by decide +kernel
theorem dX3_scoreFrom_10 : decode cX3_scoreFrom 10 = .ok (.iload_n 3, 1) := by decide +kernel
theorem dX3_scoreFrom_11 : decode cX3_scoreFrom 11 = .ok (.invokestatic 73, 3) := by decide +kernel
theorem dX3_scoreFrom_14 : decode cX3_scoreFrom 14 = .ok (.ifCond .eq 16, 3) := by decide +kernel
theorem dX3_scoreFrom_17 : decode cX3_scoreFrom 17 = .ok (.fload_n 2, 1) := by decide +kernel
theorem dX3_scoreFrom_18 : decode cX3_scoreFrom 18 = .ok (.aload_n 0, 1) := by decide +kernel
theorem dX3_scoreFrom_19 : decode cX3_scoreFrom 19 = .ok (.getfield 30, 3) := by decide +kernel
theorem dX3_scoreFrom_22 : decode cX3_scoreFrom 22 = .ok (.iload_n 3, 1) := by decide +kernel
theorem dX3_scoreFrom_23 : decode cX3_scoreFrom 23 = .ok (.iaload, 1) := by decide +kernel
theorem dX3_scoreFrom_24 : decode cX3_scoreFrom 24 = .ok (.i2f, 1) := by decide +kernel
theorem dX3_scoreFrom_25 : decode cX3_scoreFrom 25 = .ok (.ldc 230, 2) := by decide +kernel
theorem dX3_scoreFrom_27 : decode cX3_scoreFrom 27 = .ok (.fdiv, 1) := by decide +kernel
theorem dX3_scoreFrom_28 : decode cX3_scoreFrom 28 = .ok (.fadd, 1) := by decide +kernel
theorem dX3_scoreFrom_29 : decode cX3_scoreFrom 29 = .ok (.fstore_n 2, 1) := by decide +kernel
theorem dX3_scoreFrom_30 : decode cX3_scoreFrom 30 = .ok (.iinc 3 1, 3) := by decide +kernel
theorem dX3_scoreFrom_33 : decode cX3_scoreFrom 33 = .ok (.goto (-29), 3) := by decide +kernel
theorem dX3_scoreFrom_36 : decode cX3_scoreFrom 36 = .ok (.fload_n 2, 1) := by decide +kernel
theorem dX3_scoreFrom_37 : decode cX3_scoreFrom 37 = .ok (.freturn, 1) := by decide +kernel
set_option maxRecDepth 20000 in
theorem ggX3_suffices_X3_scoreFrom : GoodIn wsX3_suffices wsX3_scoreFrom := goodIn_r _ [8, 9, 3, 10, 11, 7, 12, 13, 14, 15, 16, 17, 18, 19, 20, 21, 22] (by decide +kernel) (by decide +kernel)
set_option maxRecDepth 20000 in
theorem gX3_suffices_X3_scoreFrom : GoodIn wsX3_suffices (wsV RX3 168 RX3 yX3_scoreFrom wsX3_scoreFrom) := goodIn_app (goodIn_of _ (by decide +kernel)) ggX3_suffices_X3_scoreFrom
theorem dX3_suffices_0 : decode cX3_suffices 0 = .ok (.aload_n 0, 1) := by decide +kernel
theorem dX3_suffices_1 : decode cX3_suffices 1 = .ok (.iload_n 1, 1) := by decide +kernel
theorem dX3_suffices_2 : decode cX3_suffices 2 = .ok (.invokevirtual 168, 3) := by decide +kernel
theorem dX3_suffices_5 : decode cX3_suffices 5 = .ok (.aload_n 0, 1) := by decide +kernel
theorem dX3_suffices_6 : decode cX3_suffices 6 = .ok (.getfield 34, 3) := by decide +kernel
theorem dX3_suffices_9 : decode cX3_suffices 9 = .ok (.aload_n 0, 1) := by decide +kernel
theorem dX3_suffices_10 : decode cX3_suffices 10 = .ok (.getfield 19, 3) := by decide +kernel
theorem dX3_suffices_13 : decode cX3_suffices 13 = .ok (.getfield 133, 3) := by decide +kernel
theorem dX3_suffices_16 : decode cX3_suffices 16 = .ok (.iload_n 2, 1) := by decide +kernel
theorem dX3_suffices_17 : decode cX3_suffices 17 = .ok (.iaload, 1) := by decide +kernel
theorem dX3_suffices_18 : decode cX3_suffices 18 = .ok (.iaload, 1) := by decide +kernel
theorem dX3_suffices_19 : decode cX3_suffices 19 = .ok (.i2f, 1) := by decide +kernel
theorem dX3_suffices_20 : decode cX3_suffices 20 = .ok (.ldc 230, 2) := by decide +kernel
theorem dX3_suffices_22 : decode cX3_suffices 22 = .ok (.fdiv, 1) := by decide +kernel
theorem dX3_suffices_23 : decode cX3_suffices 23 = .ok (.fcmp .l, 1) := by decide +kernel
theorem dX3_suffices_24 : decode cX3_suffices 24 = .ok (.ifCond .lt 7, 3) := by decide +kernel
theorem dX3_suffices_27 : decode cX3_suffices 27 = .ok (.iconst 1, 1) := by decide +kernel
theorem dX3_suffices_28 : decode cX3_suffices 28 = .ok (.goto 4, 3) := by decide +kernel
theorem dX3_suffices_31 : decode cX3_suffices 31 = .ok (.iconst 0, 1) := by decide +kernel
theorem dX3_suffices_32 : decode cX3_suffices 32 = .ok (.ireturn, 1) := by decide +kernel
set_option maxRecDepth 20000 in
theorem ggX3_trustedBuilds_X3_suffices : GoodIn wsX3_trustedBuilds wsX3_suffices := goodIn_r _ [6, 7, 1, 8, 9, 10, 11, 5, 12, 13, 14, 15, 16, 17, 18, 19, 20, 21, 22, 23, 24, 25, 26, 27, 28, 29, 30, 31, 32, 33, 34, 35, 36] (by decide +kernel) (by decide +kernel)
set_option maxRecDepth 20000 in
theorem gX3_trustedBuilds_X3_suffices : GoodIn wsX3_trustedBuilds (wsV RX3 176 RX3 yX3_suffices wsX3_suffices) := goodIn_app (goodIn_of _ (by decide +kernel)) ggX3_trustedBuilds_X3_suffices
set_option maxRecDepth 20000 in
theorem ggX3_trustedBuilds_X3_only : GoodIn wsX3_trustedBuilds wsX3_only := goodIn_r _ [19] (by decide +kernel) (by decide +kernel)
set_option maxRecDepth 20000 in
theorem gX3_trustedBuilds_X3_only : GoodIn wsX3_trustedBuilds (va_wsS RX3 83 yX3_only wsX3_only) := goodIn_app (goodIn_of _ (by decide +kernel)) ggX3_trustedBuilds_X3_only
theorem dX3_trustedBuilds_0 : decode cX3_trustedBuilds 0 = .ok (.iconst 0, 1) := by decide +kernel
theorem dX3_trustedBuilds_1 : decode cX3_trustedBuilds 1 = .ok (.istore_n 1, 1) := by decide +kernel
theorem dX3_trustedBuilds_2 : decode cX3_trustedBuilds 2 = .ok (.iconst 0, 1) := by decide +kernel
theorem dX3_trustedBuilds_3 : decode cX3_trustedBuilds 3 = .ok (.istore_n 2, 1) := by decide +kernel
theorem dX3_trustedBuilds_4 : decode cX3_trustedBuilds 4 = .ok (.iload_n 2, 1) := by decide +kernel
theorem dX3_trustedBuilds_5 : decode cX3_trustedBuilds 5 = .ok (.aload_n 0, 1) := by decide +kernel
theorem dX3_trustedBuilds_6 : decode cX3_trustedBuilds 6 = .ok (.getfield 19, 3) := by decide +kernel
theorem dX3_trustedBuilds_9 : decode cX3_trustedBuilds 9 = .ok (.getfield 126, 3) := by decide +kernel
theorem dX3_trustedBuilds_12 : decode cX3_trustedBuilds 12 = .ok (.if_icmp .ge 33, 3) := by decide +kernel
theorem dX3_trustedBuilds_15 : decode cX3_trustedBuilds 15 = .ok (.aload_n 0, 1) := by decide +kernel
theorem dX3_trustedBuilds_16 : decode cX3_trustedBuilds 16 = .ok (.aload_n 0, 1) := by decide +kernel
theorem dX3_trustedBuilds_17 : decode cX3_trustedBuilds 17 = .ok (.getfield 19, 3) := by decide +kernel
theorem dX3_trustedBuilds_20 : decode cX3_trustedBuilds 20 = .ok (.getfield 156, 3) := by decide +kernel
theorem dX3_trustedBuilds_23 : decode cX3_trustedBuilds 23 = .ok (.iload_n 2, 1) := by decide +kernel
theorem dX3_trustedBuilds_24 : decode cX3_trustedBuilds 24 = .ok (.iaload, 1) := by decide +kernel
theorem dX3_trustedBuilds_25 : decode cX3_trustedBuilds 25 = .ok (.iload_n 2, 1) := by decide +kernel
theorem dX3_trustedBuilds_26 : decode cX3_trustedBuilds 26 = .ok (.invokevirtual 176, 3) := by decide +kernel
theorem dX3_trustedBuilds_29 : decode cX3_trustedBuilds 29 = .ok (.ifCond .eq 10, 3) := by decide +kernel
theorem dX3_trustedBuilds_32 : decode cX3_trustedBuilds 32 = .ok (.iload_n 1, 1) := by decide +kernel
theorem dX3_trustedBuilds_33 : decode cX3_trustedBuilds 33 = .ok (.iload_n 2, 1) := by decide +kernel
theorem dX3_trustedBuilds_34 : decode cX3_trustedBuilds 34 = .ok (.invokestatic 83, 3) := by decide +kernel
theorem dX3_trustedBuilds_37 : decode cX3_trustedBuilds 37 = .ok (.ior, 1) := by decide +kernel
theorem dX3_trustedBuilds_38 : decode cX3_trustedBuilds 38 = .ok (.istore_n 1, 1) := by decide +kernel
theorem dX3_trustedBuilds_39 : decode cX3_trustedBuilds 39 = .ok (.iinc 2 1, 3) := by decide +kernel
theorem dX3_trustedBuilds_42 : decode cX3_trustedBuilds 42 = .ok (.goto (-38), 3) := by decide +kernel
theorem dX3_trustedBuilds_45 : decode cX3_trustedBuilds 45 = .ok (.iload_n 1, 1) := by decide +kernel
theorem dX3_trustedBuilds_46 : decode cX3_trustedBuilds 46 = .ok (.ireturn, 1) := by decide +kernel
theorem dX3_hasExpired_0 : decode cX3_hasExpired 0 = .ok (.aload_n 0, 1) := by decide +kernel
theorem dX3_hasExpired_1 : decode cX3_hasExpired 1 = .ok (.getfield 26, 3) := by decide +kernel
theorem dX3_hasExpired_4 : decode cX3_hasExpired 4 = .ok (.getfield 213, 3) := by decide +kernel
theorem dX3_hasExpired_7 : decode cX3_hasExpired 7 = .ok (.iload_n 1, 1) := by decide +kernel
theorem dX3_hasExpired_8 : decode cX3_hasExpired 8 = .ok (.iaload, 1) := by decide +kernel
theorem dX3_hasExpired_9 : decode cX3_hasExpired 9 = .ok (.istore_n 2, 1) := by decide +kernel
theorem dX3_hasExpired_10 : decode cX3_hasExpired 10 = .ok (.iload_n 2, 1) := by decide +kernel
theorem dX3_hasExpired_11 : decode cX3_hasExpired 11 = .ok (.iconst (-1), 1) := by decide +kernel
theorem dX3_hasExpired_12 : decode cX3_hasExpired 12 = .ok (.if_icmp .eq 16, 3) := by decide +kernel
theorem dX3_hasExpired_15 : decode cX3_hasExpired 15 = .ok (.aload_n 0, 1) := by decide +kernel
theorem dX3_hasExpired_16 : decode cX3_hasExpired 16 = .ok (.getfield 41, 3) := by decide +kernel
theorem dX3_hasExpired_19 : decode cX3_hasExpired 19 = .ok (.iload_n 2, 1) := by decide +kernel
theorem dX3_hasExpired_20 : decode cX3_hasExpired 20 = .ok (.isub, 1) := by decide +kernel
theorem dX3_hasExpired_21 : decode cX3_hasExpired 21 = .ok (.aload_n 0, 1) := by decide +kernel
theorem dX3_hasExpired_22 : decode cX3_hasExpired 22 = .ok (.getfield 37, 3) := by decide +kernel
theorem dX3_hasExpired_25 : decode cX3_hasExpired 25 = .ok (.if_icmp .le 7, 3) := by decide +kernel
theorem dX3_hasExpired_28 : decode cX3_hasExpired 28 = .ok (.iconst 1, 1) := by decide +kernel
theorem dX3_hasExpired_29 : decode cX3_hasExpired 29 = .ok (.goto 4, 3) := by decide +kernel
theorem dX3_hasExpired_32 : decode cX3_hasExpired 32 = .ok (.iconst 0, 1) := by decide +kernel
theorem dX3_hasExpired_33 : decode cX3_hasExpired 33 = .ok (.ireturn, 1) := by decide +kernel
theorem dX3_requireSigner_0 : decode cX3_requireSigner 0 = .ok (.iload_n 1, 1) := by decide +kernel
theorem dX3_requireSigner_1 : decode cX3_requireSigner 1 = .ok (.ifCond .lt 8, 3) := by decide +kernel
theorem dX3_requireSigner_4 : decode cX3_requireSigner 4 = .ok (.iload_n 1, 1) := by decide +kernel
theorem dX3_requireSigner_5 : decode cX3_requireSigner 5 = .ok (.iconst 4, 1) := by decide +kernel
theorem dX3_requireSigner_6 : decode cX3_requireSigner 6 = .ok (.if_icmp .lt 13, 3) := by decide +kernel
theorem dX3_requireSigner_9 : decode cX3_requireSigner 9 = .ok (.new 48, 3) := by decide +kernel
theorem dX3_requireSigner_12 : decode cX3_requireSigner 12 = .ok (.dup, 1) := by decide +kernel
theorem dX3_requireSigner_13 : decode cX3_requireSigner 13 = .ok (.ldc 231, 2) := by decide +kernel
theorem dX3_requireSigner_15 : decode cX3_requireSigner 15 = .ok (.invokespecial 52, 3) := by decide +kernel
theorem dX3_requireSigner_18 : decode cX3_requireSigner 18 = .ok (.athrow, 1) := by decide +kernel
theorem dX3_requireSigner_19 : decode cX3_requireSigner 19 = .ok (.return_, 1) := by decide +kernel
theorem dX3_requireName_0 : decode cX3_requireName 0 = .ok (.iload_n 1, 1) := by decide +kernel
theorem dX3_requireName_1 : decode cX3_requireName 1 = .ok (.ifCond .lt 8, 3) := by decide +kernel
theorem dX3_requireName_4 : decode cX3_requireName 4 = .ok (.iload_n 1, 1) := by decide +kernel
theorem dX3_requireName_5 : decode cX3_requireName 5 = .ok (.iconst 5, 1) := by decide +kernel
theorem dX3_requireName_6 : decode cX3_requireName 6 = .ok (.if_icmp .lt 13, 3) := by decide +kernel
theorem dX3_requireName_9 : decode cX3_requireName 9 = .ok (.new 48, 3) := by decide +kernel
theorem dX3_requireName_12 : decode cX3_requireName 12 = .ok (.dup, 1) := by decide +kernel
theorem dX3_requireName_13 : decode cX3_requireName 13 = .ok (.ldc 233, 2) := by decide +kernel
theorem dX3_requireName_15 : decode cX3_requireName 15 = .ok (.invokespecial 52, 3) := by decide +kernel
theorem dX3_requireName_18 : decode cX3_requireName 18 = .ok (.athrow, 1) := by decide +kernel
theorem dX3_requireName_19 : decode cX3_requireName 19 = .ok (.return_, 1) := by decide +kernel
theorem dX3_requireKey_0 : decode cX3_requireKey 0 = .ok (.iload_n 1, 1) := by decide +kernel
theorem dX3_requireKey_1 : decode cX3_requireKey 1 = .ok (.ifCond .lt 14, 3) := by decide +kernel
theorem dX3_requireKey_4 : decode cX3_requireKey 4 = .ok (.iload_n 1, 1) := by decide +kernel
theorem dX3_requireKey_5 : decode cX3_requireKey 5 = .ok (.aload_n 0, 1) := by decide +kernel
theorem dX3_requireKey_6 : decode cX3_requireKey 6 = .ok (.getfield 10, 3) := by decide +kernel
theorem dX3_requireKey_9 : decode cX3_requireKey 9 = .ok (.getfield 55, 3) := by decide +kernel
theorem dX3_requireKey_12 : decode cX3_requireKey 12 = .ok (.if_icmp .lt 13, 3) := by decide +kernel
theorem dX3_requireKey_15 : decode cX3_requireKey 15 = .ok (.new 235, 3) := by decide +kernel
theorem dX3_requireKey_18 : decode cX3_requireKey 18 = .ok (.dup, 1) := by decide +kernel
theorem dX3_requireKey_19 : decode cX3_requireKey 19 = .ok (.ldc 237, 2) := by decide +kernel
theorem dX3_requireKey_21 : decode cX3_requireKey 21 = .ok (.invokespecial 239, 3) := by decide +kernel
theorem dX3_requireKey_24 : decode cX3_requireKey 24 = .ok (.athrow, 1) := by decide +kernel
theorem dX3_requireKey_25 : decode cX3_requireKey 25 = .ok (.return_, 1) := by decide +kernel
theorem dX3_requireBuild_0 : decode cX3_requireBuild 0 = .ok (.iload_n 1, 1) := by decide +kernel
theorem dX3_requireBuild_1 : decode cX3_requireBuild 1 = .ok (.ifCond .lt 14, 3) := by decide +kernel
theorem dX3_requireBuild_4 : decode cX3_requireBuild 4 = .ok (.iload_n 1, 1) := by decide +kernel
theorem dX3_requireBuild_5 : decode cX3_requireBuild 5 = .ok (.aload_n 0, 1) := by decide +kernel
theorem dX3_requireBuild_6 : decode cX3_requireBuild 6 = .ok (.getfield 19, 3) := by decide +kernel
theorem dX3_requireBuild_9 : decode cX3_requireBuild 9 = .ok (.getfield 126, 3) := by decide +kernel
theorem dX3_requireBuild_12 : decode cX3_requireBuild 12 = .ok (.if_icmp .lt 13, 3) := by decide +kernel
theorem dX3_requireBuild_15 : decode cX3_requireBuild 15 = .ok (.new 235, 3) := by decide +kernel
theorem dX3_requireBuild_18 : decode cX3_requireBuild 18 = .ok (.dup, 1) := by decide +kernel
theorem dX3_requireBuild_19 : decode cX3_requireBuild 19 = .ok (.ldc 240, 2) := by decide +kernel
theorem dX3_requireBuild_21 : decode cX3_requireBuild 21 = .ok (.invokespecial 239, 3) := by decide +kernel
theorem dX3_requireBuild_24 : decode cX3_requireBuild 24 = .ok (.athrow, 1) := by decide +kernel
theorem dX3_requireBuild_25 : decode cX3_requireBuild 25 = .ok (.return_, 1) := by decide +kernel
theorem dX3_requireMirror_0 : decode cX3_requireMirror 0 = .ok (.iload_n 1, 1) := by decide +kernel
theorem dX3_requireMirror_1 : decode cX3_requireMirror 1 = .ok (.ifCond .lt 14, 3) := by decide +kernel
theorem dX3_requireMirror_4 : decode cX3_requireMirror 4 = .ok (.iload_n 1, 1) := by decide +kernel
theorem dX3_requireMirror_5 : decode cX3_requireMirror 5 = .ok (.aload_n 0, 1) := by decide +kernel
theorem dX3_requireMirror_6 : decode cX3_requireMirror 6 = .ok (.getfield 26, 3) := by decide +kernel
theorem dX3_requireMirror_9 : decode cX3_requireMirror 9 = .ok (.getfield 202, 3) := by decide +kernel
theorem dX3_requireMirror_12 : decode cX3_requireMirror 12 = .ok (.if_icmp .lt 13, 3) := by decide +kernel
theorem dX3_requireMirror_15 : decode cX3_requireMirror 15 = .ok (.new 235, 3) := by decide +kernel
theorem dX3_requireMirror_18 : decode cX3_requireMirror 18 = .ok (.dup, 1) := by decide +kernel
theorem dX3_requireMirror_19 : decode cX3_requireMirror 19 = .ok (.ldc 242, 2) := by decide +kernel
theorem dX3_requireMirror_21 : decode cX3_requireMirror 21 = .ok (.invokespecial 239, 3) := by decide +kernel
theorem dX3_requireMirror_24 : decode cX3_requireMirror 24 = .ok (.athrow, 1) := by decide +kernel
theorem dX3_requireMirror_25 : decode cX3_requireMirror 25 = .ok (.return_, 1) := by decide +kernel
theorem dX3_requireFound_0 : decode cX3_requireFound 0 = .ok (.iload_n 0, 1) := by decide +kernel
theorem dX3_requireFound_1 : decode cX3_requireFound 1 = .ok (.iconst (-1), 1) := by decide +kernel
theorem dX3_requireFound_2 : decode cX3_requireFound 2 = .ok (.if_icmp .ne 13, 3) := by decide +kernel
theorem dX3_requireFound_5 : decode cX3_requireFound 5 = .ok (.new 197, 3) := by decide +kernel
theorem dX3_requireFound_8 : decode cX3_requireFound 8 = .ok (.dup, 1) := by decide +kernel
theorem dX3_requireFound_9 : decode cX3_requireFound 9 = .ok (.ldc 244, 2) := by decide +kernel
theorem dX3_requireFound_11 : decode cX3_requireFound 11 = .ok (.invokespecial 201, 3) := by decide +kernel
theorem dX3_requireFound_14 : decode cX3_requireFound 14 = .ok (.athrow, 1) := by decide +kernel
theorem dX3_requireFound_15 : decode cX3_requireFound 15 = .ok (.iload_n 0, 1) := by decide +kernel
theorem dX3_requireFound_16 : decode cX3_requireFound 16 = .ok (.ireturn, 1) := by decide +kernel
theorem dX3_only_0 : decode cX3_only 0 = .ok (.iconst 1, 1) := by decide +kernel
theorem dX3_only_1 : decode cX3_only 1 = .ok (.iload_n 0, 1) := by decide +kernel
theorem dX3_only_2 : decode cX3_only 2 = .ok (.ishl, 1) := by decide +kernel
theorem dX3_only_3 : decode cX3_only 3 = .ok (.ireturn, 1) := by decide +kernel
set_option maxRecDepth 20000 in
theorem ggX3_holds_X3_only : GoodIn wsX3_holds wsX3_only := goodIn_r _ [4] (by decide +kernel) (by decide +kernel)
set_option maxRecDepth 20000 in
theorem gX3_holds_X3_only : GoodIn wsX3_holds (va_wsS RX3 83 yX3_only wsX3_only) := goodIn_app (goodIn_of _ (by decide +kernel)) ggX3_holds_X3_only
theorem dX3_holds_0 : decode cX3_holds 0 = .ok (.iload_n 0, 1) := by decide +kernel
theorem dX3_holds_1 : decode cX3_holds 1 = .ok (.iload_n 1, 1) := by decide +kernel
theorem dX3_holds_2 : decode cX3_holds 2 = .ok (.invokestatic 83, 3) := by decide +kernel
theorem dX3_holds_5 : decode cX3_holds 5 = .ok (.iand, 1) := by decide +kernel
theorem dX3_holds_6 : decode cX3_holds 6 = .ok (.ifCond .eq 7, 3) := by decide +kernel
theorem dX3_holds_9 : decode cX3_holds 9 = .ok (.iconst 1, 1) := by decide +kernel
theorem dX3_holds_10 : decode cX3_holds 10 = .ok (.goto 4, 3) := by decide +kernel
theorem dX3_holds_13 : decode cX3_holds 13 = .ok (.iconst 0, 1) := by decide +kernel
theorem dX3_holds_14 : decode cX3_holds 14 = .ok (.ireturn, 1) := by decide +kernel
theorem dX3_doubleBits_0 : decode cX3_doubleBits 0 = .ok (.dload_n 0, 1) := by decide +kernel
theorem dX3_doubleBits_1 : decode cX3_doubleBits 1 = .ok (.dconst 0, 1) := by decide +kernel
theorem dX3_doubleBits_2 : decode cX3_doubleBits 2 = .ok (.dcmp .g, 1) := by decide +kernel
theorem dX3_doubleBits_3 : decode cX3_doubleBits 3 = .ok (.ifCond .gt 5, 3) := by decide +kernel
theorem dX3_doubleBits_6 : decode cX3_doubleBits 6 = .ok (.lconst 0, 1) := by decide +kernel
theorem dX3_doubleBits_7 : decode cX3_doubleBits 7 = .ok (.lreturn, 1) := by decide +kernel
theorem dX3_doubleBits_8 : decode cX3_doubleBits 8 = .ok (.dload_n 0, 1) := by decide +kernel
theorem dX3_doubleBits_9 : decode cX3_doubleBits 9 = .ok (.dstore_n 2, 1) := by decide +kernel
theorem dX3_doubleBits_10 : decode cX3_doubleBits 10 = .ok (.ldc2_w 246, 3) := by decide +kernel
theorem dX3_doubleBits_13 : decode cX3_doubleBits 13 = .ok (.lstore 4, 2) := by decide +kernel
theorem dX3_doubleBits_15 : decode cX3_doubleBits 15 = .ok (.dload_n 2, 1) := by decide +kernel
theorem dX3_doubleBits_16 : decode cX3_doubleBits 16 = .ok (.ldc2_w 248, 3) := by decide +kernel
theorem dX3_doubleBits_19 : decode cX3_doubleBits 19 = .ok (.dcmp .l, 1) := by decide +kernel
theorem dX3_doubleBits_20 : decode cX3_doubleBits 20 = .ok (.ifCond .lt 27, 3) := by decide +kernel
theorem dX3_doubleBits_23 : decode cX3_doubleBits 23 = .ok (.lload 4, 2) := by decide +kernel
theorem dX3_doubleBits_25 : decode cX3_doubleBits 25 = .ok (.ldc2_w 250, 3) := by decide +kernel
theorem dX3_doubleBits_28 : decode cX3_doubleBits 28 = .ok (.lcmp, 1) := by decide +kernel
theorem dX3_doubleBits_29 : decode cX3_doubleBits 29 = .ok (.ifCond .ge 18, 3) := by decide +kernel
theorem dX3_doubleBits_32 : decode cX3_doubleBits 32 = .ok (.dload_n 2, 1) := by decide +kernel
theorem dX3_doubleBits_33 : decode cX3_doubleBits 33 = .ok (.ldc2_w 248, 3) := by decide +kernel
theorem dX3_doubleBits_36 : decode cX3_doubleBits 36 = .ok (.ddiv, 1) := by decide +kernel
theorem dX3_doubleBits_37 : decode cX3_doubleBits 37 = .ok (.dstore_n 2, 1) := by decide +kernel
theorem dX3_doubleBits_38 : decode cX3_doubleBits 38 = .ok (.lload 4, 2) := by decide +kernel
theorem dX3_doubleBits_40 : decode cX3_doubleBits 40 = .ok (.lconst 1, 1) := by decide +kernel
theorem dX3_doubleBits_41 : decode cX3_doubleBits 41 = .ok (.ladd, 1) := by decide +kernel
theorem dX3_doubleBits_42 : decode cX3_doubleBits 42 = .ok (.lstore 4, 2) := by decide +kernel
theorem dX3_doubleBits_44 : decode cX3_doubleBits 44 = .ok (.goto (-29), 3) := by decide +kernel
theorem dX3_doubleBits_47 : decode cX3_doubleBits 47 = .ok (.dload_n 2, 1) := by decide +kernel
theorem dX3_doubleBits_48 : decode cX3_doubleBits 48 = .ok (.dconst 1, 1) := by decide +kernel
theorem dX3_doubleBits_49 : decode cX3_doubleBits 49 = .ok (.dcmp .g, 1) := by decide +kernel
theorem dX3_doubleBits_50 : decode cX3_doubleBits 50 = .ok (.ifCond .ge 25, 3) := by decide +kernel
theorem dX3_doubleBits_53 : decode cX3_doubleBits 53 = .ok (.lload 4, 2) := by decide +kernel
theorem dX3_doubleBits_55 : decode cX3_doubleBits 55 = .ok (.lconst 1, 1) := by decide +kernel
theorem dX3_doubleBits_56 : decode cX3_doubleBits 56 = .ok (.lcmp, 1) := by decide +kernel
theorem dX3_doubleBits_57 : decode cX3_doubleBits 57 = .ok (.ifCond .le 18, 3) := by decide +kernel
theorem dX3_doubleBits_60 : decode cX3_doubleBits 60 = .ok (.dload_n 2, 1) := by decide +kernel
theorem dX3_doubleBits_61 : decode cX3_doubleBits 61 = .ok (.ldc2_w 248, 3) := by decide +kernel
theorem dX3_doubleBits_64 : decode cX3_doubleBits 64 = .ok (.dmul, 1) := by decide +kernel
theorem dX3_doubleBits_65 : decode cX3_doubleBits 65 = .ok (.dstore_n 2, 1) := by decide +kernel
theorem dX3_doubleBits_66 : decode cX3_doubleBits 66 = .ok (.lload 4, 2) := by decide +kernel
theorem dX3_doubleBits_68 : decode cX3_doubleBits 68 = .ok (.lconst 1, 1) := by decide +kernel
theorem dX3_doubleBits_69 : decode cX3_doubleBits 69 = .ok (.lsub, 1) := by decide +kernel
theorem dX3_doubleBits_70 : decode cX3_doubleBits 70 = .ok (.lstore 4, 2) := by decide +kernel
theorem dX3_doubleBits_72 : decode cX3_doubleBits 72 = .ok (.goto (-25), 3) := by decide +kernel
theorem dX3_doubleBits_75 : decode cX3_doubleBits 75 = .ok (.lload 4, 2) := by decide +kernel
theorem dX3_doubleBits_77 : decode cX3_doubleBits 77 = .ok (.bipush 52, 2) := by decide +kernel
theorem dX3_doubleBits_79 : decode cX3_doubleBits 79 = .ok (.lshl, 1) := by decide +kernel
theorem dX3_doubleBits_80 : decode cX3_doubleBits 80 = .ok (.dload_n 2, 1) := by decide +kernel
theorem dX3_doubleBits_81 : decode cX3_doubleBits 81 = .ok (.dconst 1, 1) := by decide +kernel
theorem dX3_doubleBits_82 : decode cX3_doubleBits 82 = .ok (.dsub, 1) := by decide +kernel
theorem dX3_doubleBits_83 : decode cX3_doubleBits 83 = .ok (.ldc2_w 252, 3) := by decide +kernel
theorem dX3_doubleBits_86 : decode cX3_doubleBits 86 = .ok (.dmul, 1) := by decide +kernel
theorem dX3_doubleBits_87 : decode cX3_doubleBits 87 = .ok (.d2l, 1) := by decide +kernel
theorem dX3_doubleBits_88 : decode cX3_doubleBits 88 = .ok (.ladd, 1) := by decide +kernel
theorem dX3_doubleBits_89 : decode cX3_doubleBits 89 = .ok (.lreturn, 1) := by decide +kernel
set_option maxRecDepth 20000 in
theorem ggX3_floatBits_X3_doubleBits : GoodIn wsX3_floatBits wsX3_doubleBits := goodIn_r _ [5, 6, 7, 8, 9] (by decide +kernel) (by decide +kernel)
set_option maxRecDepth 20000 in
theorem gX3_floatBits_X3_doubleBits : GoodIn wsX3_floatBits (va_wsS RX3 226 yX3_doubleBits wsX3_doubleBits) := goodIn_app (goodIn_of _ (by decide +kernel)) ggX3_floatBits_X3_doubleBits
theorem dX3_floatBits_0 : decode cX3_floatBits 0 = .ok (.fload_n 0, 1) := by decide +kernel
theorem dX3_floatBits_1 : decode cX3_floatBits 1 = .ok (.fconst 0, 1) := by decide +kernel
theorem dX3_floatBits_2 : decode cX3_floatBits 2 = .ok (.fcmp .g, 1) := by decide +kernel
theorem dX3_floatBits_3 : decode cX3_floatBits 3 = .ok (.ifCond .gt 5, 3) := by decide +kernel
theorem dX3_floatBits_6 : decode cX3_floatBits 6 = .ok (.iconst 0, 1) := by decide +kernel
theorem dX3_floatBits_7 : decode cX3_floatBits 7 = .ok (.ireturn, 1) := by decide +kernel
theorem dX3_floatBits_8 : decode cX3_floatBits 8 = .ok (.fload_n 0, 1) := by decide +kernel
theorem dX3_floatBits_9 : decode cX3_floatBits 9 = .ok (.f2d, 1) := by decide +kernel
theorem dX3_floatBits_10 : decode cX3_floatBits 10 = .ok (.invokestatic 226, 3) := by decide +kernel
theorem dX3_floatBits_13 : decode cX3_floatBits 13 = .ok (.bipush 29, 2) := by decide +kernel
theorem dX3_floatBits_15 : decode cX3_floatBits 15 = .ok (.lushr, 1) := by decide +kernel
theorem dX3_floatBits_16 : decode cX3_floatBits 16 = .ok (.ldc2_w 254, 3) := by decide +kernel
theorem dX3_floatBits_19 : decode cX3_floatBits 19 = .ok (.lsub, 1) := by decide +kernel
theorem dX3_floatBits_20 : decode cX3_floatBits 20 = .ok (.l2i, 1) := by decide +kernel
theorem dX3_floatBits_21 : decode cX3_floatBits 21 = .ok (.ireturn, 1) := by decide +kernel
end
section
theorem dX4_init_0 : decode cX4_init 0 = .ok (.aload_n 0, 1) := by decide +kernel
theorem dX4_init_1 : decode cX4_init 1 = .ok (.invokespecial 1, 3) := by decide +kernel
theorem dX4_init_4 : decode cX4_init 4 = .ok (.aload_n 0, 1) := by decide +kernel
theorem dX4_init_5 : decode cX4_init 5 = .ok (.iconst 4, 1) := by decide +kernel
theorem dX4_init_6 : decode cX4_init 6 = .ok (.newarray .int, 2) := by decide +kernel
theorem dX4_init_8 : decode cX4_init 8 = .ok (.dup, 1) := by decide +kernel
theorem dX4_init_9 : decode cX4_init 9 = .ok (.iconst 0, 1) := by decide +kernel
theorem dX4_init_10 : decode cX4_init 10 = .ok (.bipush 50, 2) := by decide +kernel
theorem dX4_init_12 : decode cX4_init 12 = .ok (.iastore, 1) := by decide +kernel
theorem dX4_init_13 : decode cX4_init 13 = .ok (.dup, 1) := by decide +kernel
theorem dX4_init_14 : decode cX4_init 14 = .ok (.iconst 1, 1) := by decide +kernel
theorem dX4_init_15 : decode cX4_init 15 = .ok (.bipush 50, 2) := by decide +kernel
theorem dX4_init_17 : decode cX4_init 17 = .ok (.iastore, 1) := by decide +kernel
theorem dX4_init_18 : decode cX4_init 18 = .ok (.dup, 1) := by decide +kernel
theorem dX4_init_19 : decode cX4_init 19 = .ok (.iconst 2, 1) := by decide +kernel
theorem dX4_init_20 : decode cX4_init 20 = .ok (.bipush 50, 2) := by decide +kernel
theorem dX4_init_22 : decode cX4_init 22 = .ok (.iastore, 1) := by decide +kernel
theorem dX4_init_23 : decode cX4_init 23 = .ok (.dup, 1) := by decide +kernel
theorem dX4_init_24 : decode cX4_init 24 = .ok (.iconst 3, 1) := by decide +kernel
theorem dX4_init_25 : decode cX4_init 25 = .ok (.bipush 50, 2) := by decide +kernel
theorem dX4_init_27 : decode cX4_init 27 = .ok (.iastore, 1) := by decide +kernel
theorem dX4_init_28 : decode cX4_init 28 = .ok (.putfield 7, 3) := by decide +kernel
theorem dX4_init_31 : decode cX4_init 31 = .ok (.aload_n 0, 1) := by decide +kernel
theorem dX4_init_32 : decode cX4_init 32 = .ok (.iconst 5, 1) := by decide +kernel
theorem dX4_init_33 : decode cX4_init 33 = .ok (.newarray .int, 2) := by decide +kernel
theorem dX4_init_35 : decode cX4_init 35 = .ok (.dup, 1) := by decide +kernel
theorem dX4_init_36 : decode cX4_init 36 = .ok (.iconst 0, 1) := by decide +kernel
theorem dX4_init_37 : decode cX4_init 37 = .ok (.bipush 100, 2) := by decide +kernel
theorem dX4_init_39 : decode cX4_init 39 = .ok (.iastore, 1) := by decide +kernel
theorem dX4_init_40 : decode cX4_init 40 = .ok (.dup, 1) := by decide +kernel
theorem dX4_init_41 : decode cX4_init 41 = .ok (.iconst 1, 1) := by decide +kernel
theorem dX4_init_42 : decode cX4_init 42 = .ok (.bipush 100, 2) := by decide +kernel
theorem dX4_init_44 : decode cX4_init 44 = .ok (.iastore, 1) := by decide +kernel
theorem dX4_init_45 : decode cX4_init 45 = .ok (.dup, 1) := by decide +kernel
theorem dX4_init_46 : decode cX4_init 46 = .ok (.iconst 2, 1) := by decide +kernel
theorem dX4_init_47 : decode cX4_init 47 = .ok (.bipush 100, 2) := by decide +kernel
theorem dX4_init_49 : decode cX4_init 49 = .ok (.iastore, 1) := by decide +kernel
theorem dX4_init_50 : decode cX4_init 50 = .ok (.dup, 1) := by decide +kernel
theorem dX4_init_51 : decode cX4_init 51 = .ok (.iconst 3, 1) := by decide +kernel
theorem dX4_init_52 : decode cX4_init 52 = .ok (.bipush 100, 2) := by decide +kernel
theorem dX4_init_54 : decode cX4_init 54 = .ok (.iastore, 1) := by decide +kernel
theorem dX4_init_55 : decode cX4_init 55 = .ok (.dup, 1) := by decide +kernel
theorem dX4_init_56 : decode cX4_init 56 = .ok (.iconst 4, 1) := by decide +kernel
theorem dX4_init_57 : decode cX4_init 57 = .ok (.bipush 100, 2) := by decide +kernel
theorem dX4_init_59 : decode cX4_init 59 = .ok (.iastore, 1) := by decide +kernel
theorem dX4_init_60 : decode cX4_init 60 = .ok (.putfield 13, 3) := by decide +kernel
theorem dX4_init_63 : decode cX4_init 63 = .ok (.aload_n 0, 1) := by decide +kernel
theorem dX4_init_64 : decode cX4_init 64 = .ok (.bipush 8, 2) := by decide +kernel
theorem dX4_init_66 : decode cX4_init 66 = .ok (.newarray .int, 2) := by decide +kernel
theorem dX4_init_68 : decode cX4_init 68 = .ok (.putfield 16, 3) := by decide +kernel
theorem dX4_init_71 : decode cX4_init 71 = .ok (.aload_n 0, 1) := by decide +kernel
theorem dX4_init_72 : decode cX4_init 72 = .ok (.bipush 8, 2) := by decide +kernel
theorem dX4_init_74 : decode cX4_init 74 = .ok (.newarray .int, 2) := by decide +kernel
theorem dX4_init_76 : decode cX4_init 76 = .ok (.putfield 19, 3) := by decide +kernel
theorem dX4_init_79 : decode cX4_init 79 = .ok (.aload_n 0, 1) := by decide +kernel
theorem dX4_init_80 : decode cX4_init 80 = .ok (.bipush 8, 2) := by decide +kernel
theorem dX4_init_82 : decode cX4_init 82 = .ok (.newarray .int, 2) := by decide +kernel
theorem dX4_init_84 : decode cX4_init 84 = .ok (.putfield 22, 3) := by decide +kernel
theorem dX4_init_87 : decode cX4_init 87 = .ok (.aload_n 0, 1) := by decide +kernel
theorem dX4_init_88 : decode cX4_init 88 = .ok (.bipush 8, 2) := by decide +kernel
theorem dX4_init_90 : decode cX4_init 90 = .ok (.newarray .boolean, 2) := by decide +kernel
theorem dX4_init_92 : decode cX4_init 92 = .ok (.putfield 25, 3) := by decide +kernel
theorem dX4_init_95 : decode cX4_init 95 = .ok (.aload_n 0, 1) := by decide +kernel
theorem dX4_init_96 : decode cX4_init 96 = .ok (.bipush 24, 2) := by decide +kernel
theorem dX4_init_98 : decode cX4_init 98 = .ok (.newarray .int, 2) := by decide +kernel
theorem dX4_init_100 : decode cX4_init 100 = .ok (.putfield 29, 3) := by decide +kernel
theorem dX4_init_103 : decode cX4_init 103 = .ok (.aload_n 0, 1) := by decide +kernel
theorem dX4_init_104 : decode cX4_init 104 = .ok (.bipush 24, 2) := by decide +kernel
theorem dX4_init_106 : decode cX4_init 106 = .ok (.newarray .int, 2) := by decide +kernel
theorem dX4_init_108 : decode cX4_init 108 = .ok (.putfield 32, 3) := by decide +kernel
theorem dX4_init_111 : decode cX4_init 111 = .ok (.aload_n 0, 1) := by decide +kernel
theorem dX4_init_112 : decode cX4_init 112 = .ok (.bipush 24, 2) := by decide +kernel
theorem dX4_init_114 : decode cX4_init 114 = .ok (.newarray .int, 2) := by decide +kernel
theorem dX4_init_116 : decode cX4_init 116 = .ok (.putfield 35, 3) := by decide +kernel
theorem dX4_init_119 : decode cX4_init 119 = .ok (.aload_n 0, 1) := by decide +kernel
theorem dX4_init_120 : decode cX4_init 120 = .ok (.bipush 24, 2) := by decide +kernel
theorem dX4_init_122 : decode cX4_init 122 = .ok (.newarray .int, 2) := by decide +kernel
theorem dX4_init_124 : decode cX4_init 124 = .ok (.putfield 38, 3) := by decide +kernel
theorem dX4_init_127 : decode cX4_init 127 = .ok (.aload_n 0, 1) := by decide +kernel
theorem dX4_init_128 : decode cX4_init 128 = .ok (.bipush 24, 2) := by decide +kernel
theorem dX4_init_130 : decode cX4_init 130 = .ok (.newarray .int, 2) := by decide +kernel
theorem dX4_init_132 : decode cX4_init 132 = .ok (.putfield 41, 3) := by decide +kernel
theorem dX4_init_135 : decode cX4_init 135 = .ok (.aload_n 0, 1) := by decide +kernel
theorem dX4_init_136 : decode cX4_init 136 = .ok (.bipush 24, 2) := by decide +kernel
theorem dX4_init_138 : decode cX4_init 138 = .ok (.newarray .boolean, 2) := by decide +kernel
theorem dX4_init_140 : decode cX4_init 140 = .ok (.putfield 44, 3) := by decide +kernel
theorem dX4_init_143 : decode cX4_init 143 = .ok (.aload_n 0, 1) := by decide +kernel
theorem dX4_init_144 : decode cX4_init 144 = .ok (.bipush 24, 2) := by decide +kernel
theorem dX4_init_146 : decode cX4_init 146 = .ok (.newarray .int, 2) := by decide +kernel
theorem dX4_init_148 : decode cX4_init 148 = .ok (.putfield 47, 3) := by decide +kernel
theorem dX4_init_151 : decode cX4_init 151 = .ok (.aload_n 0, 1) := by decide +kernel
theorem dX4_init_152 : decode cX4_init 152 = .ok (.bipush 24, 2) := by decide +kernel
theorem dX4_init_154 : decode cX4_init 154 = .ok (.newarray .int, 2) := by decide +kernel
theorem dX4_init_156 : decode cX4_init 156 = .ok (.putfield 50, 3) := by decide +kernel
theorem dX4_init_159 : decode cX4_init 159 = .ok (.aload_n 0, 1) := by decide +kernel
theorem dX4_init_160 : decode cX4_init 160 = .ok (.iconst 3, 1) := by decide +kernel
theorem dX4_init_161 : decode cX4_init 161 = .ok (.newarray .int, 2) := by decide +kernel
theorem dX4_init_163 : decode cX4_init 163 = .ok (.putfield 53, 3) := by decide +kernel
theorem dX4_init_166 : decode cX4_init 166 = .ok (.aload_n 0, 1) := by decide +kernel
theorem dX4_init_167 : decode cX4_init 167 = .ok (.iconst 3, 1) := by decide +kernel
theorem dX4_init_168 : decode cX4_init 168 = .ok (.newarray .int, 2) := by decide +kernel
theorem dX4_init_170 : decode cX4_init 170 = .ok (.putfield 56, 3) := by decide +kernel
theorem dX4_init_173 : decode cX4_init 173 = .ok (.aload_n 0, 1) := by decide +kernel
theorem dX4_init_174 : decode cX4_init 174 = .ok (.iconst 3, 1) := by decide +kernel
theorem dX4_init_175 : decode cX4_init 175 = .ok (.newarray .int, 2) := by decide +kernel
theorem dX4_init_177 : decode cX4_init 177 = .ok (.dup, 1) := by decide +kernel
theorem dX4_init_178 : decode cX4_init 178 = .ok (.iconst 0, 1) := by decide +kernel
theorem dX4_init_179 : decode cX4_init 179 = .ok (.iconst (-1), 1) := by decide +kernel
theorem dX4_init_180 : decode cX4_init 180 = .ok (.iastore, 1) := by decide +kernel
theorem dX4_init_181 : decode cX4_init 181 = .ok (.dup, 1) := by decide +kernel
theorem dX4_init_182 : decode cX4_init 182 = .ok (.iconst 1, 1) := by decide +kernel
theorem dX4_init_183 : decode cX4_init 183 = .ok (.iconst (-1), 1) := by decide +kernel
theorem dX4_init_184 : decode cX4_init 184 = .ok (.iastore, 1) := by decide +kernel
theorem dX4_init_185 : decode cX4_init 185 = .ok (.dup, 1) := by decide +kernel
theorem dX4_init_186 : decode cX4_init 186 = .ok (.iconst 2, 1) := by decide +kernel
theorem dX4_init_187 : decode cX4_init 187 = .ok (.iconst (-1), 1) := by decide +kernel
theorem dX4_init_188 : decode cX4_init 188 = .ok (.iastore, 1) := by decide +kernel
theorem dX4_init_189 : decode cX4_init 189 = .ok (.putfield 59, 3) := by decide +kernel
theorem dX4_init_192 : decode cX4_init 192 = .ok (.aload_n 0, 1) := by decide +kernel
theorem dX4_init_193 : decode cX4_init 193 = .ok (.bipush 7, 2) := by decide +kernel
theorem dX4_init_195 : decode cX4_init 195 = .ok (.putfield 62, 3) := by decide +kernel
theorem dX4_init_198 : decode cX4_init 198 = .ok (.return_, 1) := by decide +kernel
theorem dX4_thrown_0 : decode cX4_thrown 0 = .ok (.aload_n 0, 1) := by decide +kernel
theorem dX4_thrown_1 : decode cX4_thrown 1 = .ok (.getfield 66, 3) := by decide +kernel
theorem dX4_thrown_4 : decode cX4_thrown 4 = .ok (.ireturn, 1) := by decide +kernel
theorem dX4_fails_0 : decode cX4_fails 0 = .ok (.aload_n 0, 1) := by decide +kernel
theorem dX4_fails_1 : decode cX4_fails 1 = .ok (.iload_n 1, 1) := by decide +kernel
theorem dX4_fails_2 : decode cX4_fails 2 = .ok (.putfield 66, 3) := by decide +kernel
theorem dX4_fails_5 : decode cX4_fails 5 = .ok (.iload_n 1, 1) := by decide +kernel
theorem dX4_fails_6 : decode cX4_fails 6 = .ok (.ifCond .le 7, 3) := by decide +kernel
theorem dX4_fails_9 : decode cX4_fails 9 = .ok (.iconst 1, 1) := by decide +kernel
theorem dX4_fails_10 : decode cX4_fails 10 = .ok (.goto 4, 3) := by decide +kernel
theorem dX4_fails_13 : decode cX4_fails 13 = .ok (.iconst 0, 1) := by decide +kernel
theorem dX4_fails_14 : decode cX4_fails 14 = .ok (.ireturn, 1) := by decide +kernel
theorem dX4_tells_0 : decode cX4_tells 0 = .ok (.aload_n 0, 1) := by decide +kernel
theorem dX4_tells_1 : decode cX4_tells 1 = .ok (.iconst 0, 1) := by decide +kernel
theorem dX4_tells_2 : decode cX4_tells 2 = .ok (.putfield 66, 3) := by decide +kernel
theorem dX4_tells_5 : decode cX4_tells 5 = .ok (.iload_n 1, 1) := by decide +kernel
theorem dX4_tells_6 : decode cX4_tells 6 = .ok (.ireturn, 1) := by decide +kernel
theorem dX4_in_0 : decode cX4_in 0 = .ok (.iload_n 0, 1) := by decide +kernel
theorem dX4_in_1 : decode cX4_in 1 = .ok (.iload_n 1, 1) := by decide +kernel
theorem dX4_in_2 : decode cX4_in 2 = .ok (.if_icmp .lt 12, 3) := by decide +kernel
theorem dX4_in_5 : decode cX4_in 5 = .ok (.iload_n 0, 1) := by decide +kernel
theorem dX4_in_6 : decode cX4_in 6 = .ok (.iload_n 2, 1) := by decide +kernel
theorem dX4_in_7 : decode cX4_in 7 = .ok (.if_icmp .gt 7, 3) := by decide +kernel
theorem dX4_in_10 : decode cX4_in 10 = .ok (.iconst 1, 1) := by decide +kernel
theorem dX4_in_11 : decode cX4_in 11 = .ok (.goto 4, 3) := by decide +kernel
theorem dX4_in_14 : decode cX4_in 14 = .ok (.iconst 0, 1) := by decide +kernel
theorem dX4_in_15 : decode cX4_in 15 = .ok (.ireturn, 1) := by decide +kernel
set_option maxRecDepth 20000 in
theorem ggX4_isNoKey_X4_in : GoodIn wsX4_isNoKey wsX4_in := goodIn_r _ [5] (by decide +kernel) (by decide +kernel)
set_option maxRecDepth 20000 in
theorem gX4_isNoKey_X4_in : GoodIn wsX4_isNoKey (va_wsS RX4 72 yX4_in wsX4_in) := goodIn_app (goodIn_of _ (by decide +kernel)) ggX4_isNoKey_X4_in
set_option maxRecDepth 20000 in
theorem ggX4_isNoKey_X4_fails : GoodIn wsX4_isNoKey wsX4_fails := goodIn_r _ [9, 10, 11, 12, 13, 14, 15, 16, 17, 18, 19, 20, 21, 22, 23, 24, 25, 26, 27, 28, 29, 30, 31, 32, 33] (by decide +kernel) (by decide +kernel)
set_option maxRecDepth 20000 in
theorem gX4_isNoKey_X4_fails : GoodIn wsX4_isNoKey (wsV RX4 76 RX4 yX4_fails wsX4_fails) := goodIn_app (goodIn_of _ (by decide +kernel)) ggX4_isNoKey_X4_fails
theorem dX4_isNoKey_0 : decode cX4_isNoKey 0 = .ok (.aload_n 0, 1) := by decide +kernel
theorem dX4_isNoKey_1 : decode cX4_isNoKey 1 = .ok (.iload_n 1, 1) := by decide +kernel
theorem dX4_isNoKey_2 : decode cX4_isNoKey 2 = .ok (.iconst 0, 1) := by decide +kernel
theorem dX4_isNoKey_3 : decode cX4_isNoKey 3 = .ok (.aload_n 0, 1) := by decide +kernel
theorem dX4_isNoKey_4 : decode cX4_isNoKey 4 = .ok (.getfield 69, 3) := by decide +kernel
theorem dX4_isNoKey_7 : decode cX4_isNoKey 7 = .ok (.iconst 1, 1) := by decide +kernel
theorem dX4_isNoKey_8 : decode cX4_isNoKey 8 = .ok (.isub, 1) := by decide +kernel
theorem dX4_isNoKey_9 : decode cX4_isNoKey 9 = .ok (.invokestatic 72, 3) := by decide +kernel
theorem dX4_isNoKey_12 : decode cX4_isNoKey 12 = .ok (.ifCond .eq 7, 3) := by decide +kernel
theorem dX4_isNoKey_15 : decode cX4_isNoKey 15 = .ok (.iconst 0, 1) := by decide +kernel
theorem dX4_isNoKey_16 : decode cX4_isNoKey 16 = .ok (.goto 4, 3) := by decide +kernel
theorem dX4_isNoKey_19 : decode cX4_isNoKey 19 = .ok (.iconst 1, 1) := by decide +kernel
theorem dX4_isNoKey_20 : decode cX4_isNoKey 20 = .ok (.invokevirtual 76, 3) := by decide +kernel
theorem dX4_isNoKey_23 : decode cX4_isNoKey 23 = .ok (.ireturn, 1) := by decide +kernel
set_option maxRecDepth 20000 in
theorem ggX4_isNoBuild_X4_in : GoodIn wsX4_isNoBuild wsX4_in := goodIn_r _ [5] (by decide +kernel) (by decide +kernel)
set_option maxRecDepth 20000 in
theorem gX4_isNoBuild_X4_in : GoodIn wsX4_isNoBuild (va_wsS RX4 72 yX4_in wsX4_in) := goodIn_app (goodIn_of _ (by decide +kernel)) ggX4_isNoBuild_X4_in
set_option maxRecDepth 20000 in
theorem ggX4_isNoBuild_X4_fails : GoodIn wsX4_isNoBuild wsX4_fails := goodIn_r _ [9, 10, 11, 12, 13, 14, 15, 16, 17, 18, 19, 20, 21, 22, 23, 24, 25, 26, 27, 28, 29, 30, 31, 32, 33] (by decide +kernel) (by decide +kernel)
set_option maxRecDepth 20000 in
theorem gX4_isNoBuild_X4_fails : GoodIn wsX4_isNoBuild (wsV RX4 76 RX4 yX4_fails wsX4_fails) := goodIn_app (goodIn_of _ (by decide +kernel)) ggX4_isNoBuild_X4_fails
theorem dX4_isNoBuild_0 : decode cX4_isNoBuild 0 = .ok (.aload_n 0, 1) := by decide +kernel
theorem dX4_isNoBuild_1 : decode cX4_isNoBuild 1 = .ok (.iload_n 1, 1) := by decide +kernel
theorem dX4_isNoBuild_2 : decode cX4_isNoBuild 2 = .ok (.iconst 0, 1) := by decide +kernel
theorem dX4_isNoBuild_3 : decode cX4_isNoBuild 3 = .ok (.aload_n 0, 1) := by decide +kernel
theorem dX4_isNoBuild_4 : decode cX4_isNoBuild 4 = .ok (.getfield 80, 3) := by decide +kernel
theorem dX4_isNoBuild_7 : decode cX4_isNoBuild 7 = .ok (.iconst 1, 1) := by decide +kernel
theorem dX4_isNoBuild_8 : decode cX4_isNoBuild 8 = .ok (.isub, 1) := by decide +kernel
theorem dX4_isNoBuild_9 : decode cX4_isNoBuild 9 = .ok (.invokestatic 72, 3) := by decide +kernel
theorem dX4_isNoBuild_12 : decode cX4_isNoBuild 12 = .ok (.ifCond .eq 7, 3) := by decide +kernel
theorem dX4_isNoBuild_15 : decode cX4_isNoBuild 15 = .ok (.iconst 0, 1) := by decide +kernel
theorem dX4_isNoBuild_16 : decode cX4_isNoBuild 16 = .ok (.goto 4, 3) := by decide +kernel
theorem dX4_isNoBuild_19 : decode cX4_isNoBuild 19 = .ok (.iconst 1, 1) := by decide +kernel
theorem dX4_isNoBuild_20 : decode cX4_isNoBuild 20 = .ok (.invokevirtual 76, 3) := by decide +kernel
theorem dX4_isNoBuild_23 : decode cX4_isNoBuild 23 = .ok (.ireturn, 1) := by decide +kernel
set_option maxRecDepth 20000 in
theorem ggX4_isNoMirror_X4_in : GoodIn wsX4_isNoMirror wsX4_in := goodIn_r _ [5] (by decide +kernel) (by decide +kernel)
set_option maxRecDepth 20000 in
theorem gX4_isNoMirror_X4_in : GoodIn wsX4_isNoMirror (va_wsS RX4 72 yX4_in wsX4_in) := goodIn_app (goodIn_of _ (by decide +kernel)) ggX4_isNoMirror_X4_in
set_option maxRecDepth 20000 in
theorem ggX4_isNoMirror_X4_fails : GoodIn wsX4_isNoMirror wsX4_fails := goodIn_r _ [9, 10, 11, 12, 13, 14, 15, 16, 17, 18, 19, 20, 21, 22, 23, 24, 25, 26, 27, 28, 29, 30, 31, 32, 33] (by decide +kernel) (by decide +kernel)
set_option maxRecDepth 20000 in
theorem gX4_isNoMirror_X4_fails : GoodIn wsX4_isNoMirror (wsV RX4 76 RX4 yX4_fails wsX4_fails) := goodIn_app (goodIn_of _ (by decide +kernel)) ggX4_isNoMirror_X4_fails
theorem dX4_isNoMirror_0 : decode cX4_isNoMirror 0 = .ok (.aload_n 0, 1) := by decide +kernel
theorem dX4_isNoMirror_1 : decode cX4_isNoMirror 1 = .ok (.iload_n 1, 1) := by decide +kernel
theorem dX4_isNoMirror_2 : decode cX4_isNoMirror 2 = .ok (.iconst 0, 1) := by decide +kernel
theorem dX4_isNoMirror_3 : decode cX4_isNoMirror 3 = .ok (.aload_n 0, 1) := by decide +kernel
theorem dX4_isNoMirror_4 : decode cX4_isNoMirror 4 = .ok (.getfield 83, 3) := by decide +kernel
theorem dX4_isNoMirror_7 : decode cX4_isNoMirror 7 = .ok (.iconst 1, 1) := by decide +kernel
theorem dX4_isNoMirror_8 : decode cX4_isNoMirror 8 = .ok (.isub, 1) := by decide +kernel
theorem dX4_isNoMirror_9 : decode cX4_isNoMirror 9 = .ok (.invokestatic 72, 3) := by decide +kernel
theorem dX4_isNoMirror_12 : decode cX4_isNoMirror 12 = .ok (.ifCond .eq 7, 3) := by decide +kernel
theorem dX4_isNoMirror_15 : decode cX4_isNoMirror 15 = .ok (.iconst 0, 1) := by decide +kernel
theorem dX4_isNoMirror_16 : decode cX4_isNoMirror 16 = .ok (.goto 4, 3) := by decide +kernel
theorem dX4_isNoMirror_19 : decode cX4_isNoMirror 19 = .ok (.iconst 1, 1) := by decide +kernel
theorem dX4_isNoMirror_20 : decode cX4_isNoMirror 20 = .ok (.invokevirtual 76, 3) := by decide +kernel
theorem dX4_isNoMirror_23 : decode cX4_isNoMirror 23 = .ok (.ireturn, 1) := by decide +kernel
theorem dX4_bits_0 : decode cX4_bits 0 = .ok (.iconst 0, 1) := by decide +kernel
theorem dX4_bits_1 : decode cX4_bits 1 = .ok (.istore_n 1, 1) := by decide +kernel
theorem dX4_bits_2 : decode cX4_bits 2 = .ok (.iconst 0, 1) := by decide +kernel
theorem dX4_bits_3 : decode cX4_bits 3 = .ok (.istore_n 2, 1) := by decide +kernel
theorem dX4_bits_4 : decode cX4_bits 4 = .ok (.iload_n 2, 1) := by decide +kernel
theorem dX4_bits_5 : decode cX4_bits 5 = .ok (.bipush 24, 2) := by decide +kernel
theorem dX4_bits_7 : decode cX4_bits 7 = .ok (.if_icmp .ge 17, 3) := by decide +kernel
theorem dX4_bits_10 : decode cX4_bits 10 = .ok (.iload_n 1, 1) := by decide +kernel
theorem dX4_bits_11 : decode cX4_bits 11 = .ok (.iload_n 0, 1) := by decide +kernel
theorem dX4_bits_12 : decode cX4_bits 12 = .ok (.iload_n 2, 1) := by decide +kernel
theorem dX4_bits_13 : decode cX4_bits 13 = .ok (.ishr, 1) := by decide +kernel
theorem dX4_bits_14 : decode cX4_bits 14 = .ok (.iconst 1, 1) := by decide +kernel
theorem dX4_bits_15 : decode cX4_bits 15 = .ok (.iand, 1) := by decide +kernel
theorem dX4_bits_16 : decode cX4_bits 16 = .ok (.iadd, 1) := by decide +kernel
theorem dX4_bits_17 : decode cX4_bits 17 = .ok (.istore_n 1, 1) := by decide +kernel
theorem dX4_bits_18 : decode cX4_bits 18 = .ok (.iinc 2 1, 3) := by decide +kernel
theorem dX4_bits_21 : decode cX4_bits 21 = .ok (.goto (-17), 3) := by decide +kernel
theorem dX4_bits_24 : decode cX4_bits 24 = .ok (.iload_n 1, 1) := by decide +kernel
theorem dX4_bits_25 : decode cX4_bits 25 = .ok (.ireturn, 1) := by decide +kernel
set_option maxRecDepth 20000 in
theorem ggX4_addKey_X4_in : GoodIn wsX4_addKey wsX4_in := goodIn_r _ [9] (by decide +kernel) (by decide +kernel)
set_option maxRecDepth 20000 in
theorem gX4_addKey_X4_in : GoodIn wsX4_addKey (va_wsS RX4 72 yX4_in wsX4_in) := goodIn_app (goodIn_of _ (by decide +kernel)) ggX4_addKey_X4_in
set_option maxRecDepth 20000 in
theorem ggX4_addKey_X4_fails : GoodIn wsX4_addKey wsX4_fails := goodIn_r _ [13, 14, 15, 16, 17, 18, 19, 20, 21, 22, 23, 24, 25, 26, 27, 28, 29, 30, 31, 32, 33, 34, 35, 36, 37] (by decide +kernel) (by decide +kernel)
set_option maxRecDepth 20000 in
theorem gX4_addKey_X4_fails : GoodIn wsX4_addKey (wsV RX4 76 RX4 yX4_fails wsX4_fails) := goodIn_app (goodIn_of _ (by decide +kernel)) ggX4_addKey_X4_fails
theorem dX4_addKey_0 : decode cX4_addKey 0 = .ok (.aload_n 0, 1) := by decide +kernel
theorem dX4_addKey_1 : decode cX4_addKey 1 = .ok (.iload_n 1, 1) := by decide +kernel
theorem dX4_addKey_2 : decode cX4_addKey 2 = .ok (.iconst 0, 1) := by decide +kernel
theorem dX4_addKey_3 : decode cX4_addKey 3 = .ok (.iconst 3, 1) := by decide +kernel
theorem dX4_addKey_4 : decode cX4_addKey 4 = .ok (.invokestatic 72, 3) := by decide +kernel
theorem dX4_addKey_7 : decode cX4_addKey 7 = .ok (.ifCond .eq 23, 3) := by decide +kernel
theorem dX4_addKey_10 : decode cX4_addKey 10 = .ok (.iload_n 2, 1) := by decide +kernel
theorem dX4_addKey_11 : decode cX4_addKey 11 = .ok (.aload_n 0, 1) := by decide +kernel
theorem dX4_addKey_12 : decode cX4_addKey 12 = .ok (.getfield 86, 3) := by decide +kernel
theorem dX4_addKey_15 : decode cX4_addKey 15 = .ok (.if_icmp .lt 15, 3) := by decide +kernel
theorem dX4_addKey_18 : decode cX4_addKey 18 = .ok (.iload_n 3, 1) := by decide +kernel
theorem dX4_addKey_19 : decode cX4_addKey 19 = .ok (.iload_n 2, 1) := by decide +kernel
theorem dX4_addKey_20 : decode cX4_addKey 20 = .ok (.if_icmp .lt 10, 3) := by decide +kernel
theorem dX4_addKey_23 : decode cX4_addKey 23 = .ok (.iload_n 3, 1) := by decide +kernel
theorem dX4_addKey_24 : decode cX4_addKey 24 = .ok (.sipush 999, 3) := by decide +kernel
theorem dX4_addKey_27 : decode cX4_addKey 27 = .ok (.if_icmp .le 7, 3) := by decide +kernel
theorem dX4_addKey_30 : decode cX4_addKey 30 = .ok (.iconst 1, 1) := by decide +kernel
theorem dX4_addKey_31 : decode cX4_addKey 31 = .ok (.goto 17, 3) := by decide +kernel
theorem dX4_addKey_34 : decode cX4_addKey 34 = .ok (.aload_n 0, 1) := by decide +kernel
theorem dX4_addKey_35 : decode cX4_addKey 35 = .ok (.getfield 69, 3) := by decide +kernel
theorem dX4_addKey_38 : decode cX4_addKey 38 = .ok (.bipush 8, 2) := by decide +kernel
theorem dX4_addKey_40 : decode cX4_addKey 40 = .ok (.if_icmp .ne 7, 3) := by decide +kernel
theorem dX4_addKey_43 : decode cX4_addKey 43 = .ok (.iconst 2, 1) := by decide +kernel
theorem dX4_addKey_44 : decode cX4_addKey 44 = .ok (.goto 4, 3) := by decide +kernel
theorem dX4_addKey_47 : decode cX4_addKey 47 = .ok (.iconst 0, 1) := by decide +kernel
theorem dX4_addKey_48 : decode cX4_addKey 48 = .ok (.invokevirtual 76, 3) := by decide +kernel
theorem dX4_addKey_51 : decode cX4_addKey 51 = .ok (.ifCond .eq 5, 3) := by decide +kernel
theorem dX4_addKey_54 : decode cX4_addKey 54 = .ok (.iconst 0, 1) := by decide +kernel
theorem dX4_addKey_55 : decode cX4_addKey 55 = .ok (.ireturn, 1) := by decide +kernel
theorem dX4_addKey_56 : decode cX4_addKey 56 = .ok (.aload_n 0, 1) := by decide +kernel
theorem dX4_addKey_57 : decode cX4_addKey 57 = .ok (.getfield 16, 3) := by decide +kernel
theorem dX4_addKey_60 : decode cX4_addKey 60 = .ok (.aload_n 0, 1) := by decide +kernel
theorem dX4_addKey_61 : decode cX4_addKey 61 = .ok (.getfield 69, 3) := by decide +kernel
theorem dX4_addKey_64 : decode cX4_addKey 64 = .ok (.iload_n 1, 1) := by decide +kernel
theorem dX4_addKey_65 : decode cX4_addKey 65 = .ok (.iastore, 1) := by decide +kernel
theorem dX4_addKey_66 : decode cX4_addKey 66 = .ok (.aload_n 0, 1) := by decide +kernel
theorem dX4_addKey_67 : decode cX4_addKey 67 = .ok (.getfield 19, 3) := by decide +kernel
theorem dX4_addKey_70 : decode cX4_addKey 70 = .ok (.aload_n 0, 1) := by decide +kernel
theorem dX4_addKey_71 : decode cX4_addKey 71 = .ok (.getfield 69, 3) := by decide +kernel
theorem dX4_addKey_74 : decode cX4_addKey 74 = .ok (.iload_n 2, 1) := by decide +kernel
theorem dX4_addKey_75 : decode cX4_addKey 75 = .ok (.iastore, 1) := by decide +kernel
theorem dX4_addKey_76 : decode cX4_addKey 76 = .ok (.aload_n 0, 1) := by decide +kernel
theorem dX4_addKey_77 : decode cX4_addKey 77 = .ok (.getfield 22, 3) := by decide +kernel
theorem dX4_addKey_80 : decode cX4_addKey 80 = .ok (.aload_n 0, 1) := by decide +kernel
theorem dX4_addKey_81 : decode cX4_addKey 81 = .ok (.getfield 69, 3) := by decide +kernel
theorem dX4_addKey_84 : decode cX4_addKey 84 = .ok (.iload_n 3, 1) := by decide +kernel
theorem dX4_addKey_85 : decode cX4_addKey 85 = .ok (.iastore, 1) := by decide +kernel
theorem dX4_addKey_86 : decode cX4_addKey 86 = .ok (.aload_n 0, 1) := by decide +kernel
theorem dX4_addKey_87 : decode cX4_addKey 87 = .ok (.dup, 1) := by decide +kernel
theorem dX4_addKey_88 : decode cX4_addKey 88 = .ok (.getfield 69, 3) := by decide +kernel
theorem dX4_addKey_91 : decode cX4_addKey 91 = .ok (.iconst 1, 1) := by decide +kernel
theorem dX4_addKey_92 : decode cX4_addKey 92 = .ok (.iadd, 1) := by decide +kernel
theorem dX4_addKey_93 : decode cX4_addKey 93 = .ok (.putfield 69, 3) := by decide +kernel
theorem dX4_addKey_96 : decode cX4_addKey 96 = .ok (.aload_n 0, 1) := by decide +kernel
theorem dX4_addKey_97 : decode cX4_addKey 97 = .ok (.getfield 69, 3) := by decide +kernel
theorem dX4_addKey_100 : decode cX4_addKey 100 = .ok (.iconst 1, 1) := by decide +kernel
theorem dX4_addKey_101 : decode cX4_addKey 101 = .ok (.isub, 1) := by decide +kernel
theorem dX4_addKey_102 : decode cX4_addKey 102 = .ok (.ireturn, 1) := by decide +kernel
set_option maxRecDepth 20000 in
theorem ggX4_lives_X4_in : GoodIn wsX4_lives wsX4_in := goodIn_r _ [8] (by decide +kernel) (by decide +kernel)
set_option maxRecDepth 20000 in
theorem gX4_lives_X4_in : GoodIn wsX4_lives (va_wsS RX4 72 yX4_in wsX4_in) := goodIn_app (goodIn_of _ (by decide +kernel)) ggX4_lives_X4_in
theorem dX4_lives_0 : decode cX4_lives 0 = .ok (.aload_n 0, 1) := by decide +kernel
theorem dX4_lives_1 : decode cX4_lives 1 = .ok (.getfield 25, 3) := by decide +kernel
theorem dX4_lives_4 : decode cX4_lives 4 = .ok (.iload_n 1, 1) := by decide +kernel
theorem dX4_lives_5 : decode cX4_lives 5 = .ok (.baload, 1) := by decide +kernel
theorem dX4_lives_6 : decode cX4_lives 6 = .ok (.ifCond .ne 29, 3) := by decide +kernel
theorem dX4_lives_9 : decode cX4_lives 9 = .ok (.aload_n 0, 1) := by decide +kernel
theorem dX4_lives_10 : decode cX4_lives 10 = .ok (.getfield 86, 3) := by decide +kernel
theorem dX4_lives_13 : decode cX4_lives 13 = .ok (.aload_n 0, 1) := by decide +kernel
theorem dX4_lives_14 : decode cX4_lives 14 = .ok (.getfield 19, 3) := by decide +kernel
theorem dX4_lives_17 : decode cX4_lives 17 = .ok (.iload_n 1, 1) := by decide +kernel
theorem dX4_lives_18 : decode cX4_lives 18 = .ok (.iaload, 1) := by decide +kernel
theorem dX4_lives_19 : decode cX4_lives 19 = .ok (.aload_n 0, 1) := by decide +kernel
theorem dX4_lives_20 : decode cX4_lives 20 = .ok (.getfield 22, 3) := by decide +kernel
theorem dX4_lives_23 : decode cX4_lives 23 = .ok (.iload_n 1, 1) := by decide +kernel
theorem dX4_lives_24 : decode cX4_lives 24 = .ok (.iaload, 1) := by decide +kernel
theorem dX4_lives_25 : decode cX4_lives 25 = .ok (.invokestatic 72, 3) := by decide +kernel
theorem dX4_lives_28 : decode cX4_lives 28 = .ok (.ifCond .eq 7, 3) := by decide +kernel
theorem dX4_lives_31 : decode cX4_lives 31 = .ok (.iconst 1, 1) := by decide +kernel
theorem dX4_lives_32 : decode cX4_lives 32 = .ok (.goto 4, 3) := by decide +kernel
theorem dX4_lives_35 : decode cX4_lives 35 = .ok (.iconst 0, 1) := by decide +kernel
theorem dX4_lives_36 : decode cX4_lives 36 = .ok (.ireturn, 1) := by decide +kernel
set_option maxRecDepth 20000 in
theorem ggX4_loseKey_X4_isNoKey : GoodIn wsX4_loseKey wsX4_isNoKey := goodIn_r _ [6, 7, 8, 9, 5, 10, 11, 12, 13, 14, 15, 53, 54, 55, 56, 57, 58, 59, 60, 61, 62, 63, 64, 65, 66, 67, 68, 69, 70, 71, 72, 73, 74, 75] (by decide +kernel) (by decide +kernel)
set_option maxRecDepth 20000 in
theorem gX4_loseKey_X4_isNoKey : GoodIn wsX4_loseKey (wsV RX4 89 RX4 yX4_isNoKey wsX4_isNoKey) := goodIn_app (goodIn_of _ (by decide +kernel)) ggX4_loseKey_X4_isNoKey
set_option maxRecDepth 20000 in
theorem ggX4_loseKey_X4_fails : GoodIn wsX4_loseKey wsX4_fails := goodIn_r _ [14, 15, 53, 54, 55, 56, 57, 58, 59, 60, 61, 62, 63, 64, 65, 66, 67, 68, 69, 70, 71, 72, 73, 74, 75] (by decide +kernel) (by decide +kernel)
set_option maxRecDepth 20000 in
theorem gX4_loseKey_X4_fails : GoodIn wsX4_loseKey (wsV RX4 76 RX4 yX4_fails wsX4_fails) := goodIn_app (goodIn_of _ (by decide +kernel)) ggX4_loseKey_X4_fails
set_option maxRecDepth 20000 in
theorem ggX4_loseKey_X4_trusted : GoodIn wsX4_loseKey wsX4_trusted := goodIn_r _ [19, 20, 21, 22, 5, 23, 24, 25, 26, 27, 28, 29, 30, 31, 32, 33, 34, 35, 36, 37, 38, 39, 40, 7, 41, 42, 43, 44, 45, 46, 1, 47, 48, 49, 8, 9, 10, 53, 54, 55, 56, 57, 58, 59, 60, 61, 62, 63, 64, 65, 66, 67, 68, 69, 70, 71, 72, 73, 74, 75] (by decide +kernel) (by decide +kernel)
set_option maxRecDepth 20000 in
theorem gX4_loseKey_X4_trusted : GoodIn wsX4_loseKey (wsV RX4 92 RX4 yX4_trusted wsX4_trusted) := goodIn_app (goodIn_of _ (by decide +kernel)) ggX4_loseKey_X4_trusted
set_option maxRecDepth 20000 in
theorem ggX4_loseKey_X4_bits : GoodIn wsX4_loseKey wsX4_bits := goodIn_r _ [52] (by decide +kernel) (by decide +kernel)
set_option maxRecDepth 20000 in
theorem gX4_loseKey_X4_bits : GoodIn wsX4_loseKey (va_wsS RX4 96 yX4_bits wsX4_bits) := goodIn_app (goodIn_of _ (by decide +kernel)) ggX4_loseKey_X4_bits
theorem dX4_loseKey_0 : decode cX4_loseKey 0 = .ok (.aload_n 0, 1) := by decide +kernel
theorem dX4_loseKey_1 : decode cX4_loseKey 1 = .ok (.iload_n 1, 1) := by decide +kernel
theorem dX4_loseKey_2 : decode cX4_loseKey 2 = .ok (.invokevirtual 89, 3) := by decide +kernel
theorem dX4_loseKey_5 : decode cX4_loseKey 5 = .ok (.ifCond .ne 24, 3) := by decide +kernel
theorem dX4_loseKey_8 : decode cX4_loseKey 8 = .ok (.aload_n 0, 1) := by decide +kernel
theorem dX4_loseKey_9 : decode cX4_loseKey 9 = .ok (.aload_n 0, 1) := by decide +kernel
theorem dX4_loseKey_10 : decode cX4_loseKey 10 = .ok (.getfield 25, 3) := by decide +kernel
theorem dX4_loseKey_13 : decode cX4_loseKey 13 = .ok (.iload_n 1, 1) := by decide +kernel
theorem dX4_loseKey_14 : decode cX4_loseKey 14 = .ok (.baload, 1) := by decide +kernel
theorem dX4_loseKey_15 : decode cX4_loseKey 15 = .ok (.ifCond .eq 7, 3) := by decide +kernel
theorem dX4_loseKey_18 : decode cX4_loseKey 18 = .ok (.iconst 2, 1) := by decide +kernel
theorem dX4_loseKey_19 : decode cX4_loseKey 19 = .ok (.goto 4, 3) := by decide +kernel
theorem dX4_loseKey_22 : decode cX4_loseKey 22 = .ok (.iconst 0, 1) := by decide +kernel
theorem dX4_loseKey_23 : decode cX4_loseKey 23 = .ok (.invokevirtual 76, 3) := by decide +kernel
theorem dX4_loseKey_26 : decode cX4_loseKey 26 = .ok (.ifCond .eq 5, 3) := by decide +kernel
theorem dX4_loseKey_29 : decode cX4_loseKey 29 = .ok (.iconst 0, 1) := by decide +kernel
theorem dX4_loseKey_30 : decode cX4_loseKey 30 = .ok (.ireturn, 1) := by decide +kernel
theorem dX4_loseKey_31 : decode cX4_loseKey 31 = .ok (.aload_n 0, 1) := by decide +kernel
theorem dX4_loseKey_32 : decode cX4_loseKey 32 = .ok (.invokevirtual 92, 3) := by decide +kernel
theorem dX4_loseKey_35 : decode cX4_loseKey 35 = .ok (.istore_n 2, 1) := by decide +kernel
theorem dX4_loseKey_36 : decode cX4_loseKey 36 = .ok (.aload_n 0, 1) := by decide +kernel
theorem dX4_loseKey_37 : decode cX4_loseKey 37 = .ok (.getfield 25, 3) := by decide +kernel
theorem dX4_loseKey_40 : decode cX4_loseKey 40 = .ok (.iload_n 1, 1) := by decide +kernel
theorem dX4_loseKey_41 : decode cX4_loseKey 41 = .ok (.iconst 1, 1) := by decide +kernel
theorem dX4_loseKey_42 : decode cX4_loseKey 42 = .ok (.bastore, 1) := by decide +kernel
theorem dX4_loseKey_43 : decode cX4_loseKey 43 = .ok (.iload_n 2, 1) := by decide +kernel
theorem dX4_loseKey_44 : decode cX4_loseKey 44 = .ok (.aload_n 0, 1) := by decide +kernel
theorem dX4_loseKey_45 : decode cX4_loseKey 45 = .ok (.invokevirtual 92, 3) := by decide +kernel
theorem dX4_loseKey_48 : decode cX4_loseKey 48 = .ok (.iconst (-1), 1) := by decide +kernel
theorem dX4_loseKey_49 : decode cX4_loseKey 49 = .ok (.ixor, 1) := by decide +kernel
theorem dX4_loseKey_50 : decode cX4_loseKey 50 = .ok (.iand, 1) := by decide +kernel
theorem dX4_loseKey_51 : decode cX4_loseKey 51 = .ok (.invokestatic 96, 3) := by decide +kernel
theorem dX4_loseKey_54 : decode cX4_loseKey 54 = .ok (.ireturn, 1) := by decide +kernel
set_option maxRecDepth 20000 in
theorem ggX4_extendKey_X4_isNoKey : GoodIn wsX4_extendKey wsX4_isNoKey := goodIn_r _ [8, 9, 10, 11, 7, 12, 13, 14, 15, 16, 17, 18, 19, 20, 21, 22, 23, 24, 25, 26, 27, 28, 29, 30, 31, 32, 33, 34, 35, 36, 37, 38, 39, 40] (by decide +kernel) (by decide +kernel)
set_option maxRecDepth 20000 in
theorem gX4_extendKey_X4_isNoKey : GoodIn wsX4_extendKey (wsV RX4 89 RX4 yX4_isNoKey wsX4_isNoKey) := goodIn_app (goodIn_of _ (by decide +kernel)) ggX4_extendKey_X4_isNoKey
set_option maxRecDepth 20000 in
theorem ggX4_extendKey_X4_fails : GoodIn wsX4_extendKey wsX4_fails := goodIn_r _ [16, 17, 18, 19, 20, 21, 22, 23, 24, 25, 26, 27, 28, 29, 30, 31, 32, 33, 34, 35, 36, 37, 38, 39, 40] (by decide +kernel) (by decide +kernel)
set_option maxRecDepth 20000 in
theorem gX4_extendKey_X4_fails : GoodIn wsX4_extendKey (wsV RX4 76 RX4 yX4_fails wsX4_fails) := goodIn_app (goodIn_of _ (by decide +kernel)) ggX4_extendKey_X4_fails
theorem dX4_extendKey_0 : decode cX4_extendKey 0 = .ok (.aload_n 0, 1) := by decide +kernel
theorem dX4_extendKey_1 : decode cX4_extendKey 1 = .ok (.iload_n 1, 1) := by decide +kernel
theorem dX4_extendKey_2 : decode cX4_extendKey 2 = .ok (.invokevirtual 89, 3) := by decide +kernel
theorem dX4_extendKey_5 : decode cX4_extendKey 5 = .ok (.ifCond .ne 58, 3) := by decide +kernel
theorem dX4_extendKey_8 : decode cX4_extendKey 8 = .ok (.aload_n 0, 1) := by decide +kernel
theorem dX4_extendKey_9 : decode cX4_extendKey 9 = .ok (.iload_n 2, 1) := by decide +kernel
theorem dX4_extendKey_10 : decode cX4_extendKey 10 = .ok (.aload_n 0, 1) := by decide +kernel
theorem dX4_extendKey_11 : decode cX4_extendKey 11 = .ok (.getfield 22, 3) := by decide +kernel
theorem dX4_extendKey_14 : decode cX4_extendKey 14 = .ok (.iload_n 1, 1) := by decide +kernel
theorem dX4_extendKey_15 : decode cX4_extendKey 15 = .ok (.iaload, 1) := by decide +kernel
theorem dX4_extendKey_16 : decode cX4_extendKey 16 = .ok (.if_icmp .le 10, 3) := by decide +kernel
theorem dX4_extendKey_19 : decode cX4_extendKey 19 = .ok (.iload_n 2, 1) := by decide +kernel
theorem dX4_extendKey_20 : decode cX4_extendKey 20 = .ok (.sipush 999, 3) := by decide +kernel
theorem dX4_extendKey_23 : decode cX4_extendKey 23 = .ok (.if_icmp .le 7, 3) := by decide +kernel
theorem dX4_extendKey_26 : decode cX4_extendKey 26 = .ok (.iconst 2, 1) := by decide +kernel
theorem dX4_extendKey_27 : decode cX4_extendKey 27 = .ok (.goto 30, 3) := by decide +kernel
theorem dX4_extendKey_30 : decode cX4_extendKey 30 = .ok (.aload_n 0, 1) := by decide +kernel
theorem dX4_extendKey_31 : decode cX4_extendKey 31 = .ok (.getfield 25, 3) := by decide +kernel
theorem dX4_extendKey_34 : decode cX4_extendKey 34 = .ok (.iload_n 1, 1) := by decide +kernel
theorem dX4_extendKey_35 : decode cX4_extendKey 35 = .ok (.baload, 1) := by decide +kernel
theorem dX4_extendKey_36 : decode cX4_extendKey 36 = .ok (.ifCond .ne 16, 3) := by decide +kernel
theorem dX4_extendKey_39 : decode cX4_extendKey 39 = .ok (.aload_n 0, 1) := by decide +kernel
theorem dX4_extendKey_40 : decode cX4_extendKey 40 = .ok (.getfield 22, 3) := by decide +kernel
theorem dX4_extendKey_43 : decode cX4_extendKey 43 = .ok (.iload_n 1, 1) := by decide +kernel
theorem dX4_extendKey_44 : decode cX4_extendKey 44 = .ok (.iaload, 1) := by decide +kernel
theorem dX4_extendKey_45 : decode cX4_extendKey 45 = .ok (.aload_n 0, 1) := by decide +kernel
theorem dX4_extendKey_46 : decode cX4_extendKey 46 = .ok (.getfield 86, 3) := by decide +kernel
theorem dX4_extendKey_49 : decode cX4_extendKey 49 = .ok (.if_icmp .ge 7, 3) := by decide +kernel
theorem dX4_extendKey_52 : decode cX4_extendKey 52 = .ok (.iconst 3, 1) := by decide +kernel
theorem dX4_extendKey_53 : decode cX4_extendKey 53 = .ok (.goto 4, 3) := by decide +kernel
theorem dX4_extendKey_56 : decode cX4_extendKey 56 = .ok (.iconst 0, 1) := by decide +kernel
theorem dX4_extendKey_57 : decode cX4_extendKey 57 = .ok (.invokevirtual 76, 3) := by decide +kernel
theorem dX4_extendKey_60 : decode cX4_extendKey 60 = .ok (.ifCond .eq 5, 3) := by decide +kernel
theorem dX4_extendKey_63 : decode cX4_extendKey 63 = .ok (.iconst 0, 1) := by decide +kernel
theorem dX4_extendKey_64 : decode cX4_extendKey 64 = .ok (.ireturn, 1) := by decide +kernel
theorem dX4_extendKey_65 : decode cX4_extendKey 65 = .ok (.aload_n 0, 1) := by decide +kernel
theorem dX4_extendKey_66 : decode cX4_extendKey 66 = .ok (.getfield 22, 3) := by decide +kernel
theorem dX4_extendKey_69 : decode cX4_extendKey 69 = .ok (.iload_n 1, 1) := by decide +kernel
theorem dX4_extendKey_70 : decode cX4_extendKey 70 = .ok (.iaload, 1) := by decide +kernel
theorem dX4_extendKey_71 : decode cX4_extendKey 71 = .ok (.istore_n 3, 1) := by decide +kernel
theorem dX4_extendKey_72 : decode cX4_extendKey 72 = .ok (.aload_n 0, 1) := by decide +kernel
theorem dX4_extendKey_73 : decode cX4_extendKey 73 = .ok (.getfield 22, 3) := by decide +kernel
theorem dX4_extendKey_76 : decode cX4_extendKey 76 = .ok (.iload_n 1, 1) := by decide +kernel
theorem dX4_extendKey_77 : decode cX4_extendKey 77 = .ok (.iload_n 2, 1) := by decide +kernel
theorem dX4_extendKey_78 : decode cX4_extendKey 78 = .ok (.iastore, 1) := by decide +kernel
theorem dX4_extendKey_79 : decode cX4_extendKey 79 = .ok (.iload_n 3, 1) := by decide +kernel
theorem dX4_extendKey_80 : decode cX4_extendKey 80 = .ok (.ireturn, 1) := by decide +kernel
set_option maxRecDepth 20000 in
theorem ggX4_isLive_X4_isNoKey : GoodIn wsX4_isLive wsX4_isNoKey := goodIn_r _ [5, 6, 7, 8, 4, 9, 10, 11, 12, 13, 14, 23, 24, 25, 26, 27, 28, 29, 30, 31, 32, 33, 34, 35, 36, 37, 38, 39, 40, 41, 42, 43, 44, 45] (by decide +kernel) (by decide +kernel)
set_option maxRecDepth 20000 in
theorem gX4_isLive_X4_isNoKey : GoodIn wsX4_isLive (wsV RX4 89 RX4 yX4_isNoKey wsX4_isNoKey) := goodIn_app (goodIn_of _ (by decide +kernel)) ggX4_isLive_X4_isNoKey
set_option maxRecDepth 20000 in
theorem ggX4_isLive_X4_lives : GoodIn wsX4_isLive wsX4_lives := goodIn_r _ [18, 19, 20, 21, 22, 7, 8, 4, 9, 23, 24, 25, 26, 27, 28, 29, 30, 31, 32, 33, 34, 35, 36, 37, 38, 39, 40, 41, 42, 43, 44, 45] (by decide +kernel) (by decide +kernel)
set_option maxRecDepth 20000 in
theorem gX4_isLive_X4_lives : GoodIn wsX4_isLive (wsV RX4 100 RX4 yX4_lives wsX4_lives) := goodIn_app (goodIn_of _ (by decide +kernel)) ggX4_isLive_X4_lives
theorem dX4_isLive_0 : decode cX4_isLive 0 = .ok (.aload_n 0, 1) := by decide +kernel
theorem dX4_isLive_1 : decode cX4_isLive 1 = .ok (.iload_n 1, 1) := by decide +kernel
theorem dX4_isLive_2 : decode cX4_isLive 2 = .ok (.invokevirtual 89, 3) := by decide +kernel
theorem dX4_isLive_5 : decode cX4_isLive 5 = .ok (.ifCond .ne 15, 3) := by decide +kernel
theorem dX4_isLive_8 : decode cX4_isLive 8 = .ok (.aload_n 0, 1) := by decide +kernel
theorem dX4_isLive_9 : decode cX4_isLive 9 = .ok (.iload_n 1, 1) := by decide +kernel
theorem dX4_isLive_10 : decode cX4_isLive 10 = .ok (.invokevirtual 100, 3) := by decide +kernel
theorem dX4_isLive_13 : decode cX4_isLive 13 = .ok (.ifCond .eq 7, 3) := by decide +kernel
theorem dX4_isLive_16 : decode cX4_isLive 16 = .ok (.iconst 1, 1) := by decide +kernel
theorem dX4_isLive_17 : decode cX4_isLive 17 = .ok (.goto 4, 3) := by decide +kernel
theorem dX4_isLive_20 : decode cX4_isLive 20 = .ok (.iconst 0, 1) := by decide +kernel
theorem dX4_isLive_21 : decode cX4_isLive 21 = .ok (.ireturn, 1) := by decide +kernel
set_option maxRecDepth 20000 in
theorem ggX4_setWeight_X4_in : GoodIn wsX4_setWeight wsX4_in := goodIn_r _ [5] (by decide +kernel) (by decide +kernel)
set_option maxRecDepth 20000 in
theorem gX4_setWeight_X4_in : GoodIn wsX4_setWeight (va_wsS RX4 72 yX4_in wsX4_in) := goodIn_app (goodIn_of _ (by decide +kernel)) ggX4_setWeight_X4_in
set_option maxRecDepth 20000 in
theorem ggX4_setWeight_X4_fails : GoodIn wsX4_setWeight wsX4_fails := goodIn_r _ [9, 10, 11, 12, 13, 14, 15, 16, 17, 18, 19, 20, 21, 22, 23, 24, 25, 26, 27, 28, 29, 30, 31, 32, 33] (by decide +kernel) (by decide +kernel)
set_option maxRecDepth 20000 in
theorem gX4_setWeight_X4_fails : GoodIn wsX4_setWeight (wsV RX4 76 RX4 yX4_fails wsX4_fails) := goodIn_app (goodIn_of _ (by decide +kernel)) ggX4_setWeight_X4_fails
theorem dX4_setWeight_0 : decode cX4_setWeight 0 = .ok (.aload_n 0, 1) := by decide +kernel
theorem dX4_setWeight_1 : decode cX4_setWeight 1 = .ok (.iload_n 1, 1) := by decide +kernel
theorem dX4_setWeight_2 : decode cX4_setWeight 2 = .ok (.iconst 0, 1) := by decide +kernel
theorem dX4_setWeight_3 : decode cX4_setWeight 3 = .ok (.iconst 3, 1) := by decide +kernel
theorem dX4_setWeight_4 : decode cX4_setWeight 4 = .ok (.invokestatic 72, 3) := by decide +kernel
theorem dX4_setWeight_7 : decode cX4_setWeight 7 = .ok (.ifCond .eq 17, 3) := by decide +kernel
theorem dX4_setWeight_10 : decode cX4_setWeight 10 = .ok (.iload_n 2, 1) := by decide +kernel
theorem dX4_setWeight_11 : decode cX4_setWeight 11 = .ok (.iconst 0, 1) := by decide +kernel
theorem dX4_setWeight_12 : decode cX4_setWeight 12 = .ok (.bipush 100, 2) := by decide +kernel
theorem dX4_setWeight_14 : decode cX4_setWeight 14 = .ok (.invokestatic 72, 3) := by decide +kernel
theorem dX4_setWeight_17 : decode cX4_setWeight 17 = .ok (.ifCond .eq 7, 3) := by decide +kernel
theorem dX4_setWeight_20 : decode cX4_setWeight 20 = .ok (.iconst 0, 1) := by decide +kernel
theorem dX4_setWeight_21 : decode cX4_setWeight 21 = .ok (.goto 4, 3) := by decide +kernel
theorem dX4_setWeight_24 : decode cX4_setWeight 24 = .ok (.iconst 1, 1) := by decide +kernel
theorem dX4_setWeight_25 : decode cX4_setWeight 25 = .ok (.invokevirtual 76, 3) := by decide +kernel
theorem dX4_setWeight_28 : decode cX4_setWeight 28 = .ok (.ifCond .eq 5, 3) := by decide +kernel
theorem dX4_setWeight_31 : decode cX4_setWeight 31 = .ok (.iconst 0, 1) := by decide +kernel
theorem dX4_setWeight_32 : decode cX4_setWeight 32 = .ok (.ireturn, 1) := by decide +kernel
theorem dX4_setWeight_33 : decode cX4_setWeight 33 = .ok (.aload_n 0, 1) := by decide +kernel
theorem dX4_setWeight_34 : decode cX4_setWeight 34 = .ok (.getfield 7, 3) := by decide +kernel
theorem dX4_setWeight_37 : decode cX4_setWeight 37 = .ok (.iload_n 1, 1) := by decide +kernel
theorem dX4_setWeight_38 : decode cX4_setWeight 38 = .ok (.iaload, 1) := by decide +kernel
theorem dX4_setWeight_39 : decode cX4_setWeight 39 = .ok (.istore_n 3, 1) := by decide +kernel
theorem dX4_setWeight_40 : decode cX4_setWeight 40 = .ok (.aload_n 0, 1) := by decide +kernel
theorem dX4_setWeight_41 : decode cX4_setWeight 41 = .ok (.getfield 7, 3) := by decide +kernel
theorem dX4_setWeight_44 : decode cX4_setWeight 44 = .ok (.iload_n 1, 1) := by decide +kernel
theorem dX4_setWeight_45 : decode cX4_setWeight 45 = .ok (.iload_n 2, 1) := by decide +kernel
theorem dX4_setWeight_46 : decode cX4_setWeight 46 = .ok (.iastore, 1) := by decide +kernel
theorem dX4_setWeight_47 : decode cX4_setWeight 47 = .ok (.iload_n 3, 1) := by decide +kernel
theorem dX4_setWeight_48 : decode cX4_setWeight 48 = .ok (.ireturn, 1) := by decide +kernel
set_option maxRecDepth 20000 in
theorem ggX4_isNoName_X4_in : GoodIn wsX4_isNoName wsX4_in := goodIn_r _ [4] (by decide +kernel) (by decide +kernel)
set_option maxRecDepth 20000 in
theorem gX4_isNoName_X4_in : GoodIn wsX4_isNoName (va_wsS RX4 72 yX4_in wsX4_in) := goodIn_app (goodIn_of _ (by decide +kernel)) ggX4_isNoName_X4_in
theorem dX4_isNoName_0 : decode cX4_isNoName 0 = .ok (.iload_n 0, 1) := by decide +kernel
theorem dX4_isNoName_1 : decode cX4_isNoName 1 = .ok (.iconst 0, 1) := by decide +kernel
theorem dX4_isNoName_2 : decode cX4_isNoName 2 = .ok (.iconst 4, 1) := by decide +kernel
theorem dX4_isNoName_3 : decode cX4_isNoName 3 = .ok (.invokestatic 72, 3) := by decide +kernel
theorem dX4_isNoName_6 : decode cX4_isNoName 6 = .ok (.ifCond .ne 7, 3) := by decide +kernel
theorem dX4_isNoName_9 : decode cX4_isNoName 9 = .ok (.iconst 1, 1) := by decide +kernel
theorem dX4_isNoName_10 : decode cX4_isNoName 10 = .ok (.goto 4, 3) := by decide +kernel
theorem dX4_isNoName_13 : decode cX4_isNoName 13 = .ok (.iconst 0, 1) := by decide +kernel
theorem dX4_isNoName_14 : decode cX4_isNoName 14 = .ok (.ireturn, 1) := by decide +kernel
set_option maxRecDepth 20000 in
theorem ggX4_setThreshold_X4_isNoName : GoodIn wsX4_setThreshold wsX4_isNoName := goodIn_r _ [5, 6, 7, 4, 8] (by decide +kernel) (by decide +kernel)
set_option maxRecDepth 20000 in
theorem gX4_setThreshold_X4_isNoName : GoodIn wsX4_setThreshold (va_wsS RX4 103 yX4_isNoName wsX4_isNoName) := goodIn_app (goodIn_of _ (by decide +kernel)) ggX4_setThreshold_X4_isNoName
set_option maxRecDepth 20000 in
theorem ggX4_setThreshold_X4_in : GoodIn wsX4_setThreshold wsX4_in := goodIn_r _ [8] (by decide +kernel) (by decide +kernel)
set_option maxRecDepth 20000 in
theorem gX4_setThreshold_X4_in : GoodIn wsX4_setThreshold (va_wsS RX4 72 yX4_in wsX4_in) := goodIn_app (goodIn_of _ (by decide +kernel)) ggX4_setThreshold_X4_in
set_option maxRecDepth 20000 in
theorem ggX4_setThreshold_X4_fails : GoodIn wsX4_setThreshold wsX4_fails := goodIn_r _ [12, 13, 14, 15, 16, 17, 18, 19, 20, 21, 22, 23, 24, 25, 26, 27, 28, 29, 30, 31, 32, 33, 34, 35, 36] (by decide +kernel) (by decide +kernel)
set_option maxRecDepth 20000 in
theorem gX4_setThreshold_X4_fails : GoodIn wsX4_setThreshold (wsV RX4 76 RX4 yX4_fails wsX4_fails) := goodIn_app (goodIn_of _ (by decide +kernel)) ggX4_setThreshold_X4_fails
theorem dX4_setThreshold_0 : decode cX4_setThreshold 0 = .ok (.aload_n 0, 1) := by decide +kernel
theorem dX4_setThreshold_1 : decode cX4_setThreshold 1 = .ok (.iload_n 1, 1) := by decide +kernel
theorem dX4_setThreshold_2 : decode cX4_setThreshold 2 = .ok (.invokestatic 103, 3) := by decide +kernel
theorem dX4_setThreshold_5 : decode cX4_setThreshold 5 = .ok (.ifCond .ne 14, 3) := by decide +kernel
theorem dX4_setThreshold_8 : decode cX4_setThreshold 8 = .ok (.iload_n 2, 1) := by decide +kernel
theorem dX4_setThreshold_9 : decode cX4_setThreshold 9 = .ok (.iconst 1, 1) := by decide +kernel
theorem dX4_setThreshold_10 : decode cX4_setThreshold 10 = .ok (.sipush 400, 3) := by decide +kernel
theorem dX4_setThreshold_13 : decode cX4_setThreshold 13 = .ok (.invokestatic 72, 3) := by decide +kernel
theorem dX4_setThreshold_16 : decode cX4_setThreshold 16 = .ok (.ifCond .ne 7, 3) := by decide +kernel
theorem dX4_setThreshold_19 : decode cX4_setThreshold 19 = .ok (.iconst 1, 1) := by decide +kernel
theorem dX4_setThreshold_20 : decode cX4_setThreshold 20 = .ok (.goto 4, 3) := by decide +kernel
theorem dX4_setThreshold_23 : decode cX4_setThreshold 23 = .ok (.iconst 0, 1) := by decide +kernel
theorem dX4_setThreshold_24 : decode cX4_setThreshold 24 = .ok (.invokevirtual 76, 3) := by decide +kernel
theorem dX4_setThreshold_27 : decode cX4_setThreshold 27 = .ok (.ifCond .eq 5, 3) := by decide +kernel
theorem dX4_setThreshold_30 : decode cX4_setThreshold 30 = .ok (.iconst 0, 1) := by decide +kernel
theorem dX4_setThreshold_31 : decode cX4_setThreshold 31 = .ok (.ireturn, 1) := by decide +kernel
theorem dX4_setThreshold_32 : decode cX4_setThreshold 32 = .ok (.aload_n 0, 1) := by decide +kernel
theorem dX4_setThreshold_33 : decode cX4_setThreshold 33 = .ok (.getfield 13, 3) := by decide +kernel
theorem dX4_setThreshold_36 : decode cX4_setThreshold 36 = .ok (.iload_n 1, 1) := by decide +kernel
theorem dX4_setThreshold_37 : decode cX4_setThreshold 37 = .ok (.iaload, 1) := by decide +kernel
theorem dX4_setThreshold_38 : decode cX4_setThreshold 38 = .ok (.istore_n 3, 1) := by decide +kernel
theorem dX4_setThreshold_39 : decode cX4_setThreshold 39 = .ok (.aload_n 0, 1) := by decide +kernel
theorem dX4_setThreshold_40 : decode cX4_setThreshold 40 = .ok (.getfield 13, 3) := by decide +kernel
theorem dX4_setThreshold_43 : decode cX4_setThreshold 43 = .ok (.iload_n 1, 1) := by decide +kernel
theorem dX4_setThreshold_44 : decode cX4_setThreshold 44 = .ok (.iload_n 2, 1) := by decide +kernel
theorem dX4_setThreshold_45 : decode cX4_setThreshold 45 = .ok (.iastore, 1) := by decide +kernel
theorem dX4_setThreshold_46 : decode cX4_setThreshold 46 = .ok (.iload_n 3, 1) := by decide +kernel
theorem dX4_setThreshold_47 : decode cX4_setThreshold 47 = .ok (.ireturn, 1) := by decide +kernel
set_option maxRecDepth 20000 in
theorem ggX4_areRecalled_X4_isGone : GoodIn wsX4_areRecalled wsX4_isGone := goodIn_r _ [6, 7, 8, 9, 10, 11, 12, 13, 14, 15, 16, 17, 18, 19, 20, 21, 22, 23, 24, 25, 26, 27, 28, 29, 30, 31] (by decide +kernel) (by decide +kernel)
set_option maxRecDepth 20000 in
theorem gX4_areRecalled_X4_isGone : GoodIn wsX4_areRecalled (wsV RX4 106 RX4 yX4_isGone wsX4_isGone) := goodIn_app (goodIn_of _ (by decide +kernel)) ggX4_areRecalled_X4_isGone
theorem dX4_areRecalled_0 : decode cX4_areRecalled 0 = .ok (.iconst 0, 1) := by decide +kernel
theorem dX4_areRecalled_1 : decode cX4_areRecalled 1 = .ok (.istore_n 2, 1) := by decide +kernel
theorem dX4_areRecalled_2 : decode cX4_areRecalled 2 = .ok (.iload_n 2, 1) := by decide +kernel
theorem dX4_areRecalled_3 : decode cX4_areRecalled 3 = .ok (.aload_n 0, 1) := by decide +kernel
theorem dX4_areRecalled_4 : decode cX4_areRecalled 4 = .ok (.getfield 80, 3) := by decide +kernel
theorem dX4_areRecalled_7 : decode cX4_areRecalled 7 = .ok (.if_icmp .ge 28, 3) := by decide +kernel
theorem dX4_areRecalled_10 : decode cX4_areRecalled 10 = .ok (.iload_n 1, 1) := by decide +kernel
theorem dX4_areRecalled_11 : decode cX4_areRecalled 11 = .ok (.iload_n 2, 1) := by decide +kernel
theorem dX4_areRecalled_12 : decode cX4_areRecalled 12 = .ok (.ishr, 1) := by decide +kernel
theorem dX4_areRecalled_13 : decode cX4_areRecalled 13 = .ok (.iconst 1, 1) := by decide +kernel
theorem dX4_areRecalled_14 : decode cX4_areRecalled 14 = .ok (.iand, 1) := by decide +kernel
theorem dX4_areRecalled_15 : decode cX4_areRecalled 15 = .ok (.iconst 1, 1) := by decide +kernel
theorem dX4_areRecalled_16 : decode cX4_areRecalled 16 = .ok (.if_icmp .ne 13, 3) := by decide +kernel
theorem dX4_areRecalled_19 : decode cX4_areRecalled 19 = .ok (.aload_n 0, 1) := by decide +kernel
theorem dX4_areRecalled_20 : decode cX4_areRecalled 20 = .ok (.iload_n 2, 1) := by decide +kernel
theorem dX4_areRecalled_21 : decode cX4_areRecalled 21 = .ok (.invokevirtual 106, 3) := by decide +kernel
theorem dX4_areRecalled_24 : decode cX4_areRecalled 24 = .ok (.ifCond .eq 5, 3) := by decide +kernel
theorem dX4_areRecalled_27 : decode cX4_areRecalled 27 = .ok (.iconst 1, 1) := by decide +kernel
theorem dX4_areRecalled_28 : decode cX4_areRecalled 28 = .ok (.ireturn, 1) := by decide +kernel
theorem dX4_areRecalled_29 : decode cX4_areRecalled 29 = .ok (.iinc 2 1, 3) := by decide +kernel
theorem dX4_areRecalled_32 : decode cX4_areRecalled 32 = .ok (.goto (-30), 3) := by decide +kernel
theorem dX4_areRecalled_35 : decode cX4_areRecalled 35 = .ok (.iconst 0, 1) := by decide +kernel
theorem dX4_areRecalled_36 : decode cX4_areRecalled 36 = .ok (.ireturn, 1) := by decide +kernel
set_option maxRecDepth 20000 in
theorem ggX4_build_X4_isNoName : GoodIn wsX4_build wsX4_isNoName := goodIn_r _ [9, 10, 11, 8, 12] (by decide +kernel) (by decide +kernel)
set_option maxRecDepth 20000 in
theorem gX4_build_X4_isNoName : GoodIn wsX4_build (va_wsS RX4 103 yX4_isNoName wsX4_isNoName) := goodIn_app (goodIn_of _ (by decide +kernel)) ggX4_build_X4_isNoName
set_option maxRecDepth 20000 in
theorem ggX4_build_X4_in : GoodIn wsX4_build wsX4_in := goodIn_r _ [12] (by decide +kernel) (by decide +kernel)
set_option maxRecDepth 20000 in
theorem gX4_build_X4_in : GoodIn wsX4_build (va_wsS RX4 72 yX4_in wsX4_in) := goodIn_app (goodIn_of _ (by decide +kernel)) ggX4_build_X4_in
set_option maxRecDepth 20000 in
theorem ggX4_build_X4_areRecalled : GoodIn wsX4_build wsX4_areRecalled := goodIn_r _ [16, 1, 17, 18, 19, 8, 20, 21, 4, 27, 28, 29, 30, 31, 32, 33, 34, 35, 36, 37, 38, 39, 40, 41, 42, 43, 44, 45, 46, 47, 48, 49] (by decide +kernel) (by decide +kernel)
set_option maxRecDepth 20000 in
theorem gX4_build_X4_areRecalled : GoodIn wsX4_build (wsV RX4 109 RX4 yX4_areRecalled wsX4_areRecalled) := goodIn_app (goodIn_of _ (by decide +kernel)) ggX4_build_X4_areRecalled
set_option maxRecDepth 20000 in
theorem ggX4_build_X4_fails : GoodIn wsX4_build wsX4_fails := goodIn_r _ [25, 26, 27, 28, 29, 30, 31, 32, 33, 34, 35, 36, 37, 38, 39, 40, 41, 42, 43, 44, 45, 46, 47, 48, 49] (by decide +kernel) (by decide +kernel)
set_option maxRecDepth 20000 in
theorem gX4_build_X4_fails : GoodIn wsX4_build (wsV RX4 76 RX4 yX4_fails wsX4_fails) := goodIn_app (goodIn_of _ (by decide +kernel)) ggX4_build_X4_fails
theorem dX4_build_0 : decode cX4_build 0 = .ok (.aload_n 0, 1) := by decide +kernel
theorem dX4_build_1 : decode cX4_build 1 = .ok (.iload_n 1, 1) := by decide +kernel
theorem dX4_build_2 : decode cX4_build 2 = .ok (.invokestatic 103, 3) := by decide +kernel
theorem dX4_build_5 : decode cX4_build 5 = .ok (.ifCond .ne 19, 3) := by decide +kernel
theorem dX4_build_8 : decode cX4_build 8 = .ok (.iload_n 2, 1) := by decide +kernel
theorem dX4_build_9 : decode cX4_build 9 = .ok (.iconst 0, 1) := by decide +kernel
theorem dX4_build_10 : decode cX4_build 10 = .ok (.iconst 1, 1) := by decide +kernel
theorem dX4_build_11 : decode cX4_build 11 = .ok (.aload_n 0, 1) := by decide +kernel
theorem dX4_build_12 : decode cX4_build 12 = .ok (.getfield 80, 3) := by decide +kernel
theorem dX4_build_15 : decode cX4_build 15 = .ok (.ishl, 1) := by decide +kernel
theorem dX4_build_16 : decode cX4_build 16 = .ok (.iconst 1, 1) := by decide +kernel
theorem dX4_build_17 : decode cX4_build 17 = .ok (.isub, 1) := by decide +kernel
theorem dX4_build_18 : decode cX4_build 18 = .ok (.invokestatic 72, 3) := by decide +kernel
theorem dX4_build_21 : decode cX4_build 21 = .ok (.ifCond .ne 7, 3) := by decide +kernel
theorem dX4_build_24 : decode cX4_build 24 = .ok (.iconst 1, 1) := by decide +kernel
theorem dX4_build_25 : decode cX4_build 25 = .ok (.goto 29, 3) := by decide +kernel
theorem dX4_build_28 : decode cX4_build 28 = .ok (.aload_n 0, 1) := by decide +kernel
theorem dX4_build_29 : decode cX4_build 29 = .ok (.iload_n 2, 1) := by decide +kernel
theorem dX4_build_30 : decode cX4_build 30 = .ok (.invokevirtual 109, 3) := by decide +kernel
theorem dX4_build_33 : decode cX4_build 33 = .ok (.ifCond .eq 7, 3) := by decide +kernel
theorem dX4_build_36 : decode cX4_build 36 = .ok (.iconst 2, 1) := by decide +kernel
theorem dX4_build_37 : decode cX4_build 37 = .ok (.goto 17, 3) := by decide +kernel
theorem dX4_build_40 : decode cX4_build 40 = .ok (.aload_n 0, 1) := by decide +kernel
theorem dX4_build_41 : decode cX4_build 41 = .ok (.getfield 80, 3) := by decide +kernel
theorem dX4_build_44 : decode cX4_build 44 = .ok (.bipush 24, 2) := by decide +kernel
theorem dX4_build_46 : decode cX4_build 46 = .ok (.if_icmp .ne 7, 3) := by decide +kernel
theorem dX4_build_49 : decode cX4_build 49 = .ok (.iconst 3, 1) := by decide +kernel
theorem dX4_build_50 : decode cX4_build 50 = .ok (.goto 4, 3) := by decide +kernel
theorem dX4_build_53 : decode cX4_build 53 = .ok (.iconst 0, 1) := by decide +kernel
theorem dX4_build_54 : decode cX4_build 54 = .ok (.invokevirtual 76, 3) := by decide +kernel
theorem dX4_build_57 : decode cX4_build 57 = .ok (.ifCond .eq 5, 3) := by decide +kernel
theorem dX4_build_60 : decode cX4_build 60 = .ok (.iconst 0, 1) := by decide +kernel
theorem dX4_build_61 : decode cX4_build 61 = .ok (.ireturn, 1) := by decide +kernel
theorem dX4_build_62 : decode cX4_build 62 = .ok (.aload_n 0, 1) := by decide +kernel
theorem dX4_build_63 : decode cX4_build 63 = .ok (.getfield 29, 3) := by decide +kernel
theorem dX4_build_66 : decode cX4_build 66 = .ok (.aload_n 0, 1) := by decide +kernel
theorem dX4_build_67 : decode cX4_build 67 = .ok (.getfield 80, 3) := by decide +kernel
theorem dX4_build_70 : decode cX4_build 70 = .ok (.iload_n 1, 1) := by decide +kernel
theorem dX4_build_71 : decode cX4_build 71 = .ok (.iastore, 1) := by decide +kernel
theorem dX4_build_72 : decode cX4_build 72 = .ok (.aload_n 0, 1) := by decide +kernel
theorem dX4_build_73 : decode cX4_build 73 = .ok (.getfield 32, 3) := by decide +kernel
theorem dX4_build_76 : decode cX4_build 76 = .ok (.aload_n 0, 1) := by decide +kernel
theorem dX4_build_77 : decode cX4_build 77 = .ok (.getfield 80, 3) := by decide +kernel
theorem dX4_build_80 : decode cX4_build 80 = .ok (.iconst 1, 1) := by decide +kernel
theorem dX4_build_81 : decode cX4_build 81 = .ok (.iastore, 1) := by decide +kernel
theorem dX4_build_82 : decode cX4_build 82 = .ok (.aload_n 0, 1) := by decide +kernel
theorem dX4_build_83 : decode cX4_build 83 = .ok (.getfield 35, 3) := by decide +kernel
theorem dX4_build_86 : decode cX4_build 86 = .ok (.aload_n 0, 1) := by decide +kernel
theorem dX4_build_87 : decode cX4_build 87 = .ok (.getfield 80, 3) := by decide +kernel
theorem dX4_build_90 : decode cX4_build 90 = .ok (.iload_n 2, 1) := by decide +kernel
theorem dX4_build_91 : decode cX4_build 91 = .ok (.iastore, 1) := by decide +kernel
theorem dX4_build_92 : decode cX4_build 92 = .ok (.iconst 0, 1) := by decide +kernel
theorem dX4_build_93 : decode cX4_build 93 = .ok (.istore 4, 2) := by decide +kernel
theorem dX4_build_95 : decode cX4_build 95 = .ok (.iload 4, 2) := by decide +kernel
theorem dX4_build_97 : decode cX4_build 97 = .ok (.aload_n 0, 1) := by decide +kernel
theorem dX4_build_98 : decode cX4_build 98 = .ok (.getfield 80, 3) := by decide +kernel
theorem dX4_build_101 : decode cX4_build 101 = .ok (.if_icmp .ge 62, 3) := by decide +kernel
theorem dX4_build_104 : decode cX4_build 104 = .ok (.aload_n 0, 1) := by decide +kernel
theorem dX4_build_105 : decode cX4_build 105 = .ok (.getfield 29, 3) := by decide +kernel
theorem dX4_build_108 : decode cX4_build 108 = .ok (.iload 4, 2) := by decide +kernel
theorem dX4_build_110 : decode cX4_build 110 = .ok (.iaload, 1) := by decide +kernel
theorem dX4_build_111 : decode cX4_build 111 = .ok (.iload_n 1, 1) := by decide +kernel
theorem dX4_build_112 : decode cX4_build 112 = .ok (.if_icmp .ne 16, 3) := by decide +kernel
theorem dX4_build_115 : decode cX4_build 115 = .ok (.aload_n 0, 1) := by decide +kernel
theorem dX4_build_116 : decode cX4_build 116 = .ok (.getfield 32, 3) := by decide +kernel
theorem dX4_build_119 : decode cX4_build 119 = .ok (.aload_n 0, 1) := by decide +kernel
theorem dX4_build_120 : decode cX4_build 120 = .ok (.getfield 80, 3) := by decide +kernel
theorem dX4_build_123 : decode cX4_build 123 = .ok (.dup2, 1) := by decide +kernel
theorem dX4_build_124 : decode cX4_build 124 = .ok (.iaload, 1) := by decide +kernel
theorem dX4_build_125 : decode cX4_build 125 = .ok (.iconst 1, 1) := by decide +kernel
theorem dX4_build_126 : decode cX4_build 126 = .ok (.iadd, 1) := by decide +kernel
theorem dX4_build_127 : decode cX4_build 127 = .ok (.iastore, 1) := by decide +kernel
theorem dX4_build_128 : decode cX4_build 128 = .ok (.iload_n 2, 1) := by decide +kernel
theorem dX4_build_129 : decode cX4_build 129 = .ok (.iload 4, 2) := by decide +kernel
theorem dX4_build_131 : decode cX4_build 131 = .ok (.ishr, 1) := by decide +kernel
theorem dX4_build_132 : decode cX4_build 132 = .ok (.iconst 1, 1) := by decide +kernel
theorem dX4_build_133 : decode cX4_build 133 = .ok (.iand, 1) := by decide +kernel
theorem dX4_build_134 : decode cX4_build 134 = .ok (.iconst 1, 1) := by decide +kernel
theorem dX4_build_135 : decode cX4_build 135 = .ok (.if_icmp .ne 22, 3) := by decide +kernel
theorem dX4_build_138 : decode cX4_build 138 = .ok (.aload_n 0, 1) := by decide +kernel
theorem dX4_build_139 : decode cX4_build 139 = .ok (.getfield 35, 3) := by decide +kernel
theorem dX4_build_142 : decode cX4_build 142 = .ok (.aload_n 0, 1) := by decide +kernel
theorem dX4_build_143 : decode cX4_build 143 = .ok (.getfield 80, 3) := by decide +kernel
theorem dX4_build_146 : decode cX4_build 146 = .ok (.dup2, 1) := by decide +kernel
theorem dX4_build_147 : decode cX4_build 147 = .ok (.iaload, 1) := by decide +kernel
theorem dX4_build_148 : decode cX4_build 148 = .ok (.aload_n 0, 1) := by decide +kernel
theorem dX4_build_149 : decode cX4_build 149 = .ok (.getfield 35, 3) := by decide +kernel
theorem dX4_build_152 : decode cX4_build 152 = .ok (.iload 4, 2) := by decide +kernel
theorem dX4_build_154 : decode cX4_build 154 = .ok (.iaload, 1) := by decide +kernel
theorem dX4_build_155 : decode cX4_build 155 = .ok (.ior, 1) := by decide +kernel
theorem dX4_build_156 : decode cX4_build 156 = .ok (.iastore, 1) := by decide +kernel
theorem dX4_build_157 : decode cX4_build 157 = .ok (.iinc 4 1, 3) := by decide +kernel
theorem dX4_build_160 : decode cX4_build 160 = .ok (.goto (-65), 3) := by decide +kernel
theorem dX4_build_163 : decode cX4_build 163 = .ok (.aload_n 0, 1) := by decide +kernel
theorem dX4_build_164 : decode cX4_build 164 = .ok (.getfield 38, 3) := by decide +kernel
theorem dX4_build_167 : decode cX4_build 167 = .ok (.aload_n 0, 1) := by decide +kernel
theorem dX4_build_168 : decode cX4_build 168 = .ok (.getfield 80, 3) := by decide +kernel
theorem dX4_build_171 : decode cX4_build 171 = .ok (.iload_n 3, 1) := by decide +kernel
theorem dX4_build_172 : decode cX4_build 172 = .ok (.iastore, 1) := by decide +kernel
theorem dX4_build_173 : decode cX4_build 173 = .ok (.aload_n 0, 1) := by decide +kernel
theorem dX4_build_174 : decode cX4_build 174 = .ok (.dup, 1) := by decide +kernel
theorem dX4_build_175 : decode cX4_build 175 = .ok (.getfield 80, 3) := by decide +kernel
theorem dX4_build_178 : decode cX4_build 178 = .ok (.iconst 1, 1) := by decide +kernel
theorem dX4_build_179 : decode cX4_build 179 = .ok (.iadd, 1) := by decide +kernel
theorem dX4_build_180 : decode cX4_build 180 = .ok (.putfield 80, 3) := by decide +kernel
theorem dX4_build_183 : decode cX4_build 183 = .ok (.aload_n 0, 1) := by decide +kernel
theorem dX4_build_184 : decode cX4_build 184 = .ok (.getfield 80, 3) := by decide +kernel
theorem dX4_build_187 : decode cX4_build 187 = .ok (.iconst 1, 1) := by decide +kernel
theorem dX4_build_188 : decode cX4_build 188 = .ok (.isub, 1) := by decide +kernel
theorem dX4_build_189 : decode cX4_build 189 = .ok (.ireturn, 1) := by decide +kernel
set_option maxRecDepth 20000 in
theorem ggX4_nameOf_X4_isNoBuild : GoodIn wsX4_nameOf wsX4_isNoBuild := goodIn_r _ [6, 7, 8, 9, 5, 10, 11, 12, 13, 14, 15, 16, 17, 18, 19, 20, 21, 22, 23, 24, 25, 26, 27, 28, 29, 30, 31, 32, 33, 34, 35, 36, 37, 38] (by decide +kernel) (by decide +kernel)
set_option maxRecDepth 20000 in
theorem gX4_nameOf_X4_isNoBuild : GoodIn wsX4_nameOf (wsV RX4 112 RX4 yX4_isNoBuild wsX4_isNoBuild) := goodIn_app (goodIn_of _ (by decide +kernel)) ggX4_nameOf_X4_isNoBuild
theorem dX4_nameOf_0 : decode cX4_nameOf 0 = .ok (.aload_n 0, 1) := by decide +kernel
theorem dX4_nameOf_1 : decode cX4_nameOf 1 = .ok (.iload_n 1, 1) := by decide +kernel
theorem dX4_nameOf_2 : decode cX4_nameOf 2 = .ok (.invokevirtual 112, 3) := by decide +kernel
theorem dX4_nameOf_5 : decode cX4_nameOf 5 = .ok (.ifCond .eq 7, 3) := by decide +kernel
theorem dX4_nameOf_8 : decode cX4_nameOf 8 = .ok (.iconst 0, 1) := by decide +kernel
theorem dX4_nameOf_9 : decode cX4_nameOf 9 = .ok (.goto 9, 3) := by decide +kernel
theorem dX4_nameOf_12 : decode cX4_nameOf 12 = .ok (.aload_n 0, 1) := by decide +kernel
theorem dX4_nameOf_13 : decode cX4_nameOf 13 = .ok (.getfield 29, 3) := by decide +kernel
theorem dX4_nameOf_16 : decode cX4_nameOf 16 = .ok (.iload_n 1, 1) := by decide +kernel
theorem dX4_nameOf_17 : decode cX4_nameOf 17 = .ok (.iaload, 1) := by decide +kernel
theorem dX4_nameOf_18 : decode cX4_nameOf 18 = .ok (.ireturn, 1) := by decide +kernel
set_option maxRecDepth 20000 in
theorem ggX4_version_X4_isNoBuild : GoodIn wsX4_version wsX4_isNoBuild := goodIn_r _ [6, 7, 8, 9, 5, 10, 11, 12, 13, 14, 15, 16, 17, 18, 19, 20, 21, 22, 23, 24, 25, 26, 27, 28, 29, 30, 31, 32, 33, 34, 35, 36, 37, 38] (by decide +kernel) (by decide +kernel)
set_option maxRecDepth 20000 in
theorem gX4_version_X4_isNoBuild : GoodIn wsX4_version (wsV RX4 112 RX4 yX4_isNoBuild wsX4_isNoBuild) := goodIn_app (goodIn_of _ (by decide +kernel)) ggX4_version_X4_isNoBuild
theorem dX4_version_0 : decode cX4_version 0 = .ok (.aload_n 0, 1) := by decide +kernel
theorem dX4_version_1 : decode cX4_version 1 = .ok (.iload_n 1, 1) := by decide +kernel
theorem dX4_version_2 : decode cX4_version 2 = .ok (.invokevirtual 112, 3) := by decide +kernel
theorem dX4_version_5 : decode cX4_version 5 = .ok (.ifCond .eq 7, 3) := by decide +kernel
theorem dX4_version_8 : decode cX4_version 8 = .ok (.iconst 0, 1) := by decide +kernel
theorem dX4_version_9 : decode cX4_version 9 = .ok (.goto 9, 3) := by decide +kernel
theorem dX4_version_12 : decode cX4_version 12 = .ok (.aload_n 0, 1) := by decide +kernel
theorem dX4_version_13 : decode cX4_version 13 = .ok (.getfield 32, 3) := by decide +kernel
theorem dX4_version_16 : decode cX4_version 16 = .ok (.iload_n 1, 1) := by decide +kernel
theorem dX4_version_17 : decode cX4_version 17 = .ok (.iaload, 1) := by decide +kernel
theorem dX4_version_18 : decode cX4_version 18 = .ok (.ireturn, 1) := by decide +kernel
set_option maxRecDepth 20000 in
theorem ggX4_uses_X4_in : GoodIn wsX4_uses wsX4_in := goodIn_r _ [6] (by decide +kernel) (by decide +kernel)
set_option maxRecDepth 20000 in
theorem gX4_uses_X4_in : GoodIn wsX4_uses (va_wsS RX4 72 yX4_in wsX4_in) := goodIn_app (goodIn_of _ (by decide +kernel)) ggX4_uses_X4_in
set_option maxRecDepth 20000 in
theorem ggX4_uses_X4_fails : GoodIn wsX4_uses wsX4_fails := goodIn_r _ [10, 11, 12, 13, 14, 15, 16, 17, 18, 19, 20, 21, 22, 23, 24, 25, 26, 27, 28, 29, 30, 31, 32, 33, 34] (by decide +kernel) (by decide +kernel)
set_option maxRecDepth 20000 in
theorem gX4_uses_X4_fails : GoodIn wsX4_uses (wsV RX4 76 RX4 yX4_fails wsX4_fails) := goodIn_app (goodIn_of _ (by decide +kernel)) ggX4_uses_X4_fails
theorem dX4_uses_0 : decode cX4_uses 0 = .ok (.aload_n 0, 1) := by decide +kernel
theorem dX4_uses_1 : decode cX4_uses 1 = .ok (.iload_n 1, 1) := by decide +kernel
theorem dX4_uses_2 : decode cX4_uses 2 = .ok (.iconst 0, 1) := by decide +kernel
theorem dX4_uses_3 : decode cX4_uses 3 = .ok (.aload_n 0, 1) := by decide +kernel
theorem dX4_uses_4 : decode cX4_uses 4 = .ok (.getfield 80, 3) := by decide +kernel
theorem dX4_uses_7 : decode cX4_uses 7 = .ok (.iconst 1, 1) := by decide +kernel
theorem dX4_uses_8 : decode cX4_uses 8 = .ok (.isub, 1) := by decide +kernel
theorem dX4_uses_9 : decode cX4_uses 9 = .ok (.invokestatic 72, 3) := by decide +kernel
theorem dX4_uses_12 : decode cX4_uses 12 = .ok (.ifCond .eq 21, 3) := by decide +kernel
theorem dX4_uses_15 : decode cX4_uses 15 = .ok (.iload_n 2, 1) := by decide +kernel
theorem dX4_uses_16 : decode cX4_uses 16 = .ok (.iconst 0, 1) := by decide +kernel
theorem dX4_uses_17 : decode cX4_uses 17 = .ok (.aload_n 0, 1) := by decide +kernel
theorem dX4_uses_18 : decode cX4_uses 18 = .ok (.getfield 80, 3) := by decide +kernel
theorem dX4_uses_21 : decode cX4_uses 21 = .ok (.iconst 1, 1) := by decide +kernel
theorem dX4_uses_22 : decode cX4_uses 22 = .ok (.isub, 1) := by decide +kernel
theorem dX4_uses_23 : decode cX4_uses 23 = .ok (.invokestatic 72, 3) := by decide +kernel
theorem dX4_uses_26 : decode cX4_uses 26 = .ok (.ifCond .eq 7, 3) := by decide +kernel
theorem dX4_uses_29 : decode cX4_uses 29 = .ok (.iconst 0, 1) := by decide +kernel
theorem dX4_uses_30 : decode cX4_uses 30 = .ok (.goto 4, 3) := by decide +kernel
theorem dX4_uses_33 : decode cX4_uses 33 = .ok (.iconst 1, 1) := by decide +kernel
theorem dX4_uses_34 : decode cX4_uses 34 = .ok (.invokevirtual 76, 3) := by decide +kernel
theorem dX4_uses_37 : decode cX4_uses 37 = .ok (.ifCond .ne 21, 3) := by decide +kernel
theorem dX4_uses_40 : decode cX4_uses 40 = .ok (.aload_n 0, 1) := by decide +kernel
theorem dX4_uses_41 : decode cX4_uses 41 = .ok (.getfield 35, 3) := by decide +kernel
theorem dX4_uses_44 : decode cX4_uses 44 = .ok (.iload_n 1, 1) := by decide +kernel
theorem dX4_uses_45 : decode cX4_uses 45 = .ok (.iaload, 1) := by decide +kernel
theorem dX4_uses_46 : decode cX4_uses 46 = .ok (.iload_n 2, 1) := by decide +kernel
theorem dX4_uses_47 : decode cX4_uses 47 = .ok (.ishr, 1) := by decide +kernel
theorem dX4_uses_48 : decode cX4_uses 48 = .ok (.iconst 1, 1) := by decide +kernel
theorem dX4_uses_49 : decode cX4_uses 49 = .ok (.iand, 1) := by decide +kernel
theorem dX4_uses_50 : decode cX4_uses 50 = .ok (.iconst 1, 1) := by decide +kernel
theorem dX4_uses_51 : decode cX4_uses 51 = .ok (.if_icmp .ne 7, 3) := by decide +kernel
theorem dX4_uses_54 : decode cX4_uses 54 = .ok (.iconst 1, 1) := by decide +kernel
theorem dX4_uses_55 : decode cX4_uses 55 = .ok (.goto 4, 3) := by decide +kernel
theorem dX4_uses_58 : decode cX4_uses 58 = .ok (.iconst 0, 1) := by decide +kernel
theorem dX4_uses_59 : decode cX4_uses 59 = .ok (.ireturn, 1) := by decide +kernel
set_option maxRecDepth 20000 in
theorem ggX4_used_X4_isNoBuild : GoodIn wsX4_used wsX4_isNoBuild := goodIn_r _ [6, 7, 8, 9, 5, 10, 11, 12, 13, 14, 15, 19, 20, 21, 22, 23, 24, 25, 26, 27, 28, 29, 30, 31, 32, 33, 34, 35, 36, 37, 38, 39, 40, 41] (by decide +kernel) (by decide +kernel)
set_option maxRecDepth 20000 in
theorem gX4_used_X4_isNoBuild : GoodIn wsX4_used (wsV RX4 112 RX4 yX4_isNoBuild wsX4_isNoBuild) := goodIn_app (goodIn_of _ (by decide +kernel)) ggX4_used_X4_isNoBuild
set_option maxRecDepth 20000 in
theorem ggX4_used_X4_bits : GoodIn wsX4_used wsX4_bits := goodIn_r _ [18] (by decide +kernel) (by decide +kernel)
set_option maxRecDepth 20000 in
theorem gX4_used_X4_bits : GoodIn wsX4_used (va_wsS RX4 96 yX4_bits wsX4_bits) := goodIn_app (goodIn_of _ (by decide +kernel)) ggX4_used_X4_bits
theorem dX4_used_0 : decode cX4_used 0 = .ok (.aload_n 0, 1) := by decide +kernel
theorem dX4_used_1 : decode cX4_used 1 = .ok (.iload_n 1, 1) := by decide +kernel
theorem dX4_used_2 : decode cX4_used 2 = .ok (.invokevirtual 112, 3) := by decide +kernel
theorem dX4_used_5 : decode cX4_used 5 = .ok (.ifCond .eq 7, 3) := by decide +kernel
theorem dX4_used_8 : decode cX4_used 8 = .ok (.iconst 0, 1) := by decide +kernel
theorem dX4_used_9 : decode cX4_used 9 = .ok (.goto 12, 3) := by decide +kernel
theorem dX4_used_12 : decode cX4_used 12 = .ok (.aload_n 0, 1) := by decide +kernel
theorem dX4_used_13 : decode cX4_used 13 = .ok (.getfield 35, 3) := by decide +kernel
theorem dX4_used_16 : decode cX4_used 16 = .ok (.iload_n 1, 1) := by decide +kernel
theorem dX4_used_17 : decode cX4_used 17 = .ok (.iaload, 1) := by decide +kernel
theorem dX4_used_18 : decode cX4_used 18 = .ok (.invokestatic 96, 3) := by decide +kernel
theorem dX4_used_21 : decode cX4_used 21 = .ok (.ireturn, 1) := by decide +kernel
theorem dX4_greatest_0 : decode cX4_greatest 0 = .ok (.iconst (-1), 1) := by decide +kernel
theorem dX4_greatest_1 : decode cX4_greatest 1 = .ok (.istore_n 3, 1) := by decide +kernel
theorem dX4_greatest_2 : decode cX4_greatest 2 = .ok (.iconst 0, 1) := by decide +kernel
theorem dX4_greatest_3 : decode cX4_greatest 3 = .ok (.istore 4, 2) := by decide +kernel
theorem dX4_greatest_5 : decode cX4_greatest 5 = .ok (.iload 4, 2) := by decide +kernel
theorem dX4_greatest_7 : decode cX4_greatest 7 = .ok (.aload_n 0, 1) := by decide +kernel
theorem dX4_greatest_8 : decode cX4_greatest 8 = .ok (.getfield 80, 3) := by decide +kernel
theorem dX4_greatest_11 : decode cX4_greatest 11 = .ok (.if_icmp .ge 33, 3) := by decide +kernel
theorem dX4_greatest_14 : decode cX4_greatest 14 = .ok (.aload_n 0, 1) := by decide +kernel
theorem dX4_greatest_15 : decode cX4_greatest 15 = .ok (.getfield 29, 3) := by decide +kernel
theorem dX4_greatest_18 : decode cX4_greatest 18 = .ok (.iload 4, 2) := by decide +kernel
theorem dX4_greatest_20 : decode cX4_greatest 20 = .ok (.iaload, 1) := by decide +kernel
theorem dX4_greatest_21 : decode cX4_greatest 21 = .ok (.iload_n 1, 1) := by decide +kernel
theorem dX4_greatest_22 : decode cX4_greatest 22 = .ok (.if_icmp .ne 16, 3) := by decide +kernel
theorem dX4_greatest_25 : decode cX4_greatest 25 = .ok (.iload_n 2, 1) := by decide +kernel
theorem dX4_greatest_26 : decode cX4_greatest 26 = .ok (.iload 4, 2) := by decide +kernel
theorem dX4_greatest_28 : decode cX4_greatest 28 = .ok (.ishr, 1) := by decide +kernel
theorem dX4_greatest_29 : decode cX4_greatest 29 = .ok (.iconst 1, 1) := by decide +kernel
theorem dX4_greatest_30 : decode cX4_greatest 30 = .ok (.iand, 1) := by decide +kernel
theorem dX4_greatest_31 : decode cX4_greatest 31 = .ok (.iconst 1, 1) := by decide +kernel
theorem dX4_greatest_32 : decode cX4_greatest 32 = .ok (.if_icmp .ne 6, 3) := by decide +kernel
theorem dX4_greatest_35 : decode cX4_greatest 35 = .ok (.iload 4, 2) := by decide +kernel
theorem dX4_greatest_37 : decode cX4_greatest 37 = .ok (.istore_n 3, 1) := by decide +kernel
theorem dX4_greatest_38 : decode cX4_greatest 38 = .ok (.iinc 4 1, 3) := by decide +kernel
theorem dX4_greatest_41 : decode cX4_greatest 41 = .ok (.goto (-36), 3) := by decide +kernel
theorem dX4_greatest_44 : decode cX4_greatest 44 = .ok (.iload_n 3, 1) := by decide +kernel
theorem dX4_greatest_45 : decode cX4_greatest 45 = .ok (.ireturn, 1) := by decide +kernel
set_option maxRecDepth 20000 in
theorem ggX4_newest_X4_isNoName : GoodIn wsX4_newest wsX4_isNoName := goodIn_r _ [4, 5, 6, 3, 7] (by decide +kernel) (by decide +kernel)
set_option maxRecDepth 20000 in
theorem gX4_newest_X4_isNoName : GoodIn wsX4_newest (va_wsS RX4 103 yX4_isNoName wsX4_isNoName) := goodIn_app (goodIn_of _ (by decide +kernel)) ggX4_newest_X4_isNoName
set_option maxRecDepth 20000 in
theorem ggX4_newest_X4_fails : GoodIn wsX4_newest wsX4_fails := goodIn_r _ [11, 12, 63, 64, 65, 66, 67, 68, 69, 70, 71, 72, 73, 74, 75, 76, 77, 78, 79, 80, 81, 82, 83, 84, 85] (by decide +kernel) (by decide +kernel)
set_option maxRecDepth 20000 in
theorem gX4_newest_X4_fails : GoodIn wsX4_newest (wsV RX4 76 RX4 yX4_fails wsX4_fails) := goodIn_app (goodIn_of _ (by decide +kernel)) ggX4_newest_X4_fails
set_option maxRecDepth 20000 in
theorem ggX4_newest_X4_trusted : GoodIn wsX4_newest wsX4_trusted := goodIn_r _ [16, 17, 18, 19, 3, 20, 21, 22, 23, 24, 25, 26, 27, 28, 29, 30, 31, 32, 33, 34, 35, 36, 37, 38, 39, 40, 41, 42, 43, 44, 45, 46, 47, 48, 5, 6, 7, 63, 64, 65, 66, 67, 68, 69, 70, 71, 72, 73, 74, 75, 76, 77, 78, 79, 80, 81, 82, 83, 84, 85] (by decide +kernel) (by decide +kernel)
set_option maxRecDepth 20000 in
theorem gX4_newest_X4_trusted : GoodIn wsX4_newest (wsV RX4 92 RX4 yX4_trusted wsX4_trusted) := goodIn_app (goodIn_of _ (by decide +kernel)) ggX4_newest_X4_trusted
set_option maxRecDepth 20000 in
theorem ggX4_newest_X4_recalled : GoodIn wsX4_newest wsX4_recalled := goodIn_r _ [52, 21, 53, 54, 55, 3, 56, 57, 58, 63, 64, 65, 66, 67, 68, 69, 70, 71, 72, 73, 74, 75, 76, 77, 78, 79, 80, 81, 82, 83, 84, 85] (by decide +kernel) (by decide +kernel)
set_option maxRecDepth 20000 in
theorem gX4_newest_X4_recalled : GoodIn wsX4_newest (wsV RX4 115 RX4 yX4_recalled wsX4_recalled) := goodIn_app (goodIn_of _ (by decide +kernel)) ggX4_newest_X4_recalled
set_option maxRecDepth 20000 in
theorem ggX4_newest_X4_greatest : GoodIn wsX4_newest wsX4_greatest := goodIn_r _ [62, 21, 27, 63, 64, 65, 66, 67, 68, 69, 70, 71, 72, 73, 74, 75, 76, 77, 78, 79, 80, 81, 82, 83, 84, 85] (by decide +kernel) (by decide +kernel)
set_option maxRecDepth 20000 in
theorem gX4_newest_X4_greatest : GoodIn wsX4_newest (wsV RX4 118 RX4 yX4_greatest wsX4_greatest) := goodIn_app (goodIn_of _ (by decide +kernel)) ggX4_newest_X4_greatest
theorem dX4_newest_0 : decode cX4_newest 0 = .ok (.aload_n 0, 1) := by decide +kernel
theorem dX4_newest_1 : decode cX4_newest 1 = .ok (.iload_n 1, 1) := by decide +kernel
theorem dX4_newest_2 : decode cX4_newest 2 = .ok (.invokestatic 103, 3) := by decide +kernel
theorem dX4_newest_5 : decode cX4_newest 5 = .ok (.ifCond .eq 7, 3) := by decide +kernel
theorem dX4_newest_8 : decode cX4_newest 8 = .ok (.iconst 1, 1) := by decide +kernel
theorem dX4_newest_9 : decode cX4_newest 9 = .ok (.goto 4, 3) := by decide +kernel
theorem dX4_newest_12 : decode cX4_newest 12 = .ok (.iconst 0, 1) := by decide +kernel
theorem dX4_newest_13 : decode cX4_newest 13 = .ok (.invokevirtual 76, 3) := by decide +kernel
theorem dX4_newest_16 : decode cX4_newest 16 = .ok (.ifCond .eq 5, 3) := by decide +kernel
theorem dX4_newest_19 : decode cX4_newest 19 = .ok (.iconst 0, 1) := by decide +kernel
theorem dX4_newest_20 : decode cX4_newest 20 = .ok (.ireturn, 1) := by decide +kernel
theorem dX4_newest_21 : decode cX4_newest 21 = .ok (.aload_n 0, 1) := by decide +kernel
theorem dX4_newest_22 : decode cX4_newest 22 = .ok (.iload_n 1, 1) := by decide +kernel
theorem dX4_newest_23 : decode cX4_newest 23 = .ok (.aload_n 0, 1) := by decide +kernel
theorem dX4_newest_24 : decode cX4_newest 24 = .ok (.invokevirtual 92, 3) := by decide +kernel
theorem dX4_newest_27 : decode cX4_newest 27 = .ok (.aload_n 0, 1) := by decide +kernel
theorem dX4_newest_28 : decode cX4_newest 28 = .ok (.invokevirtual 115, 3) := by decide +kernel
theorem dX4_newest_31 : decode cX4_newest 31 = .ok (.iconst (-1), 1) := by decide +kernel
theorem dX4_newest_32 : decode cX4_newest 32 = .ok (.ixor, 1) := by decide +kernel
theorem dX4_newest_33 : decode cX4_newest 33 = .ok (.iand, 1) := by decide +kernel
theorem dX4_newest_34 : decode cX4_newest 34 = .ok (.invokevirtual 118, 3) := by decide +kernel
theorem dX4_newest_37 : decode cX4_newest 37 = .ok (.istore_n 2, 1) := by decide +kernel
theorem dX4_newest_38 : decode cX4_newest 38 = .ok (.aload_n 0, 1) := by decide +kernel
theorem dX4_newest_39 : decode cX4_newest 39 = .ok (.iload_n 2, 1) := by decide +kernel
theorem dX4_newest_40 : decode cX4_newest 40 = .ok (.ifCond .ge 7, 3) := by decide +kernel
theorem dX4_newest_43 : decode cX4_newest 43 = .ok (.iconst 2, 1) := by decide +kernel
theorem dX4_newest_44 : decode cX4_newest 44 = .ok (.goto 4, 3) := by decide +kernel
theorem dX4_newest_47 : decode cX4_newest 47 = .ok (.iconst 0, 1) := by decide +kernel
theorem dX4_newest_48 : decode cX4_newest 48 = .ok (.invokevirtual 76, 3) := by decide +kernel
theorem dX4_newest_51 : decode cX4_newest 51 = .ok (.ifCond .eq 7, 3) := by decide +kernel
theorem dX4_newest_54 : decode cX4_newest 54 = .ok (.iconst 0, 1) := by decide +kernel
theorem dX4_newest_55 : decode cX4_newest 55 = .ok (.goto 4, 3) := by decide +kernel
theorem dX4_newest_58 : decode cX4_newest 58 = .ok (.iload_n 2, 1) := by decide +kernel
theorem dX4_newest_59 : decode cX4_newest 59 = .ok (.ireturn, 1) := by decide +kernel
set_option maxRecDepth 20000 in
theorem ggX4_attest_X4_in : GoodIn wsX4_attest wsX4_in := goodIn_r _ [7] (by decide +kernel) (by decide +kernel)
set_option maxRecDepth 20000 in
theorem gX4_attest_X4_in : GoodIn wsX4_attest (va_wsS RX4 72 yX4_in wsX4_in) := goodIn_app (goodIn_of _ (by decide +kernel)) ggX4_attest_X4_in
set_option maxRecDepth 20000 in
theorem ggX4_attest_X4_fails : GoodIn wsX4_attest wsX4_fails := goodIn_r _ [11, 12, 30, 31, 32, 33, 34, 35, 36, 37, 38, 39, 40, 41, 42, 43, 44, 45, 46, 47, 48, 49, 50, 51, 52] (by decide +kernel) (by decide +kernel)
set_option maxRecDepth 20000 in
theorem gX4_attest_X4_fails : GoodIn wsX4_attest (wsV RX4 76 RX4 yX4_fails wsX4_fails) := goodIn_app (goodIn_of _ (by decide +kernel)) ggX4_attest_X4_fails
set_option maxRecDepth 20000 in
theorem ggX4_attest_X4_lives : GoodIn wsX4_attest wsX4_lives := goodIn_r _ [16, 17, 18, 19, 20, 4, 5, 6, 7, 30, 31, 32, 33, 34, 35, 36, 37, 38, 39, 40, 41, 42, 43, 44, 45, 46, 47, 48, 49, 50, 51, 52] (by decide +kernel) (by decide +kernel)
set_option maxRecDepth 20000 in
theorem gX4_attest_X4_lives : GoodIn wsX4_attest (wsV RX4 100 RX4 yX4_lives wsX4_lives) := goodIn_app (goodIn_of _ (by decide +kernel)) ggX4_attest_X4_lives
set_option maxRecDepth 20000 in
theorem ggX4_attest_X4_isGone : GoodIn wsX4_attest wsX4_isGone := goodIn_r _ [24, 25, 26, 30, 31, 32, 33, 34, 35, 36, 37, 38, 39, 40, 41, 42, 43, 44, 45, 46, 47, 48, 49, 50, 51, 52] (by decide +kernel) (by decide +kernel)
set_option maxRecDepth 20000 in
theorem gX4_attest_X4_isGone : GoodIn wsX4_attest (wsV RX4 106 RX4 yX4_isGone wsX4_isGone) := goodIn_app (goodIn_of _ (by decide +kernel)) ggX4_attest_X4_isGone
set_option maxRecDepth 20000 in
theorem ggX4_attest_X4_bits : GoodIn wsX4_attest wsX4_bits := goodIn_r _ [29] (by decide +kernel) (by decide +kernel)
set_option maxRecDepth 20000 in
theorem gX4_attest_X4_bits : GoodIn wsX4_attest (va_wsS RX4 96 yX4_bits wsX4_bits) := goodIn_app (goodIn_of _ (by decide +kernel)) ggX4_attest_X4_bits
theorem dX4_attest_0 : decode cX4_attest 0 = .ok (.aload_n 0, 1) := by decide +kernel
theorem dX4_attest_1 : decode cX4_attest 1 = .ok (.iload_n 1, 1) := by decide +kernel
theorem dX4_attest_2 : decode cX4_attest 2 = .ok (.iconst 0, 1) := by decide +kernel
theorem dX4_attest_3 : decode cX4_attest 3 = .ok (.aload_n 0, 1) := by decide +kernel
theorem dX4_attest_4 : decode cX4_attest 4 = .ok (.getfield 80, 3) := by decide +kernel
theorem dX4_attest_7 : decode cX4_attest 7 = .ok (.iconst 1, 1) := by decide +kernel
theorem dX4_attest_8 : decode cX4_attest 8 = .ok (.isub, 1) := by decide +kernel
theorem dX4_attest_9 : decode cX4_attest 9 = .ok (.invokestatic 72, 3) := by decide +kernel
theorem dX4_attest_12 : decode cX4_attest 12 = .ok (.ifCond .eq 17, 3) := by decide +kernel
theorem dX4_attest_15 : decode cX4_attest 15 = .ok (.iload_n 2, 1) := by decide +kernel
theorem dX4_attest_16 : decode cX4_attest 16 = .ok (.iconst 0, 1) := by decide +kernel
theorem dX4_attest_17 : decode cX4_attest 17 = .ok (.aload_n 0, 1) := by decide +kernel
theorem dX4_attest_18 : decode cX4_attest 18 = .ok (.getfield 69, 3) := by decide +kernel
theorem dX4_attest_21 : decode cX4_attest 21 = .ok (.iconst 1, 1) := by decide +kernel
theorem dX4_attest_22 : decode cX4_attest 22 = .ok (.isub, 1) := by decide +kernel
theorem dX4_attest_23 : decode cX4_attest 23 = .ok (.invokestatic 72, 3) := by decide +kernel
theorem dX4_attest_26 : decode cX4_attest 26 = .ok (.ifCond .ne 7, 3) := by decide +kernel
theorem dX4_attest_29 : decode cX4_attest 29 = .ok (.iconst 1, 1) := by decide +kernel
theorem dX4_attest_30 : decode cX4_attest 30 = .ok (.goto 4, 3) := by decide +kernel
theorem dX4_attest_33 : decode cX4_attest 33 = .ok (.iconst 0, 1) := by decide +kernel
theorem dX4_attest_34 : decode cX4_attest 34 = .ok (.invokevirtual 76, 3) := by decide +kernel
theorem dX4_attest_37 : decode cX4_attest 37 = .ok (.ifCond .eq 5, 3) := by decide +kernel
theorem dX4_attest_40 : decode cX4_attest 40 = .ok (.iconst 0, 1) := by decide +kernel
theorem dX4_attest_41 : decode cX4_attest 41 = .ok (.ireturn, 1) := by decide +kernel
theorem dX4_attest_42 : decode cX4_attest 42 = .ok (.aload_n 0, 1) := by decide +kernel
theorem dX4_attest_43 : decode cX4_attest 43 = .ok (.aload_n 0, 1) := by decide +kernel
theorem dX4_attest_44 : decode cX4_attest 44 = .ok (.iload_n 2, 1) := by decide +kernel
theorem dX4_attest_45 : decode cX4_attest 45 = .ok (.invokevirtual 100, 3) := by decide +kernel
theorem dX4_attest_48 : decode cX4_attest 48 = .ok (.ifCond .eq 17, 3) := by decide +kernel
theorem dX4_attest_51 : decode cX4_attest 51 = .ok (.aload_n 0, 1) := by decide +kernel
theorem dX4_attest_52 : decode cX4_attest 52 = .ok (.getfield 41, 3) := by decide +kernel
theorem dX4_attest_55 : decode cX4_attest 55 = .ok (.iload_n 1, 1) := by decide +kernel
theorem dX4_attest_56 : decode cX4_attest 56 = .ok (.iaload, 1) := by decide +kernel
theorem dX4_attest_57 : decode cX4_attest 57 = .ok (.iload_n 2, 1) := by decide +kernel
theorem dX4_attest_58 : decode cX4_attest 58 = .ok (.ishr, 1) := by decide +kernel
theorem dX4_attest_59 : decode cX4_attest 59 = .ok (.iconst 1, 1) := by decide +kernel
theorem dX4_attest_60 : decode cX4_attest 60 = .ok (.iand, 1) := by decide +kernel
theorem dX4_attest_61 : decode cX4_attest 61 = .ok (.iconst 1, 1) := by decide +kernel
theorem dX4_attest_62 : decode cX4_attest 62 = .ok (.if_icmp .ne 7, 3) := by decide +kernel
theorem dX4_attest_65 : decode cX4_attest 65 = .ok (.iconst 2, 1) := by decide +kernel
theorem dX4_attest_66 : decode cX4_attest 66 = .ok (.goto 16, 3) := by decide +kernel
theorem dX4_attest_69 : decode cX4_attest 69 = .ok (.aload_n 0, 1) := by decide +kernel
theorem dX4_attest_70 : decode cX4_attest 70 = .ok (.iload_n 1, 1) := by decide +kernel
theorem dX4_attest_71 : decode cX4_attest 71 = .ok (.invokevirtual 106, 3) := by decide +kernel
theorem dX4_attest_74 : decode cX4_attest 74 = .ok (.ifCond .eq 7, 3) := by decide +kernel
theorem dX4_attest_77 : decode cX4_attest 77 = .ok (.iconst 3, 1) := by decide +kernel
theorem dX4_attest_78 : decode cX4_attest 78 = .ok (.goto 4, 3) := by decide +kernel
theorem dX4_attest_81 : decode cX4_attest 81 = .ok (.iconst 0, 1) := by decide +kernel
theorem dX4_attest_82 : decode cX4_attest 82 = .ok (.invokevirtual 76, 3) := by decide +kernel
theorem dX4_attest_85 : decode cX4_attest 85 = .ok (.ifCond .eq 5, 3) := by decide +kernel
theorem dX4_attest_88 : decode cX4_attest 88 = .ok (.iconst 0, 1) := by decide +kernel
theorem dX4_attest_89 : decode cX4_attest 89 = .ok (.ireturn, 1) := by decide +kernel
theorem dX4_attest_90 : decode cX4_attest 90 = .ok (.aload_n 0, 1) := by decide +kernel
theorem dX4_attest_91 : decode cX4_attest 91 = .ok (.getfield 41, 3) := by decide +kernel
theorem dX4_attest_94 : decode cX4_attest 94 = .ok (.iload_n 1, 1) := by decide +kernel
theorem dX4_attest_95 : decode cX4_attest 95 = .ok (.dup2, 1) := by decide +kernel
theorem dX4_attest_96 : decode cX4_attest 96 = .ok (.iaload, 1) := by decide +kernel
theorem dX4_attest_97 : decode cX4_attest 97 = .ok (.iconst 1, 1) := by decide +kernel
theorem dX4_attest_98 : decode cX4_attest 98 = .ok (.iload_n 2, 1) := by decide +kernel
theorem dX4_attest_99 : decode cX4_attest 99 = .ok (.ishl, 1) := by decide +kernel
theorem dX4_attest_100 : decode cX4_attest 100 = .ok (.ior, 1) := by decide +kernel
theorem dX4_attest_101 : decode cX4_attest 101 = .ok (.iastore, 1) := by decide +kernel
theorem dX4_attest_102 : decode cX4_attest 102 = .ok (.aload_n 0, 1) := by decide +kernel
theorem dX4_attest_103 : decode cX4_attest 103 = .ok (.getfield 41, 3) := by decide +kernel
theorem dX4_attest_106 : decode cX4_attest 106 = .ok (.iload_n 1, 1) := by decide +kernel
theorem dX4_attest_107 : decode cX4_attest 107 = .ok (.iaload, 1) := by decide +kernel
theorem dX4_attest_108 : decode cX4_attest 108 = .ok (.invokestatic 96, 3) := by decide +kernel
theorem dX4_attest_111 : decode cX4_attest 111 = .ok (.ireturn, 1) := by decide +kernel
set_option maxRecDepth 20000 in
theorem ggX4_backs_X4_lives : GoodIn wsX4_backs wsX4_lives := goodIn_r _ [8, 9, 10, 11, 12, 13, 14, 7, 15, 16, 17, 18, 19, 20, 21, 22, 23, 24, 25, 26, 27, 28, 29, 30, 31, 32, 33, 34, 35, 36, 37, 38] (by decide +kernel) (by decide +kernel)
set_option maxRecDepth 20000 in
theorem gX4_backs_X4_lives : GoodIn wsX4_backs (wsV RX4 100 RX4 yX4_lives wsX4_lives) := goodIn_app (goodIn_of _ (by decide +kernel)) ggX4_backs_X4_lives
theorem dX4_backs_0 : decode cX4_backs 0 = .ok (.iconst 0, 1) := by decide +kernel
theorem dX4_backs_1 : decode cX4_backs 1 = .ok (.istore 4, 2) := by decide +kernel
theorem dX4_backs_3 : decode cX4_backs 3 = .ok (.iload 4, 2) := by decide +kernel
theorem dX4_backs_5 : decode cX4_backs 5 = .ok (.aload_n 0, 1) := by decide +kernel
theorem dX4_backs_6 : decode cX4_backs 6 = .ok (.getfield 69, 3) := by decide +kernel
theorem dX4_backs_9 : decode cX4_backs 9 = .ok (.if_icmp .ge 52, 3) := by decide +kernel
theorem dX4_backs_12 : decode cX4_backs 12 = .ok (.iload 4, 2) := by decide +kernel
theorem dX4_backs_14 : decode cX4_backs 14 = .ok (.iload_n 3, 1) := by decide +kernel
theorem dX4_backs_15 : decode cX4_backs 15 = .ok (.if_icmp .eq 40, 3) := by decide +kernel
theorem dX4_backs_18 : decode cX4_backs 18 = .ok (.aload_n 0, 1) := by decide +kernel
theorem dX4_backs_19 : decode cX4_backs 19 = .ok (.getfield 16, 3) := by decide +kernel
theorem dX4_backs_22 : decode cX4_backs 22 = .ok (.iload 4, 2) := by decide +kernel
theorem dX4_backs_24 : decode cX4_backs 24 = .ok (.iaload, 1) := by decide +kernel
theorem dX4_backs_25 : decode cX4_backs 25 = .ok (.iload_n 1, 1) := by decide +kernel
theorem dX4_backs_26 : decode cX4_backs 26 = .ok (.if_icmp .ne 29, 3) := by decide +kernel
theorem dX4_backs_29 : decode cX4_backs 29 = .ok (.aload_n 0, 1) := by decide +kernel
theorem dX4_backs_30 : decode cX4_backs 30 = .ok (.iload 4, 2) := by decide +kernel
theorem dX4_backs_32 : decode cX4_backs 32 = .ok (.invokevirtual 100, 3) := by decide +kernel
theorem dX4_backs_35 : decode cX4_backs 35 = .ok (.ifCond .eq 20, 3) := by decide +kernel
theorem dX4_backs_38 : decode cX4_backs 38 = .ok (.aload_n 0, 1) := by decide +kernel
theorem dX4_backs_39 : decode cX4_backs 39 = .ok (.getfield 41, 3) := by decide +kernel
theorem dX4_backs_42 : decode cX4_backs 42 = .ok (.iload_n 2, 1) := by decide +kernel
theorem dX4_backs_43 : decode cX4_backs 43 = .ok (.iaload, 1) := by decide +kernel
theorem dX4_backs_44 : decode cX4_backs 44 = .ok (.iload 4, 2) := by decide +kernel
theorem dX4_backs_46 : decode cX4_backs 46 = .ok (.ishr, 1) := by decide +kernel
theorem dX4_backs_47 : decode cX4_backs 47 = .ok (.iconst 1, 1) := by decide +kernel
theorem dX4_backs_48 : decode cX4_backs 48 = .ok (.iand, 1) := by decide +kernel
theorem dX4_backs_49 : decode cX4_backs 49 = .ok (.iconst 1, 1) := by decide +kernel
theorem dX4_backs_50 : decode cX4_backs 50 = .ok (.if_icmp .ne 5, 3) := by decide +kernel
theorem dX4_backs_53 : decode cX4_backs 53 = .ok (.iconst 1, 1) := by decide +kernel
theorem dX4_backs_54 : decode cX4_backs 54 = .ok (.ireturn, 1) := by decide +kernel
theorem dX4_backs_55 : decode cX4_backs 55 = .ok (.iinc 4 1, 3) := by decide +kernel
theorem dX4_backs_58 : decode cX4_backs 58 = .ok (.goto (-55), 3) := by decide +kernel
theorem dX4_backs_61 : decode cX4_backs 61 = .ok (.iconst 0, 1) := by decide +kernel
theorem dX4_backs_62 : decode cX4_backs 62 = .ok (.ireturn, 1) := by decide +kernel
set_option maxRecDepth 20000 in
theorem ggX4_vouched_X4_isNoBuild : GoodIn wsX4_vouched wsX4_isNoBuild := goodIn_r _ [5, 6, 7, 8, 4, 9, 10, 11, 12, 13, 14, 30, 31, 32, 33, 34, 35, 36, 37, 38, 39, 40, 41, 42, 43, 44, 45, 46, 47, 48, 49, 50, 51, 52] (by decide +kernel) (by decide +kernel)
set_option maxRecDepth 20000 in
theorem gX4_vouched_X4_isNoBuild : GoodIn wsX4_vouched (wsV RX4 112 RX4 yX4_isNoBuild wsX4_isNoBuild) := goodIn_app (goodIn_of _ (by decide +kernel)) ggX4_vouched_X4_isNoBuild
set_option maxRecDepth 20000 in
theorem ggX4_vouched_X4_in : GoodIn wsX4_vouched wsX4_in := goodIn_r _ [9] (by decide +kernel) (by decide +kernel)
set_option maxRecDepth 20000 in
theorem gX4_vouched_X4_in : GoodIn wsX4_vouched (va_wsS RX4 72 yX4_in wsX4_in) := goodIn_app (goodIn_of _ (by decide +kernel)) ggX4_vouched_X4_in
set_option maxRecDepth 20000 in
theorem ggX4_vouched_X4_fails : GoodIn wsX4_vouched wsX4_fails := goodIn_r _ [13, 14, 30, 31, 32, 33, 34, 35, 36, 37, 38, 39, 40, 41, 42, 43, 44, 45, 46, 47, 48, 49, 50, 51, 52] (by decide +kernel) (by decide +kernel)
set_option maxRecDepth 20000 in
theorem gX4_vouched_X4_fails : GoodIn wsX4_vouched (wsV RX4 76 RX4 yX4_fails wsX4_fails) := goodIn_app (goodIn_of _ (by decide +kernel)) ggX4_vouched_X4_fails
set_option maxRecDepth 20000 in
theorem ggX4_vouched_X4_backs : GoodIn wsX4_vouched wsX4_backs := goodIn_r _ [18, 19, 20, 21, 22, 23, 24, 4, 25, 26, 27, 28, 29, 7, 8, 9, 30, 31, 32, 33, 34, 35, 36, 37, 38, 39, 40, 41, 42, 43, 44, 45, 46, 47, 48, 49, 50, 51, 52] (by decide +kernel) (by decide +kernel)
set_option maxRecDepth 20000 in
theorem gX4_vouched_X4_backs : GoodIn wsX4_vouched (wsV RX4 122 RX4 yX4_backs wsX4_backs) := goodIn_app (goodIn_of _ (by decide +kernel)) ggX4_vouched_X4_backs
theorem dX4_vouched_0 : decode cX4_vouched 0 = .ok (.aload_n 0, 1) := by decide +kernel
theorem dX4_vouched_1 : decode cX4_vouched 1 = .ok (.iload_n 1, 1) := by decide +kernel
theorem dX4_vouched_2 : decode cX4_vouched 2 = .ok (.invokevirtual 112, 3) := by decide +kernel
theorem dX4_vouched_5 : decode cX4_vouched 5 = .ok (.ifCond .ne 38, 3) := by decide +kernel
theorem dX4_vouched_8 : decode cX4_vouched 8 = .ok (.aload_n 0, 1) := by decide +kernel
theorem dX4_vouched_9 : decode cX4_vouched 9 = .ok (.iload_n 2, 1) := by decide +kernel
theorem dX4_vouched_10 : decode cX4_vouched 10 = .ok (.iconst 0, 1) := by decide +kernel
theorem dX4_vouched_11 : decode cX4_vouched 11 = .ok (.iconst 3, 1) := by decide +kernel
theorem dX4_vouched_12 : decode cX4_vouched 12 = .ok (.invokestatic 72, 3) := by decide +kernel
theorem dX4_vouched_15 : decode cX4_vouched 15 = .ok (.ifCond .eq 7, 3) := by decide +kernel
theorem dX4_vouched_18 : decode cX4_vouched 18 = .ok (.iconst 0, 1) := by decide +kernel
theorem dX4_vouched_19 : decode cX4_vouched 19 = .ok (.goto 4, 3) := by decide +kernel
theorem dX4_vouched_22 : decode cX4_vouched 22 = .ok (.iconst 2, 1) := by decide +kernel
theorem dX4_vouched_23 : decode cX4_vouched 23 = .ok (.invokevirtual 76, 3) := by decide +kernel
theorem dX4_vouched_26 : decode cX4_vouched 26 = .ok (.ifCond .ne 17, 3) := by decide +kernel
theorem dX4_vouched_29 : decode cX4_vouched 29 = .ok (.aload_n 0, 1) := by decide +kernel
theorem dX4_vouched_30 : decode cX4_vouched 30 = .ok (.iload_n 2, 1) := by decide +kernel
theorem dX4_vouched_31 : decode cX4_vouched 31 = .ok (.iload_n 1, 1) := by decide +kernel
theorem dX4_vouched_32 : decode cX4_vouched 32 = .ok (.iconst (-1), 1) := by decide +kernel
theorem dX4_vouched_33 : decode cX4_vouched 33 = .ok (.invokevirtual 122, 3) := by decide +kernel
theorem dX4_vouched_36 : decode cX4_vouched 36 = .ok (.ifCond .eq 7, 3) := by decide +kernel
theorem dX4_vouched_39 : decode cX4_vouched 39 = .ok (.iconst 1, 1) := by decide +kernel
theorem dX4_vouched_40 : decode cX4_vouched 40 = .ok (.goto 4, 3) := by decide +kernel
theorem dX4_vouched_43 : decode cX4_vouched 43 = .ok (.iconst 0, 1) := by decide +kernel
theorem dX4_vouched_44 : decode cX4_vouched 44 = .ok (.ireturn, 1) := by decide +kernel
set_option maxRecDepth 20000 in
theorem ggX4_vouches_X4_vouched : GoodIn wsX4_vouches wsX4_vouched := goodIn_r _ [5, 6, 7, 8, 4, 9, 10, 11, 12, 13, 14, 15, 16, 17, 18, 19, 20, 21, 22, 23, 24, 25, 26, 27, 28, 29, 30, 31, 32, 33, 34, 35, 36, 37, 38, 39, 40, 41, 42, 43, 44, 45, 46, 47, 48, 49, 50, 51, 52, 53, 54, 55, 56] (by decide +kernel) (by decide +kernel)
set_option maxRecDepth 20000 in
theorem gX4_vouches_X4_vouched : GoodIn wsX4_vouches (wsV RX4 125 RX4 yX4_vouched wsX4_vouched) := goodIn_app (goodIn_of _ (by decide +kernel)) ggX4_vouches_X4_vouched
theorem dX4_vouches_0 : decode cX4_vouches 0 = .ok (.aload_n 0, 1) := by decide +kernel
theorem dX4_vouches_1 : decode cX4_vouches 1 = .ok (.iload_n 1, 1) := by decide +kernel
theorem dX4_vouches_2 : decode cX4_vouches 2 = .ok (.iload_n 2, 1) := by decide +kernel
theorem dX4_vouches_3 : decode cX4_vouches 3 = .ok (.invokevirtual 125, 3) := by decide +kernel
theorem dX4_vouches_6 : decode cX4_vouches 6 = .ok (.ireturn, 1) := by decide +kernel
set_option maxRecDepth 20000 in
theorem ggX4_vouchesByList_X4_vouched : GoodIn wsX4_vouchesByList wsX4_vouched := goodIn_r _ [5, 6, 7, 8, 4, 9, 10, 11, 12, 13, 14, 15, 16, 17, 18, 19, 20, 21, 22, 23, 24, 25, 26, 27, 28, 29, 30, 31, 32, 33, 34, 35, 36, 37, 38, 39, 40, 41, 42, 43, 44, 45, 46, 47, 48, 49, 50, 51, 52, 53, 54, 55, 56] (by decide +kernel) (by decide +kernel)
set_option maxRecDepth 20000 in
theorem gX4_vouchesByList_X4_vouched : GoodIn wsX4_vouchesByList (wsV RX4 125 RX4 yX4_vouched wsX4_vouched) := goodIn_app (goodIn_of _ (by decide +kernel)) ggX4_vouchesByList_X4_vouched
theorem dX4_vouchesByList_0 : decode cX4_vouchesByList 0 = .ok (.aload_n 0, 1) := by decide +kernel
theorem dX4_vouchesByList_1 : decode cX4_vouchesByList 1 = .ok (.iload_n 1, 1) := by decide +kernel
theorem dX4_vouchesByList_2 : decode cX4_vouchesByList 2 = .ok (.iload_n 2, 1) := by decide +kernel
theorem dX4_vouchesByList_3 : decode cX4_vouchesByList 3 = .ok (.invokevirtual 125, 3) := by decide +kernel
theorem dX4_vouchesByList_6 : decode cX4_vouchesByList 6 = .ok (.ireturn, 1) := by decide +kernel
set_option maxRecDepth 20000 in
theorem ggX4_scoreOf_X4_backs : GoodIn wsX4_scoreOf wsX4_backs := goodIn_r _ [7, 8, 9, 10, 11, 12, 13, 6, 14, 15, 16, 17, 18, 19, 20, 21, 22, 23, 24, 25, 26, 27, 28, 29, 30, 31, 32, 33, 34, 35, 36, 37, 38, 39, 40, 41, 42, 43, 44] (by decide +kernel) (by decide +kernel)
set_option maxRecDepth 20000 in
theorem gX4_scoreOf_X4_backs : GoodIn wsX4_scoreOf (wsV RX4 122 RX4 yX4_backs wsX4_backs) := goodIn_app (goodIn_of _ (by decide +kernel)) ggX4_scoreOf_X4_backs
theorem dX4_scoreOf_0 : decode cX4_scoreOf 0 = .ok (.fconst 0, 1) := by decide +kernel
theorem dX4_scoreOf_1 : decode cX4_scoreOf 1 = .ok (.fstore_n 3, 1) := by decide +kernel
theorem dX4_scoreOf_2 : decode cX4_scoreOf 2 = .ok (.iconst 0, 1) := by decide +kernel
theorem dX4_scoreOf_3 : decode cX4_scoreOf 3 = .ok (.istore 4, 2) := by decide +kernel
theorem dX4_scoreOf_5 : decode cX4_scoreOf 5 = .ok (.iload 4, 2) := by decide +kernel
theorem dX4_scoreOf_7 : decode cX4_scoreOf 7 = .ok (.iconst 4, 1) := by decide +kernel
theorem dX4_scoreOf_8 : decode cX4_scoreOf 8 = .ok (.if_icmp .ge 34, 3) := by decide +kernel
theorem dX4_scoreOf_11 : decode cX4_scoreOf 11 = .ok (.aload_n 0, 1) := by decide +kernel
theorem dX4_scoreOf_12 : decode cX4_scoreOf 12 = .ok (.iload 4, 2) := by decide +kernel
theorem dX4_scoreOf_14 : decode cX4_scoreOf 14 = .ok (.iload_n 1, 1) := by decide +kernel
theorem dX4_scoreOf_15 : decode cX4_scoreOf 15 = .ok (.iload_n 2, 1) := by decide +kernel
theorem dX4_scoreOf_16 : decode cX4_scoreOf 16 = .ok (.invokevirtual 122, 3) := by decide +kernel
theorem dX4_scoreOf_19 : decode cX4_scoreOf 19 = .ok (.ifCond .eq 17, 3) := by decide +kernel
theorem dX4_scoreOf_22 : decode cX4_scoreOf 22 = .ok (.fload_n 3, 1) := by decide +kernel
theorem dX4_scoreOf_23 : decode cX4_scoreOf 23 = .ok (.aload_n 0, 1) := by decide +kernel
theorem dX4_scoreOf_24 : decode cX4_scoreOf 24 = .ok (.getfield 7, 3) := by decide +kernel
theorem dX4_scoreOf_27 : decode cX4_scoreOf 27 = .ok (.iload 4, 2) := by decide +kernel
theorem dX4_scoreOf_29 : decode cX4_scoreOf 29 = .ok (.iaload, 1) := by decide +kernel
theorem dX4_scoreOf_30 : decode cX4_scoreOf 30 = .ok (.i2f, 1) := by decide +kernel
theorem dX4_scoreOf_31 : decode cX4_scoreOf 31 = .ok (.ldc 129, 2) := by decide +kernel
theorem dX4_scoreOf_33 : decode cX4_scoreOf 33 = .ok (.fdiv, 1) := by decide +kernel
theorem dX4_scoreOf_34 : decode cX4_scoreOf 34 = .ok (.fadd, 1) := by decide +kernel
theorem dX4_scoreOf_35 : decode cX4_scoreOf 35 = .ok (.fstore_n 3, 1) := by decide +kernel
theorem dX4_scoreOf_36 : decode cX4_scoreOf 36 = .ok (.iinc 4 1, 3) := by decide +kernel
theorem dX4_scoreOf_39 : decode cX4_scoreOf 39 = .ok (.goto (-34), 3) := by decide +kernel
theorem dX4_scoreOf_42 : decode cX4_scoreOf 42 = .ok (.fload_n 3, 1) := by decide +kernel
theorem dX4_scoreOf_43 : decode cX4_scoreOf 43 = .ok (.freturn, 1) := by decide +kernel
set_option maxRecDepth 20000 in
theorem ggX4_isEnough_X4_scoreOf : GoodIn wsX4_isEnough wsX4_scoreOf := goodIn_r _ [8, 9, 3, 10, 11, 12, 7, 13, 14, 15, 16, 17, 18, 19, 20, 21, 22, 23, 24, 25, 26, 27, 28, 29, 30, 31, 32, 33, 34, 35, 36, 37, 38, 39, 40, 41, 42, 43, 44, 45, 46, 47, 48, 49, 50] (by decide +kernel) (by decide +kernel)
set_option maxRecDepth 20000 in
theorem gX4_isEnough_X4_scoreOf : GoodIn wsX4_isEnough (wsV RX4 130 RX4 yX4_scoreOf wsX4_scoreOf) := goodIn_app (goodIn_of _ (by decide +kernel)) ggX4_isEnough_X4_scoreOf
theorem dX4_isEnough_0 : decode cX4_isEnough 0 = .ok (.aload_n 0, 1) := by decide +kernel
theorem dX4_isEnough_1 : decode cX4_isEnough 1 = .ok (.iload_n 1, 1) := by decide +kernel
theorem dX4_isEnough_2 : decode cX4_isEnough 2 = .ok (.iload_n 2, 1) := by decide +kernel
theorem dX4_isEnough_3 : decode cX4_isEnough 3 = .ok (.invokevirtual 130, 3) := by decide +kernel
theorem dX4_isEnough_6 : decode cX4_isEnough 6 = .ok (.aload_n 0, 1) := by decide +kernel
theorem dX4_isEnough_7 : decode cX4_isEnough 7 = .ok (.getfield 13, 3) := by decide +kernel
theorem dX4_isEnough_10 : decode cX4_isEnough 10 = .ok (.aload_n 0, 1) := by decide +kernel
theorem dX4_isEnough_11 : decode cX4_isEnough 11 = .ok (.getfield 29, 3) := by decide +kernel
theorem dX4_isEnough_14 : decode cX4_isEnough 14 = .ok (.iload_n 1, 1) := by decide +kernel
theorem dX4_isEnough_15 : decode cX4_isEnough 15 = .ok (.iaload, 1) := by decide +kernel
theorem dX4_isEnough_16 : decode cX4_isEnough 16 = .ok (.iaload, 1) := by decide +kernel
theorem dX4_isEnough_17 : decode cX4_isEnough 17 = .ok (.i2f, 1) := by decide +kernel
theorem dX4_isEnough_18 : decode cX4_isEnough 18 = .ok (.ldc 129, 2) := by decide +kernel
theorem dX4_isEnough_20 : decode cX4_isEnough 20 = .ok (.fdiv, 1) := by decide +kernel
theorem dX4_isEnough_21 : decode cX4_isEnough 21 = .ok (.fcmp .l, 1) := by decide +kernel
theorem dX4_isEnough_22 : decode cX4_isEnough 22 = .ok (.ifCond .lt 7, 3) := by decide +kernel
theorem dX4_isEnough_25 : decode cX4_isEnough 25 = .ok (.iconst 1, 1) := by decide +kernel
theorem dX4_isEnough_26 : decode cX4_isEnough 26 = .ok (.goto 4, 3) := by decide +kernel
theorem dX4_isEnough_29 : decode cX4_isEnough 29 = .ok (.iconst 0, 1) := by decide +kernel
theorem dX4_isEnough_30 : decode cX4_isEnough 30 = .ok (.ireturn, 1) := by decide +kernel
set_option maxRecDepth 20000 in
theorem ggX4_trustedWithout_X4_isEnough : GoodIn wsX4_trustedWithout wsX4_isEnough := goodIn_r _ [6, 7, 8, 9, 10, 11, 12, 5, 13, 14, 15, 16, 17, 18, 19, 20, 21, 22, 23, 24, 25, 26, 27, 28, 29, 30, 31, 32, 33, 34, 35, 36, 37, 38, 39, 40, 41, 42, 43, 44, 45, 46, 47, 48, 49, 50, 51, 52, 53, 54, 55] (by decide +kernel) (by decide +kernel)
set_option maxRecDepth 20000 in
theorem gX4_trustedWithout_X4_isEnough : GoodIn wsX4_trustedWithout (wsV RX4 134 RX4 yX4_isEnough wsX4_isEnough) := goodIn_app (goodIn_of _ (by decide +kernel)) ggX4_trustedWithout_X4_isEnough
theorem dX4_trustedWithout_0 : decode cX4_trustedWithout 0 = .ok (.iconst 0, 1) := by decide +kernel
theorem dX4_trustedWithout_1 : decode cX4_trustedWithout 1 = .ok (.istore_n 2, 1) := by decide +kernel
theorem dX4_trustedWithout_2 : decode cX4_trustedWithout 2 = .ok (.iconst 0, 1) := by decide +kernel
theorem dX4_trustedWithout_3 : decode cX4_trustedWithout 3 = .ok (.istore_n 3, 1) := by decide +kernel
theorem dX4_trustedWithout_4 : decode cX4_trustedWithout 4 = .ok (.iload_n 3, 1) := by decide +kernel
theorem dX4_trustedWithout_5 : decode cX4_trustedWithout 5 = .ok (.aload_n 0, 1) := by decide +kernel
theorem dX4_trustedWithout_6 : decode cX4_trustedWithout 6 = .ok (.getfield 80, 3) := by decide +kernel
theorem dX4_trustedWithout_9 : decode cX4_trustedWithout 9 = .ok (.if_icmp .ge 24, 3) := by decide +kernel
theorem dX4_trustedWithout_12 : decode cX4_trustedWithout 12 = .ok (.aload_n 0, 1) := by decide +kernel
theorem dX4_trustedWithout_13 : decode cX4_trustedWithout 13 = .ok (.iload_n 3, 1) := by decide +kernel
theorem dX4_trustedWithout_14 : decode cX4_trustedWithout 14 = .ok (.iload_n 1, 1) := by decide +kernel
theorem dX4_trustedWithout_15 : decode cX4_trustedWithout 15 = .ok (.invokevirtual 134, 3) := by decide +kernel
theorem dX4_trustedWithout_18 : decode cX4_trustedWithout 18 = .ok (.ifCond .eq 9, 3) := by decide +kernel
theorem dX4_trustedWithout_21 : decode cX4_trustedWithout 21 = .ok (.iload_n 2, 1) := by decide +kernel
theorem dX4_trustedWithout_22 : decode cX4_trustedWithout 22 = .ok (.iconst 1, 1) := by decide +kernel
theorem dX4_trustedWithout_23 : decode cX4_trustedWithout 23 = .ok (.iload_n 3, 1) := by decide +kernel
theorem dX4_trustedWithout_24 : decode cX4_trustedWithout 24 = .ok (.ishl, 1) := by decide +kernel
theorem dX4_trustedWithout_25 : decode cX4_trustedWithout 25 = .ok (.ior, 1) := by decide +kernel
theorem dX4_trustedWithout_26 : decode cX4_trustedWithout 26 = .ok (.istore_n 2, 1) := by decide +kernel
theorem dX4_trustedWithout_27 : decode cX4_trustedWithout 27 = .ok (.iinc 3 1, 3) := by decide +kernel
theorem dX4_trustedWithout_30 : decode cX4_trustedWithout 30 = .ok (.goto (-26), 3) := by decide +kernel
theorem dX4_trustedWithout_33 : decode cX4_trustedWithout 33 = .ok (.iload_n 2, 1) := by decide +kernel
theorem dX4_trustedWithout_34 : decode cX4_trustedWithout 34 = .ok (.ireturn, 1) := by decide +kernel
set_option maxRecDepth 20000 in
theorem ggX4_trusted_X4_trustedWithout : GoodIn wsX4_trusted wsX4_trustedWithout := goodIn_r _ [5, 6, 7, 8, 9, 4, 10, 11, 12, 13, 14, 15, 16, 17, 18, 19, 20, 21, 22, 23, 24, 25, 26, 27, 28, 29, 30, 31, 32, 33, 34, 35, 36, 37, 38, 39, 40, 41, 42, 43, 44, 45, 46, 47, 48, 49, 50, 51, 52, 53, 54, 55, 56, 57, 58, 59] (by decide +kernel) (by decide +kernel)
set_option maxRecDepth 20000 in
theorem gX4_trusted_X4_trustedWithout : GoodIn wsX4_trusted (wsV RX4 137 RX4 yX4_trustedWithout wsX4_trustedWithout) := goodIn_app (goodIn_of _ (by decide +kernel)) ggX4_trusted_X4_trustedWithout
theorem dX4_trusted_0 : decode cX4_trusted 0 = .ok (.aload_n 0, 1) := by decide +kernel
theorem dX4_trusted_1 : decode cX4_trusted 1 = .ok (.iconst (-1), 1) := by decide +kernel
theorem dX4_trusted_2 : decode cX4_trusted 2 = .ok (.invokevirtual 137, 3) := by decide +kernel
theorem dX4_trusted_5 : decode cX4_trusted 5 = .ok (.ireturn, 1) := by decide +kernel
set_option maxRecDepth 20000 in
theorem ggX4_score_X4_isNoBuild : GoodIn wsX4_score wsX4_isNoBuild := goodIn_r _ [5, 6, 7, 8, 4, 9, 10, 11, 12, 13, 14, 36, 37, 38, 39, 40, 41, 42, 43, 44, 45, 46, 47, 48, 49, 50, 51, 52, 53, 54, 55, 56, 57, 58] (by decide +kernel) (by decide +kernel)
set_option maxRecDepth 20000 in
theorem gX4_score_X4_isNoBuild : GoodIn wsX4_score (wsV RX4 112 RX4 yX4_isNoBuild wsX4_isNoBuild) := goodIn_app (goodIn_of _ (by decide +kernel)) ggX4_score_X4_isNoBuild
set_option maxRecDepth 20000 in
theorem ggX4_score_X4_scoreOf : GoodIn wsX4_score wsX4_scoreOf := goodIn_r _ [18, 19, 20, 21, 22, 23, 4, 24, 25, 26, 27, 28, 29, 30, 31, 32, 33, 34, 35, 7, 8, 9, 36, 37, 38, 39, 40, 41, 42, 43, 44, 45, 46, 47, 48, 49, 50, 51, 52, 53, 54, 55, 56, 57, 58] (by decide +kernel) (by decide +kernel)
set_option maxRecDepth 20000 in
theorem gX4_score_X4_scoreOf : GoodIn wsX4_score (wsV RX4 130 RX4 yX4_scoreOf wsX4_scoreOf) := goodIn_app (goodIn_of _ (by decide +kernel)) ggX4_score_X4_scoreOf
theorem dX4_score_0 : decode cX4_score 0 = .ok (.aload_n 0, 1) := by decide +kernel
theorem dX4_score_1 : decode cX4_score 1 = .ok (.iload_n 1, 1) := by decide +kernel
theorem dX4_score_2 : decode cX4_score 2 = .ok (.invokevirtual 112, 3) := by decide +kernel
theorem dX4_score_5 : decode cX4_score 5 = .ok (.ifCond .eq 7, 3) := by decide +kernel
theorem dX4_score_8 : decode cX4_score 8 = .ok (.fconst 0, 1) := by decide +kernel
theorem dX4_score_9 : decode cX4_score 9 = .ok (.goto 9, 3) := by decide +kernel
theorem dX4_score_12 : decode cX4_score 12 = .ok (.aload_n 0, 1) := by decide +kernel
theorem dX4_score_13 : decode cX4_score 13 = .ok (.iload_n 1, 1) := by decide +kernel
theorem dX4_score_14 : decode cX4_score 14 = .ok (.iconst (-1), 1) := by decide +kernel
theorem dX4_score_15 : decode cX4_score 15 = .ok (.invokevirtual 130, 3) := by decide +kernel
theorem dX4_score_18 : decode cX4_score 18 = .ok (.freturn, 1) := by decide +kernel
set_option maxRecDepth 20000 in
theorem ggX4_scoreBits_X4_isNoBuild : GoodIn wsX4_scoreBits wsX4_isNoBuild := goodIn_r _ [5, 6, 7, 8, 4, 9, 10, 11, 12, 13, 14, 48, 49, 50, 51, 52, 53, 54, 55, 56, 57, 58, 59, 60, 61, 62, 63, 64, 65, 66, 67, 68, 69, 70] (by decide +kernel) (by decide +kernel)
set_option maxRecDepth 20000 in
theorem gX4_scoreBits_X4_isNoBuild : GoodIn wsX4_scoreBits (wsV RX4 112 RX4 yX4_isNoBuild wsX4_isNoBuild) := goodIn_app (goodIn_of _ (by decide +kernel)) ggX4_scoreBits_X4_isNoBuild
set_option maxRecDepth 20000 in
theorem ggX4_scoreBits_X4_scoreOf : GoodIn wsX4_scoreBits wsX4_scoreOf := goodIn_r _ [18, 19, 20, 21, 22, 23, 4, 24, 25, 26, 27, 28, 29, 30, 31, 32, 33, 34, 35, 7, 8, 9, 48, 49, 50, 51, 52, 53, 54, 55, 56, 57, 58, 59, 60, 61, 62, 63, 64, 65, 66, 67, 68, 69, 70] (by decide +kernel) (by decide +kernel)
set_option maxRecDepth 20000 in
theorem gX4_scoreBits_X4_scoreOf : GoodIn wsX4_scoreBits (wsV RX4 130 RX4 yX4_scoreOf wsX4_scoreOf) := goodIn_app (goodIn_of _ (by decide +kernel)) ggX4_scoreBits_X4_scoreOf
set_option maxRecDepth 20000 in
theorem ggX4_scoreBits_Jxf58ca_floatToIntBits_5c35a : GoodIn wsX4_scoreBits wsJxf58ca_floatToIntBits_5c35a := goodIn_r _ [39, 40, 41, 42, 43, 44, 45, 46, 38, 47] (by decide +kernel) (by decide +kernel)
set_option maxRecDepth 20000 in
theorem gX4_scoreBits_Jxf58ca_floatToIntBits_5c35a : GoodIn wsX4_scoreBits (va_wsS RX4 140 yJxf58ca_floatToIntBits_5c35a wsJxf58ca_floatToIntBits_5c35a) := goodIn_app (goodIn_of _ (by decide +kernel)) ggX4_scoreBits_Jxf58ca_floatToIntBits_5c35a
theorem dX4_scoreBits_0 : decode cX4_scoreBits 0 = .ok (.aload_n 0, 1) := by decide +kernel
theorem dX4_scoreBits_1 : decode cX4_scoreBits 1 = .ok (.iload_n 1, 1) := by decide +kernel
theorem dX4_scoreBits_2 : decode cX4_scoreBits 2 = .ok (.invokevirtual 112, 3) := by decide +kernel
theorem dX4_scoreBits_5 : decode cX4_scoreBits 5 = .ok (.ifCond .eq 7, 3) := by decide +kernel
theorem dX4_scoreBits_8 : decode cX4_scoreBits 8 = .ok (.iconst 0, 1) := by decide +kernel
theorem dX4_scoreBits_9 : decode cX4_scoreBits 9 = .ok (.goto 12, 3) := by decide +kernel
theorem dX4_scoreBits_12 : decode cX4_scoreBits 12 = .ok (.aload_n 0, 1) := by decide +kernel
theorem dX4_scoreBits_13 : decode cX4_scoreBits 13 = .ok (.iload_n 1, 1) := by decide +kernel
theorem dX4_scoreBits_14 : decode cX4_scoreBits 14 = .ok (.iconst (-1), 1) := by decide +kernel
theorem dX4_scoreBits_15 : decode cX4_scoreBits 15 = .ok (.invokevirtual 130, 3) := by decide +kernel
theorem dX4_scoreBits_18 : decode cX4_scoreBits 18 = .ok (.invokestatic 140, 3) := by decide +kernel
theorem dX4_scoreBits_21 : decode cX4_scoreBits 21 = .ok (.ireturn, 1) := by decide +kernel
set_option maxRecDepth 20000 in
theorem ggX4_isTrusted_X4_isNoBuild : GoodIn wsX4_isTrusted wsX4_isNoBuild := goodIn_r _ [5, 6, 7, 8, 4, 9, 10, 11, 12, 13, 14, 42, 43, 44, 45, 46, 47, 48, 49, 50, 51, 52, 53, 54, 55, 56, 57, 58, 59, 60, 61, 62, 63, 64] (by decide +kernel) (by decide +kernel)
set_option maxRecDepth 20000 in
theorem gX4_isTrusted_X4_isNoBuild : GoodIn wsX4_isTrusted (wsV RX4 112 RX4 yX4_isNoBuild wsX4_isNoBuild) := goodIn_app (goodIn_of _ (by decide +kernel)) ggX4_isTrusted_X4_isNoBuild
set_option maxRecDepth 20000 in
theorem ggX4_isTrusted_X4_isEnough : GoodIn wsX4_isTrusted wsX4_isEnough := goodIn_r _ [18, 19, 20, 21, 22, 23, 24, 4, 25, 26, 27, 28, 29, 30, 31, 32, 33, 34, 35, 36, 37, 38, 39, 40, 41, 7, 8, 9, 42, 43, 44, 45, 46, 47, 48, 49, 50, 51, 52, 53, 54, 55, 56, 57, 58, 59, 60, 61, 62, 63, 64] (by decide +kernel) (by decide +kernel)
set_option maxRecDepth 20000 in
theorem gX4_isTrusted_X4_isEnough : GoodIn wsX4_isTrusted (wsV RX4 134 RX4 yX4_isEnough wsX4_isEnough) := goodIn_app (goodIn_of _ (by decide +kernel)) ggX4_isTrusted_X4_isEnough
theorem dX4_isTrusted_0 : decode cX4_isTrusted 0 = .ok (.aload_n 0, 1) := by decide +kernel
theorem dX4_isTrusted_1 : decode cX4_isTrusted 1 = .ok (.iload_n 1, 1) := by decide +kernel
theorem dX4_isTrusted_2 : decode cX4_isTrusted 2 = .ok (.invokevirtual 112, 3) := by decide +kernel
theorem dX4_isTrusted_5 : decode cX4_isTrusted 5 = .ok (.ifCond .ne 16, 3) := by decide +kernel
theorem dX4_isTrusted_8 : decode cX4_isTrusted 8 = .ok (.aload_n 0, 1) := by decide +kernel
theorem dX4_isTrusted_9 : decode cX4_isTrusted 9 = .ok (.iload_n 1, 1) := by decide +kernel
theorem dX4_isTrusted_10 : decode cX4_isTrusted 10 = .ok (.iconst (-1), 1) := by decide +kernel
theorem dX4_isTrusted_11 : decode cX4_isTrusted 11 = .ok (.invokevirtual 134, 3) := by decide +kernel
theorem dX4_isTrusted_14 : decode cX4_isTrusted 14 = .ok (.ifCond .eq 7, 3) := by decide +kernel
theorem dX4_isTrusted_17 : decode cX4_isTrusted 17 = .ok (.iconst 1, 1) := by decide +kernel
theorem dX4_isTrusted_18 : decode cX4_isTrusted 18 = .ok (.goto 4, 3) := by decide +kernel
theorem dX4_isTrusted_21 : decode cX4_isTrusted 21 = .ok (.iconst 0, 1) := by decide +kernel
theorem dX4_isTrusted_22 : decode cX4_isTrusted 22 = .ok (.ireturn, 1) := by decide +kernel
set_option maxRecDepth 20000 in
theorem ggX4_hangsOnKey_X4_isNoKey : GoodIn wsX4_hangsOnKey wsX4_isNoKey := goodIn_r _ [5, 6, 7, 8, 4, 9, 10, 11, 12, 13, 14, 53, 54, 55, 56, 57, 58, 59, 60, 61, 62, 63, 64, 65, 66, 67, 68, 69, 70, 71, 72, 73, 74, 75] (by decide +kernel) (by decide +kernel)
set_option maxRecDepth 20000 in
theorem gX4_hangsOnKey_X4_isNoKey : GoodIn wsX4_hangsOnKey (wsV RX4 89 RX4 yX4_isNoKey wsX4_isNoKey) := goodIn_app (goodIn_of _ (by decide +kernel)) ggX4_hangsOnKey_X4_isNoKey
set_option maxRecDepth 20000 in
theorem ggX4_hangsOnKey_X4_trusted : GoodIn wsX4_hangsOnKey wsX4_trusted := goodIn_r _ [18, 19, 20, 21, 4, 22, 23, 24, 25, 26, 27, 28, 29, 30, 31, 32, 33, 34, 35, 36, 37, 38, 39, 6, 40, 41, 42, 43, 44, 45, 46, 47, 48, 49, 7, 8, 9, 53, 54, 55, 56, 57, 58, 59, 60, 61, 62, 63, 64, 65, 66, 67, 68, 69, 70, 71, 72, 73, 74, 75] (by decide +kernel) (by decide +kernel)
set_option maxRecDepth 20000 in
theorem gX4_hangsOnKey_X4_trusted : GoodIn wsX4_hangsOnKey (wsV RX4 92 RX4 yX4_trusted wsX4_trusted) := goodIn_app (goodIn_of _ (by decide +kernel)) ggX4_hangsOnKey_X4_trusted
set_option maxRecDepth 20000 in
theorem ggX4_hangsOnKey_X4_trustedWithout : GoodIn wsX4_hangsOnKey wsX4_trustedWithout := goodIn_r _ [22, 23, 24, 25, 26, 4, 27, 28, 29, 30, 31, 32, 33, 34, 35, 36, 37, 38, 39, 6, 40, 41, 42, 43, 44, 45, 46, 47, 48, 49, 7, 8, 9, 53, 54, 55, 56, 57, 58, 59, 60, 61, 62, 63, 64, 65, 66, 67, 68, 69, 70, 71, 72, 73, 74, 75] (by decide +kernel) (by decide +kernel)
set_option maxRecDepth 20000 in
theorem gX4_hangsOnKey_X4_trustedWithout : GoodIn wsX4_hangsOnKey (wsV RX4 137 RX4 yX4_trustedWithout wsX4_trustedWithout) := goodIn_app (goodIn_of _ (by decide +kernel)) ggX4_hangsOnKey_X4_trustedWithout
set_option maxRecDepth 20000 in
theorem ggX4_hangsOnKey_X4_bits : GoodIn wsX4_hangsOnKey wsX4_bits := goodIn_r _ [52] (by decide +kernel) (by decide +kernel)
set_option maxRecDepth 20000 in
theorem gX4_hangsOnKey_X4_bits : GoodIn wsX4_hangsOnKey (va_wsS RX4 96 yX4_bits wsX4_bits) := goodIn_app (goodIn_of _ (by decide +kernel)) ggX4_hangsOnKey_X4_bits
theorem dX4_hangsOnKey_0 : decode cX4_hangsOnKey 0 = .ok (.aload_n 0, 1) := by decide +kernel
theorem dX4_hangsOnKey_1 : decode cX4_hangsOnKey 1 = .ok (.iload_n 1, 1) := by decide +kernel
theorem dX4_hangsOnKey_2 : decode cX4_hangsOnKey 2 = .ok (.invokevirtual 89, 3) := by decide +kernel
theorem dX4_hangsOnKey_5 : decode cX4_hangsOnKey 5 = .ok (.ifCond .eq 7, 3) := by decide +kernel
theorem dX4_hangsOnKey_8 : decode cX4_hangsOnKey 8 = .ok (.iconst 0, 1) := by decide +kernel
theorem dX4_hangsOnKey_9 : decode cX4_hangsOnKey 9 = .ok (.goto 18, 3) := by decide +kernel
theorem dX4_hangsOnKey_12 : decode cX4_hangsOnKey 12 = .ok (.aload_n 0, 1) := by decide +kernel
theorem dX4_hangsOnKey_13 : decode cX4_hangsOnKey 13 = .ok (.invokevirtual 92, 3) := by decide +kernel
theorem dX4_hangsOnKey_16 : decode cX4_hangsOnKey 16 = .ok (.aload_n 0, 1) := by decide +kernel
theorem dX4_hangsOnKey_17 : decode cX4_hangsOnKey 17 = .ok (.iload_n 1, 1) := by decide +kernel
theorem dX4_hangsOnKey_18 : decode cX4_hangsOnKey 18 = .ok (.invokevirtual 137, 3) := by decide +kernel
theorem dX4_hangsOnKey_21 : decode cX4_hangsOnKey 21 = .ok (.iconst (-1), 1) := by decide +kernel
theorem dX4_hangsOnKey_22 : decode cX4_hangsOnKey 22 = .ok (.ixor, 1) := by decide +kernel
theorem dX4_hangsOnKey_23 : decode cX4_hangsOnKey 23 = .ok (.iand, 1) := by decide +kernel
theorem dX4_hangsOnKey_24 : decode cX4_hangsOnKey 24 = .ok (.invokestatic 96, 3) := by decide +kernel
theorem dX4_hangsOnKey_27 : decode cX4_hangsOnKey 27 = .ok (.ireturn, 1) := by decide +kernel
theorem dX4_isGone_0 : decode cX4_isGone 0 = .ok (.aload_n 0, 1) := by decide +kernel
theorem dX4_isGone_1 : decode cX4_isGone 1 = .ok (.getfield 44, 3) := by decide +kernel
theorem dX4_isGone_4 : decode cX4_isGone 4 = .ok (.iload_n 1, 1) := by decide +kernel
theorem dX4_isGone_5 : decode cX4_isGone 5 = .ok (.baload, 1) := by decide +kernel
theorem dX4_isGone_6 : decode cX4_isGone 6 = .ok (.ifCond .eq 5, 3) := by decide +kernel
theorem dX4_isGone_9 : decode cX4_isGone 9 = .ok (.iconst 1, 1) := by decide +kernel
theorem dX4_isGone_10 : decode cX4_isGone 10 = .ok (.ireturn, 1) := by decide +kernel
theorem dX4_isGone_11 : decode cX4_isGone 11 = .ok (.iconst 0, 1) := by decide +kernel
theorem dX4_isGone_12 : decode cX4_isGone 12 = .ok (.istore_n 2, 1) := by decide +kernel
theorem dX4_isGone_13 : decode cX4_isGone 13 = .ok (.iload_n 2, 1) := by decide +kernel
theorem dX4_isGone_14 : decode cX4_isGone 14 = .ok (.iload_n 1, 1) := by decide +kernel
theorem dX4_isGone_15 : decode cX4_isGone 15 = .ok (.if_icmp .ge 34, 3) := by decide +kernel
theorem dX4_isGone_18 : decode cX4_isGone 18 = .ok (.aload_n 0, 1) := by decide +kernel
theorem dX4_isGone_19 : decode cX4_isGone 19 = .ok (.getfield 44, 3) := by decide +kernel
theorem dX4_isGone_22 : decode cX4_isGone 22 = .ok (.iload_n 2, 1) := by decide +kernel
theorem dX4_isGone_23 : decode cX4_isGone 23 = .ok (.baload, 1) := by decide +kernel
theorem dX4_isGone_24 : decode cX4_isGone 24 = .ok (.ifCond .eq 19, 3) := by decide +kernel
theorem dX4_isGone_27 : decode cX4_isGone 27 = .ok (.aload_n 0, 1) := by decide +kernel
theorem dX4_isGone_28 : decode cX4_isGone 28 = .ok (.getfield 35, 3) := by decide +kernel
theorem dX4_isGone_31 : decode cX4_isGone 31 = .ok (.iload_n 1, 1) := by decide +kernel
theorem dX4_isGone_32 : decode cX4_isGone 32 = .ok (.iaload, 1) := by decide +kernel
theorem dX4_isGone_33 : decode cX4_isGone 33 = .ok (.iload_n 2, 1) := by decide +kernel
theorem dX4_isGone_34 : decode cX4_isGone 34 = .ok (.ishr, 1) := by decide +kernel
theorem dX4_isGone_35 : decode cX4_isGone 35 = .ok (.iconst 1, 1) := by decide +kernel
theorem dX4_isGone_36 : decode cX4_isGone 36 = .ok (.iand, 1) := by decide +kernel
theorem dX4_isGone_37 : decode cX4_isGone 37 = .ok (.iconst 1, 1) := by decide +kernel
theorem dX4_isGone_38 : decode cX4_isGone 38 = .ok (.if_icmp .ne 5, 3) := by decide +kernel
theorem dX4_isGone_41 : decode cX4_isGone 41 = .ok (.iconst 1, 1) := by decide +kernel
theorem dX4_isGone_42 : decode cX4_isGone 42 = .ok (.ireturn, 1) := by decide +kernel
theorem dX4_isGone_43 : decode cX4_isGone 43 = .ok (.iinc 2 1, 3) := by decide +kernel
theorem dX4_isGone_46 : decode cX4_isGone 46 = .ok (.goto (-33), 3) := by decide +kernel
theorem dX4_isGone_49 : decode cX4_isGone 49 = .ok (.iconst 0, 1) := by decide +kernel
theorem dX4_isGone_50 : decode cX4_isGone 50 = .ok (.ireturn, 1) := by decide +kernel
set_option maxRecDepth 20000 in
theorem ggX4_recalled_X4_isGone : GoodIn wsX4_recalled wsX4_isGone := goodIn_r _ [6, 7, 8, 9, 10, 11, 12, 13, 14, 15, 16, 17, 18, 19, 20, 21, 22, 23, 24, 25, 26, 27, 28, 29, 30, 31] (by decide +kernel) (by decide +kernel)
set_option maxRecDepth 20000 in
theorem gX4_recalled_X4_isGone : GoodIn wsX4_recalled (wsV RX4 106 RX4 yX4_isGone wsX4_isGone) := goodIn_app (goodIn_of _ (by decide +kernel)) ggX4_recalled_X4_isGone
theorem dX4_recalled_0 : decode cX4_recalled 0 = .ok (.iconst 0, 1) := by decide +kernel
theorem dX4_recalled_1 : decode cX4_recalled 1 = .ok (.istore_n 1, 1) := by decide +kernel
theorem dX4_recalled_2 : decode cX4_recalled 2 = .ok (.iconst 0, 1) := by decide +kernel
theorem dX4_recalled_3 : decode cX4_recalled 3 = .ok (.istore_n 2, 1) := by decide +kernel
theorem dX4_recalled_4 : decode cX4_recalled 4 = .ok (.iload_n 2, 1) := by decide +kernel
theorem dX4_recalled_5 : decode cX4_recalled 5 = .ok (.aload_n 0, 1) := by decide +kernel
theorem dX4_recalled_6 : decode cX4_recalled 6 = .ok (.getfield 80, 3) := by decide +kernel
theorem dX4_recalled_9 : decode cX4_recalled 9 = .ok (.if_icmp .ge 23, 3) := by decide +kernel
theorem dX4_recalled_12 : decode cX4_recalled 12 = .ok (.aload_n 0, 1) := by decide +kernel
theorem dX4_recalled_13 : decode cX4_recalled 13 = .ok (.iload_n 2, 1) := by decide +kernel
theorem dX4_recalled_14 : decode cX4_recalled 14 = .ok (.invokevirtual 106, 3) := by decide +kernel
theorem dX4_recalled_17 : decode cX4_recalled 17 = .ok (.ifCond .eq 9, 3) := by decide +kernel
theorem dX4_recalled_20 : decode cX4_recalled 20 = .ok (.iload_n 1, 1) := by decide +kernel
theorem dX4_recalled_21 : decode cX4_recalled 21 = .ok (.iconst 1, 1) := by decide +kernel
theorem dX4_recalled_22 : decode cX4_recalled 22 = .ok (.iload_n 2, 1) := by decide +kernel
theorem dX4_recalled_23 : decode cX4_recalled 23 = .ok (.ishl, 1) := by decide +kernel
theorem dX4_recalled_24 : decode cX4_recalled 24 = .ok (.ior, 1) := by decide +kernel
theorem dX4_recalled_25 : decode cX4_recalled 25 = .ok (.istore_n 1, 1) := by decide +kernel
theorem dX4_recalled_26 : decode cX4_recalled 26 = .ok (.iinc 2 1, 3) := by decide +kernel
theorem dX4_recalled_29 : decode cX4_recalled 29 = .ok (.goto (-25), 3) := by decide +kernel
theorem dX4_recalled_32 : decode cX4_recalled 32 = .ok (.iload_n 1, 1) := by decide +kernel
theorem dX4_recalled_33 : decode cX4_recalled 33 = .ok (.ireturn, 1) := by decide +kernel
set_option maxRecDepth 20000 in
theorem ggX4_marks_X4_isNoBuild : GoodIn wsX4_marks wsX4_isNoBuild := goodIn_r _ [6, 7, 8, 9, 5, 10, 11, 12, 13, 14, 15, 28, 29, 30, 31, 32, 33, 34, 35, 36, 37, 38, 39, 40, 41, 42, 43, 44, 45, 46, 47, 48, 49, 50] (by decide +kernel) (by decide +kernel)
set_option maxRecDepth 20000 in
theorem gX4_marks_X4_isNoBuild : GoodIn wsX4_marks (wsV RX4 112 RX4 yX4_isNoBuild wsX4_isNoBuild) := goodIn_app (goodIn_of _ (by decide +kernel)) ggX4_marks_X4_isNoBuild
set_option maxRecDepth 20000 in
theorem ggX4_marks_X4_fails : GoodIn wsX4_marks wsX4_fails := goodIn_r _ [14, 15, 28, 29, 30, 31, 32, 33, 34, 35, 36, 37, 38, 39, 40, 41, 42, 43, 44, 45, 46, 47, 48, 49, 50] (by decide +kernel) (by decide +kernel)
set_option maxRecDepth 20000 in
theorem gX4_marks_X4_fails : GoodIn wsX4_marks (wsV RX4 76 RX4 yX4_fails wsX4_fails) := goodIn_app (goodIn_of _ (by decide +kernel)) ggX4_marks_X4_fails
set_option maxRecDepth 20000 in
theorem ggX4_marks_X4_recalled : GoodIn wsX4_marks wsX4_recalled := goodIn_r _ [19, 7, 20, 21, 22, 5, 23, 1, 24, 28, 29, 30, 31, 32, 33, 34, 35, 36, 37, 38, 39, 40, 41, 42, 43, 44, 45, 46, 47, 48, 49, 50] (by decide +kernel) (by decide +kernel)
set_option maxRecDepth 20000 in
theorem gX4_marks_X4_recalled : GoodIn wsX4_marks (wsV RX4 115 RX4 yX4_recalled wsX4_recalled) := goodIn_app (goodIn_of _ (by decide +kernel)) ggX4_marks_X4_recalled
set_option maxRecDepth 20000 in
theorem ggX4_marks_X4_bits : GoodIn wsX4_marks wsX4_bits := goodIn_r _ [27] (by decide +kernel) (by decide +kernel)
set_option maxRecDepth 20000 in
theorem gX4_marks_X4_bits : GoodIn wsX4_marks (va_wsS RX4 96 yX4_bits wsX4_bits) := goodIn_app (goodIn_of _ (by decide +kernel)) ggX4_marks_X4_bits
theorem dX4_marks_0 : decode cX4_marks 0 = .ok (.aload_n 0, 1) := by decide +kernel
theorem dX4_marks_1 : decode cX4_marks 1 = .ok (.iload_n 1, 1) := by decide +kernel
theorem dX4_marks_2 : decode cX4_marks 2 = .ok (.invokevirtual 112, 3) := by decide +kernel
theorem dX4_marks_5 : decode cX4_marks 5 = .ok (.ifCond .ne 25, 3) := by decide +kernel
theorem dX4_marks_8 : decode cX4_marks 8 = .ok (.aload_n 0, 1) := by decide +kernel
theorem dX4_marks_9 : decode cX4_marks 9 = .ok (.aload_n 0, 1) := by decide +kernel
theorem dX4_marks_10 : decode cX4_marks 10 = .ok (.getfield 44, 3) := by decide +kernel
theorem dX4_marks_13 : decode cX4_marks 13 = .ok (.iload_n 1, 1) := by decide +kernel
theorem dX4_marks_14 : decode cX4_marks 14 = .ok (.baload, 1) := by decide +kernel
theorem dX4_marks_15 : decode cX4_marks 15 = .ok (.iload_n 2, 1) := by decide +kernel
theorem dX4_marks_16 : decode cX4_marks 16 = .ok (.if_icmp .ne 7, 3) := by decide +kernel
theorem dX4_marks_19 : decode cX4_marks 19 = .ok (.iconst 2, 1) := by decide +kernel
theorem dX4_marks_20 : decode cX4_marks 20 = .ok (.goto 4, 3) := by decide +kernel
theorem dX4_marks_23 : decode cX4_marks 23 = .ok (.iconst 0, 1) := by decide +kernel
theorem dX4_marks_24 : decode cX4_marks 24 = .ok (.invokevirtual 76, 3) := by decide +kernel
theorem dX4_marks_27 : decode cX4_marks 27 = .ok (.ifCond .eq 5, 3) := by decide +kernel
theorem dX4_marks_30 : decode cX4_marks 30 = .ok (.iconst 0, 1) := by decide +kernel
theorem dX4_marks_31 : decode cX4_marks 31 = .ok (.ireturn, 1) := by decide +kernel
theorem dX4_marks_32 : decode cX4_marks 32 = .ok (.aload_n 0, 1) := by decide +kernel
theorem dX4_marks_33 : decode cX4_marks 33 = .ok (.invokevirtual 115, 3) := by decide +kernel
theorem dX4_marks_36 : decode cX4_marks 36 = .ok (.istore_n 3, 1) := by decide +kernel
theorem dX4_marks_37 : decode cX4_marks 37 = .ok (.aload_n 0, 1) := by decide +kernel
theorem dX4_marks_38 : decode cX4_marks 38 = .ok (.getfield 44, 3) := by decide +kernel
theorem dX4_marks_41 : decode cX4_marks 41 = .ok (.iload_n 1, 1) := by decide +kernel
theorem dX4_marks_42 : decode cX4_marks 42 = .ok (.iload_n 2, 1) := by decide +kernel
theorem dX4_marks_43 : decode cX4_marks 43 = .ok (.bastore, 1) := by decide +kernel
theorem dX4_marks_44 : decode cX4_marks 44 = .ok (.iload_n 3, 1) := by decide +kernel
theorem dX4_marks_45 : decode cX4_marks 45 = .ok (.aload_n 0, 1) := by decide +kernel
theorem dX4_marks_46 : decode cX4_marks 46 = .ok (.invokevirtual 115, 3) := by decide +kernel
theorem dX4_marks_49 : decode cX4_marks 49 = .ok (.ixor, 1) := by decide +kernel
theorem dX4_marks_50 : decode cX4_marks 50 = .ok (.invokestatic 96, 3) := by decide +kernel
theorem dX4_marks_53 : decode cX4_marks 53 = .ok (.ireturn, 1) := by decide +kernel
set_option maxRecDepth 20000 in
theorem ggX4_recall_X4_marks : GoodIn wsX4_recall wsX4_marks := goodIn_r _ [5, 6, 7, 8, 9, 4, 10, 11, 12, 13, 14, 15, 16, 17, 18, 19, 20, 21, 22, 23, 24, 25, 26, 27, 28, 29, 30, 31, 32, 33, 34, 35, 36, 37, 38, 39, 40, 41, 42, 43, 44, 45, 46, 47, 48, 49, 50, 51, 52, 53, 54] (by decide +kernel) (by decide +kernel)
set_option maxRecDepth 20000 in
theorem gX4_recall_X4_marks : GoodIn wsX4_recall (wsV RX4 146 RX4 yX4_marks wsX4_marks) := goodIn_app (goodIn_of _ (by decide +kernel)) ggX4_recall_X4_marks
theorem dX4_recall_0 : decode cX4_recall 0 = .ok (.aload_n 0, 1) := by decide +kernel
theorem dX4_recall_1 : decode cX4_recall 1 = .ok (.iload_n 1, 1) := by decide +kernel
theorem dX4_recall_2 : decode cX4_recall 2 = .ok (.iconst 1, 1) := by decide +kernel
theorem dX4_recall_3 : decode cX4_recall 3 = .ok (.invokevirtual 146, 3) := by decide +kernel
theorem dX4_recall_6 : decode cX4_recall 6 = .ok (.ireturn, 1) := by decide +kernel
set_option maxRecDepth 20000 in
theorem ggX4_lift_X4_marks : GoodIn wsX4_lift wsX4_marks := goodIn_r _ [5, 6, 7, 8, 9, 4, 10, 11, 12, 13, 14, 15, 16, 17, 18, 19, 20, 21, 22, 23, 24, 25, 26, 27, 28, 29, 30, 31, 32, 33, 34, 35, 36, 37, 38, 39, 40, 41, 42, 43, 44, 45, 46, 47, 48, 49, 50, 51, 52, 53, 54] (by decide +kernel) (by decide +kernel)
set_option maxRecDepth 20000 in
theorem gX4_lift_X4_marks : GoodIn wsX4_lift (wsV RX4 146 RX4 yX4_marks wsX4_marks) := goodIn_app (goodIn_of _ (by decide +kernel)) ggX4_lift_X4_marks
theorem dX4_lift_0 : decode cX4_lift 0 = .ok (.aload_n 0, 1) := by decide +kernel
theorem dX4_lift_1 : decode cX4_lift 1 = .ok (.iload_n 1, 1) := by decide +kernel
theorem dX4_lift_2 : decode cX4_lift 2 = .ok (.iconst 0, 1) := by decide +kernel
theorem dX4_lift_3 : decode cX4_lift 3 = .ok (.invokevirtual 146, 3) := by decide +kernel
theorem dX4_lift_6 : decode cX4_lift 6 = .ok (.ireturn, 1) := by decide +kernel
set_option maxRecDepth 20000 in
theorem ggX4_isRecalled_X4_isNoBuild : GoodIn wsX4_isRecalled wsX4_isNoBuild := goodIn_r _ [5, 6, 7, 8, 4, 9, 10, 11, 12, 13, 14, 21, 22, 23, 24, 25, 26, 27, 28, 29, 30, 31, 32, 33, 34, 35, 36, 37, 38, 39, 40, 41, 42, 43] (by decide +kernel) (by decide +kernel)
set_option maxRecDepth 20000 in
theorem gX4_isRecalled_X4_isNoBuild : GoodIn wsX4_isRecalled (wsV RX4 112 RX4 yX4_isNoBuild wsX4_isNoBuild) := goodIn_app (goodIn_of _ (by decide +kernel)) ggX4_isRecalled_X4_isNoBuild
set_option maxRecDepth 20000 in
theorem ggX4_isRecalled_X4_isGone : GoodIn wsX4_isRecalled wsX4_isGone := goodIn_r _ [18, 19, 20, 21, 22, 23, 24, 25, 26, 27, 28, 29, 30, 31, 32, 33, 34, 35, 36, 37, 38, 39, 40, 41, 42, 43] (by decide +kernel) (by decide +kernel)
set_option maxRecDepth 20000 in
theorem gX4_isRecalled_X4_isGone : GoodIn wsX4_isRecalled (wsV RX4 106 RX4 yX4_isGone wsX4_isGone) := goodIn_app (goodIn_of _ (by decide +kernel)) ggX4_isRecalled_X4_isGone
theorem dX4_isRecalled_0 : decode cX4_isRecalled 0 = .ok (.aload_n 0, 1) := by decide +kernel
theorem dX4_isRecalled_1 : decode cX4_isRecalled 1 = .ok (.iload_n 1, 1) := by decide +kernel
theorem dX4_isRecalled_2 : decode cX4_isRecalled 2 = .ok (.invokevirtual 112, 3) := by decide +kernel
theorem dX4_isRecalled_5 : decode cX4_isRecalled 5 = .ok (.ifCond .ne 15, 3) := by decide +kernel
theorem dX4_isRecalled_8 : decode cX4_isRecalled 8 = .ok (.aload_n 0, 1) := by decide +kernel
theorem dX4_isRecalled_9 : decode cX4_isRecalled 9 = .ok (.iload_n 1, 1) := by decide +kernel
theorem dX4_isRecalled_10 : decode cX4_isRecalled 10 = .ok (.invokevirtual 106, 3) := by decide +kernel
theorem dX4_isRecalled_13 : decode cX4_isRecalled 13 = .ok (.ifCond .eq 7, 3) := by decide +kernel
theorem dX4_isRecalled_16 : decode cX4_isRecalled 16 = .ok (.iconst 1, 1) := by decide +kernel
theorem dX4_isRecalled_17 : decode cX4_isRecalled 17 = .ok (.goto 4, 3) := by decide +kernel
theorem dX4_isRecalled_20 : decode cX4_isRecalled 20 = .ok (.iconst 0, 1) := by decide +kernel
theorem dX4_isRecalled_21 : decode cX4_isRecalled 21 = .ok (.ireturn, 1) := by decide +kernel
set_option maxRecDepth 20000 in
theorem ggX4_rebuild_X4_isNoBuild : GoodIn wsX4_rebuild wsX4_isNoBuild := goodIn_r _ [8, 9, 10, 11, 7, 12, 13, 14, 15, 16, 17, 18, 19, 20, 21, 22, 23, 24, 25, 26, 27, 28, 29, 30, 31, 32, 33, 34, 35, 36, 37, 38, 39, 40] (by decide +kernel) (by decide +kernel)
set_option maxRecDepth 20000 in
theorem gX4_rebuild_X4_isNoBuild : GoodIn wsX4_rebuild (wsV RX4 112 RX4 yX4_isNoBuild wsX4_isNoBuild) := goodIn_app (goodIn_of _ (by decide +kernel)) ggX4_rebuild_X4_isNoBuild
set_option maxRecDepth 20000 in
theorem ggX4_rebuild_X4_fails : GoodIn wsX4_rebuild wsX4_fails := goodIn_r _ [16, 17, 18, 19, 20, 21, 22, 23, 24, 25, 26, 27, 28, 29, 30, 31, 32, 33, 34, 35, 36, 37, 38, 39, 40] (by decide +kernel) (by decide +kernel)
set_option maxRecDepth 20000 in
theorem gX4_rebuild_X4_fails : GoodIn wsX4_rebuild (wsV RX4 76 RX4 yX4_fails wsX4_fails) := goodIn_app (goodIn_of _ (by decide +kernel)) ggX4_rebuild_X4_fails
theorem dX4_rebuild_0 : decode cX4_rebuild 0 = .ok (.aload_n 0, 1) := by decide +kernel
theorem dX4_rebuild_1 : decode cX4_rebuild 1 = .ok (.iload_n 1, 1) := by decide +kernel
theorem dX4_rebuild_2 : decode cX4_rebuild 2 = .ok (.invokevirtual 112, 3) := by decide +kernel
theorem dX4_rebuild_5 : decode cX4_rebuild 5 = .ok (.ifCond .ne 26, 3) := by decide +kernel
theorem dX4_rebuild_8 : decode cX4_rebuild 8 = .ok (.aload_n 0, 1) := by decide +kernel
theorem dX4_rebuild_9 : decode cX4_rebuild 9 = .ok (.aload_n 0, 1) := by decide +kernel
theorem dX4_rebuild_10 : decode cX4_rebuild 10 = .ok (.getfield 47, 3) := by decide +kernel
theorem dX4_rebuild_13 : decode cX4_rebuild 13 = .ok (.iload_n 1, 1) := by decide +kernel
theorem dX4_rebuild_14 : decode cX4_rebuild 14 = .ok (.iaload, 1) := by decide +kernel
theorem dX4_rebuild_15 : decode cX4_rebuild 15 = .ok (.bipush 99, 2) := by decide +kernel
theorem dX4_rebuild_17 : decode cX4_rebuild 17 = .ok (.if_icmp .ne 7, 3) := by decide +kernel
theorem dX4_rebuild_20 : decode cX4_rebuild 20 = .ok (.iconst 2, 1) := by decide +kernel
theorem dX4_rebuild_21 : decode cX4_rebuild 21 = .ok (.goto 4, 3) := by decide +kernel
theorem dX4_rebuild_24 : decode cX4_rebuild 24 = .ok (.iconst 0, 1) := by decide +kernel
theorem dX4_rebuild_25 : decode cX4_rebuild 25 = .ok (.invokevirtual 76, 3) := by decide +kernel
theorem dX4_rebuild_28 : decode cX4_rebuild 28 = .ok (.ifCond .eq 5, 3) := by decide +kernel
theorem dX4_rebuild_31 : decode cX4_rebuild 31 = .ok (.iconst 0, 1) := by decide +kernel
theorem dX4_rebuild_32 : decode cX4_rebuild 32 = .ok (.ireturn, 1) := by decide +kernel
theorem dX4_rebuild_33 : decode cX4_rebuild 33 = .ok (.aload_n 0, 1) := by decide +kernel
theorem dX4_rebuild_34 : decode cX4_rebuild 34 = .ok (.getfield 47, 3) := by decide +kernel
theorem dX4_rebuild_37 : decode cX4_rebuild 37 = .ok (.iload_n 1, 1) := by decide +kernel
theorem dX4_rebuild_38 : decode cX4_rebuild 38 = .ok (.dup2, 1) := by decide +kernel
theorem dX4_rebuild_39 : decode cX4_rebuild 39 = .ok (.iaload, 1) := by decide +kernel
theorem dX4_rebuild_40 : decode cX4_rebuild 40 = .ok (.iconst 1, 1) := by decide +kernel
theorem dX4_rebuild_41 : decode cX4_rebuild 41 = .ok (.iadd, 1) := by decide +kernel
theorem dX4_rebuild_42 : decode cX4_rebuild 42 = .ok (.iastore, 1) := by decide +kernel
theorem dX4_rebuild_43 : decode cX4_rebuild 43 = .ok (.aload_n 0, 1) := by decide +kernel
theorem dX4_rebuild_44 : decode cX4_rebuild 44 = .ok (.getfield 50, 3) := by decide +kernel
theorem dX4_rebuild_47 : decode cX4_rebuild 47 = .ok (.iload_n 1, 1) := by decide +kernel
theorem dX4_rebuild_48 : decode cX4_rebuild 48 = .ok (.dup2, 1) := by decide +kernel
theorem dX4_rebuild_49 : decode cX4_rebuild 49 = .ok (.iaload, 1) := by decide +kernel
theorem dX4_rebuild_50 : decode cX4_rebuild 50 = .ok (.aload_n 0, 1) := by decide +kernel
theorem dX4_rebuild_51 : decode cX4_rebuild 51 = .ok (.getfield 38, 3) := by decide +kernel
theorem dX4_rebuild_54 : decode cX4_rebuild 54 = .ok (.iload_n 1, 1) := by decide +kernel
theorem dX4_rebuild_55 : decode cX4_rebuild 55 = .ok (.iaload, 1) := by decide +kernel
theorem dX4_rebuild_56 : decode cX4_rebuild 56 = .ok (.iload_n 2, 1) := by decide +kernel
theorem dX4_rebuild_57 : decode cX4_rebuild 57 = .ok (.if_icmp .ne 7, 3) := by decide +kernel
theorem dX4_rebuild_60 : decode cX4_rebuild 60 = .ok (.iconst 1, 1) := by decide +kernel
theorem dX4_rebuild_61 : decode cX4_rebuild 61 = .ok (.goto 4, 3) := by decide +kernel
theorem dX4_rebuild_64 : decode cX4_rebuild 64 = .ok (.iconst 0, 1) := by decide +kernel
theorem dX4_rebuild_65 : decode cX4_rebuild 65 = .ok (.iadd, 1) := by decide +kernel
theorem dX4_rebuild_66 : decode cX4_rebuild 66 = .ok (.iastore, 1) := by decide +kernel
theorem dX4_rebuild_67 : decode cX4_rebuild 67 = .ok (.aload_n 0, 1) := by decide +kernel
theorem dX4_rebuild_68 : decode cX4_rebuild 68 = .ok (.getfield 38, 3) := by decide +kernel
theorem dX4_rebuild_71 : decode cX4_rebuild 71 = .ok (.iload_n 1, 1) := by decide +kernel
theorem dX4_rebuild_72 : decode cX4_rebuild 72 = .ok (.iaload, 1) := by decide +kernel
theorem dX4_rebuild_73 : decode cX4_rebuild 73 = .ok (.iload_n 2, 1) := by decide +kernel
theorem dX4_rebuild_74 : decode cX4_rebuild 74 = .ok (.if_icmp .ne 7, 3) := by decide +kernel
theorem dX4_rebuild_77 : decode cX4_rebuild 77 = .ok (.iconst 1, 1) := by decide +kernel
theorem dX4_rebuild_78 : decode cX4_rebuild 78 = .ok (.goto 4, 3) := by decide +kernel
theorem dX4_rebuild_81 : decode cX4_rebuild 81 = .ok (.iconst 0, 1) := by decide +kernel
theorem dX4_rebuild_82 : decode cX4_rebuild 82 = .ok (.ireturn, 1) := by decide +kernel
set_option maxRecDepth 20000 in
theorem ggX4_share_X4_isNoBuild : GoodIn wsX4_share wsX4_isNoBuild := goodIn_r _ [7, 8, 9, 10, 6, 11, 12, 13, 14, 15, 16, 17, 18, 19, 20, 21, 22, 23, 24, 25, 26, 27, 28, 29, 30, 31, 32, 33, 34, 35, 36, 37, 38, 39] (by decide +kernel) (by decide +kernel)
set_option maxRecDepth 20000 in
theorem gX4_share_X4_isNoBuild : GoodIn wsX4_share (wsV RX4 112 RX4 yX4_isNoBuild wsX4_isNoBuild) := goodIn_app (goodIn_of _ (by decide +kernel)) ggX4_share_X4_isNoBuild
set_option maxRecDepth 20000 in
theorem ggX4_share_X4_fails : GoodIn wsX4_share wsX4_fails := goodIn_r _ [15, 16, 17, 18, 19, 20, 21, 22, 23, 24, 25, 26, 27, 28, 29, 30, 31, 32, 33, 34, 35, 36, 37, 38, 39] (by decide +kernel) (by decide +kernel)
set_option maxRecDepth 20000 in
theorem gX4_share_X4_fails : GoodIn wsX4_share (wsV RX4 76 RX4 yX4_fails wsX4_fails) := goodIn_app (goodIn_of _ (by decide +kernel)) ggX4_share_X4_fails
theorem dX4_share_0 : decode cX4_share 0 = .ok (.aload_n 0, 1) := by decide +kernel
theorem dX4_share_1 : decode cX4_share 1 = .ok (.iload_n 1, 1) := by decide +kernel
theorem dX4_share_2 : decode cX4_share 2 = .ok (.invokevirtual 112, 3) := by decide +kernel
theorem dX4_share_5 : decode cX4_share 5 = .ok (.ifCond .ne 24, 3) := by decide +kernel
theorem dX4_share_8 : decode cX4_share 8 = .ok (.aload_n 0, 1) := by decide +kernel
theorem dX4_share_9 : decode cX4_share 9 = .ok (.aload_n 0, 1) := by decide +kernel
theorem dX4_share_10 : decode cX4_share 10 = .ok (.getfield 47, 3) := by decide +kernel
theorem dX4_share_13 : decode cX4_share 13 = .ok (.iload_n 1, 1) := by decide +kernel
theorem dX4_share_14 : decode cX4_share 14 = .ok (.iaload, 1) := by decide +kernel
theorem dX4_share_15 : decode cX4_share 15 = .ok (.ifCond .ne 7, 3) := by decide +kernel
theorem dX4_share_18 : decode cX4_share 18 = .ok (.iconst 2, 1) := by decide +kernel
theorem dX4_share_19 : decode cX4_share 19 = .ok (.goto 4, 3) := by decide +kernel
theorem dX4_share_22 : decode cX4_share 22 = .ok (.iconst 0, 1) := by decide +kernel
theorem dX4_share_23 : decode cX4_share 23 = .ok (.invokevirtual 76, 3) := by decide +kernel
theorem dX4_share_26 : decode cX4_share 26 = .ok (.ifCond .eq 7, 3) := by decide +kernel
theorem dX4_share_29 : decode cX4_share 29 = .ok (.fconst 0, 1) := by decide +kernel
theorem dX4_share_30 : decode cX4_share 30 = .ok (.goto 18, 3) := by decide +kernel
theorem dX4_share_33 : decode cX4_share 33 = .ok (.aload_n 0, 1) := by decide +kernel
theorem dX4_share_34 : decode cX4_share 34 = .ok (.getfield 50, 3) := by decide +kernel
theorem dX4_share_37 : decode cX4_share 37 = .ok (.iload_n 1, 1) := by decide +kernel
theorem dX4_share_38 : decode cX4_share 38 = .ok (.iaload, 1) := by decide +kernel
theorem dX4_share_39 : decode cX4_share 39 = .ok (.i2f, 1) := by decide +kernel
theorem dX4_share_40 : decode cX4_share 40 = .ok (.aload_n 0, 1) := by decide +kernel
theorem dX4_share_41 : decode cX4_share 41 = .ok (.getfield 47, 3) := by decide +kernel
theorem dX4_share_44 : decode cX4_share 44 = .ok (.iload_n 1, 1) := by decide +kernel
theorem dX4_share_45 : decode cX4_share 45 = .ok (.iaload, 1) := by decide +kernel
theorem dX4_share_46 : decode cX4_share 46 = .ok (.i2f, 1) := by decide +kernel
theorem dX4_share_47 : decode cX4_share 47 = .ok (.fdiv, 1) := by decide +kernel
theorem dX4_share_48 : decode cX4_share 48 = .ok (.freturn, 1) := by decide +kernel
set_option maxRecDepth 20000 in
theorem ggX4_addMirror_X4_fails : GoodIn wsX4_addMirror wsX4_fails := goodIn_r _ [6, 7, 8, 9, 10, 11, 12, 13, 14, 15, 16, 17, 18, 19, 20, 21, 22, 23, 24, 25, 26, 27, 28, 29, 30] (by decide +kernel) (by decide +kernel)
set_option maxRecDepth 20000 in
theorem gX4_addMirror_X4_fails : GoodIn wsX4_addMirror (wsV RX4 76 RX4 yX4_fails wsX4_fails) := goodIn_app (goodIn_of _ (by decide +kernel)) ggX4_addMirror_X4_fails
theorem dX4_addMirror_0 : decode cX4_addMirror 0 = .ok (.aload_n 0, 1) := by decide +kernel
theorem dX4_addMirror_1 : decode cX4_addMirror 1 = .ok (.aload_n 0, 1) := by decide +kernel
theorem dX4_addMirror_2 : decode cX4_addMirror 2 = .ok (.getfield 83, 3) := by decide +kernel
theorem dX4_addMirror_5 : decode cX4_addMirror 5 = .ok (.iconst 3, 1) := by decide +kernel
theorem dX4_addMirror_6 : decode cX4_addMirror 6 = .ok (.if_icmp .ne 7, 3) := by decide +kernel
theorem dX4_addMirror_9 : decode cX4_addMirror 9 = .ok (.iconst 1, 1) := by decide +kernel
theorem dX4_addMirror_10 : decode cX4_addMirror 10 = .ok (.goto 4, 3) := by decide +kernel
theorem dX4_addMirror_13 : decode cX4_addMirror 13 = .ok (.iconst 0, 1) := by decide +kernel
theorem dX4_addMirror_14 : decode cX4_addMirror 14 = .ok (.invokevirtual 76, 3) := by decide +kernel
theorem dX4_addMirror_17 : decode cX4_addMirror 17 = .ok (.ifCond .eq 5, 3) := by decide +kernel
theorem dX4_addMirror_20 : decode cX4_addMirror 20 = .ok (.iconst 0, 1) := by decide +kernel
theorem dX4_addMirror_21 : decode cX4_addMirror 21 = .ok (.ireturn, 1) := by decide +kernel
theorem dX4_addMirror_22 : decode cX4_addMirror 22 = .ok (.aload_n 0, 1) := by decide +kernel
theorem dX4_addMirror_23 : decode cX4_addMirror 23 = .ok (.dup, 1) := by decide +kernel
theorem dX4_addMirror_24 : decode cX4_addMirror 24 = .ok (.getfield 83, 3) := by decide +kernel
theorem dX4_addMirror_27 : decode cX4_addMirror 27 = .ok (.iconst 1, 1) := by decide +kernel
theorem dX4_addMirror_28 : decode cX4_addMirror 28 = .ok (.iadd, 1) := by decide +kernel
theorem dX4_addMirror_29 : decode cX4_addMirror 29 = .ok (.putfield 83, 3) := by decide +kernel
theorem dX4_addMirror_32 : decode cX4_addMirror 32 = .ok (.aload_n 0, 1) := by decide +kernel
theorem dX4_addMirror_33 : decode cX4_addMirror 33 = .ok (.getfield 83, 3) := by decide +kernel
theorem dX4_addMirror_36 : decode cX4_addMirror 36 = .ok (.iconst 1, 1) := by decide +kernel
theorem dX4_addMirror_37 : decode cX4_addMirror 37 = .ok (.isub, 1) := by decide +kernel
theorem dX4_addMirror_38 : decode cX4_addMirror 38 = .ok (.ireturn, 1) := by decide +kernel
set_option maxRecDepth 20000 in
theorem ggX4_update_X4_isNoMirror : GoodIn wsX4_update wsX4_isNoMirror := goodIn_r _ [10, 11, 12, 13, 9, 14, 15, 16, 17, 18, 19, 30, 31, 32, 33, 34, 35, 36, 37, 38, 39, 40, 41, 42, 43, 44, 45, 46, 47, 48, 49, 50, 51, 52] (by decide +kernel) (by decide +kernel)
set_option maxRecDepth 20000 in
theorem gX4_update_X4_isNoMirror : GoodIn wsX4_update (wsV RX4 150 RX4 yX4_isNoMirror wsX4_isNoMirror) := goodIn_app (goodIn_of _ (by decide +kernel)) ggX4_update_X4_isNoMirror
set_option maxRecDepth 20000 in
theorem ggX4_update_X4_recalled : GoodIn wsX4_update wsX4_recalled := goodIn_r _ [23, 2, 24, 25, 26, 9, 27, 28, 29, 30, 31, 32, 33, 34, 35, 36, 37, 38, 39, 40, 41, 42, 43, 44, 45, 46, 47, 48, 49, 50, 51, 52] (by decide +kernel) (by decide +kernel)
set_option maxRecDepth 20000 in
theorem gX4_update_X4_recalled : GoodIn wsX4_update (wsV RX4 115 RX4 yX4_recalled wsX4_recalled) := goodIn_app (goodIn_of _ (by decide +kernel)) ggX4_update_X4_recalled
theorem dX4_update_0 : decode cX4_update 0 = .ok (.aload_n 0, 1) := by decide +kernel
theorem dX4_update_1 : decode cX4_update 1 = .ok (.iload_n 1, 1) := by decide +kernel
theorem dX4_update_2 : decode cX4_update 2 = .ok (.invokevirtual 150, 3) := by decide +kernel
theorem dX4_update_5 : decode cX4_update 5 = .ok (.ifCond .eq 5, 3) := by decide +kernel
theorem dX4_update_8 : decode cX4_update 8 = .ok (.iconst 0, 1) := by decide +kernel
theorem dX4_update_9 : decode cX4_update 9 = .ok (.ireturn, 1) := by decide +kernel
theorem dX4_update_10 : decode cX4_update 10 = .ok (.aload_n 0, 1) := by decide +kernel
theorem dX4_update_11 : decode cX4_update 11 = .ok (.getfield 53, 3) := by decide +kernel
theorem dX4_update_14 : decode cX4_update 14 = .ok (.iload_n 1, 1) := by decide +kernel
theorem dX4_update_15 : decode cX4_update 15 = .ok (.iconst 1, 1) := by decide +kernel
theorem dX4_update_16 : decode cX4_update 16 = .ok (.aload_n 0, 1) := by decide +kernel
theorem dX4_update_17 : decode cX4_update 17 = .ok (.getfield 80, 3) := by decide +kernel
theorem dX4_update_20 : decode cX4_update 20 = .ok (.ishl, 1) := by decide +kernel
theorem dX4_update_21 : decode cX4_update 21 = .ok (.iconst 1, 1) := by decide +kernel
theorem dX4_update_22 : decode cX4_update 22 = .ok (.isub, 1) := by decide +kernel
theorem dX4_update_23 : decode cX4_update 23 = .ok (.iastore, 1) := by decide +kernel
theorem dX4_update_24 : decode cX4_update 24 = .ok (.aload_n 0, 1) := by decide +kernel
theorem dX4_update_25 : decode cX4_update 25 = .ok (.getfield 56, 3) := by decide +kernel
theorem dX4_update_28 : decode cX4_update 28 = .ok (.iload_n 1, 1) := by decide +kernel
theorem dX4_update_29 : decode cX4_update 29 = .ok (.aload_n 0, 1) := by decide +kernel
theorem dX4_update_30 : decode cX4_update 30 = .ok (.invokevirtual 115, 3) := by decide +kernel
theorem dX4_update_33 : decode cX4_update 33 = .ok (.iastore, 1) := by decide +kernel
theorem dX4_update_34 : decode cX4_update 34 = .ok (.aload_n 0, 1) := by decide +kernel
theorem dX4_update_35 : decode cX4_update 35 = .ok (.getfield 59, 3) := by decide +kernel
theorem dX4_update_38 : decode cX4_update 38 = .ok (.iload_n 1, 1) := by decide +kernel
theorem dX4_update_39 : decode cX4_update 39 = .ok (.aload_n 0, 1) := by decide +kernel
theorem dX4_update_40 : decode cX4_update 40 = .ok (.getfield 86, 3) := by decide +kernel
theorem dX4_update_43 : decode cX4_update 43 = .ok (.iastore, 1) := by decide +kernel
theorem dX4_update_44 : decode cX4_update 44 = .ok (.aload_n 0, 1) := by decide +kernel
theorem dX4_update_45 : decode cX4_update 45 = .ok (.getfield 80, 3) := by decide +kernel
theorem dX4_update_48 : decode cX4_update 48 = .ok (.ireturn, 1) := by decide +kernel
theorem dX4_isOld_0 : decode cX4_isOld 0 = .ok (.aload_n 0, 1) := by decide +kernel
theorem dX4_isOld_1 : decode cX4_isOld 1 = .ok (.getfield 59, 3) := by decide +kernel
theorem dX4_isOld_4 : decode cX4_isOld 4 = .ok (.iload_n 1, 1) := by decide +kernel
theorem dX4_isOld_5 : decode cX4_isOld 5 = .ok (.iaload, 1) := by decide +kernel
theorem dX4_isOld_6 : decode cX4_isOld 6 = .ok (.ifCond .lt 21, 3) := by decide +kernel
theorem dX4_isOld_9 : decode cX4_isOld 9 = .ok (.aload_n 0, 1) := by decide +kernel
theorem dX4_isOld_10 : decode cX4_isOld 10 = .ok (.getfield 86, 3) := by decide +kernel
theorem dX4_isOld_13 : decode cX4_isOld 13 = .ok (.aload_n 0, 1) := by decide +kernel
theorem dX4_isOld_14 : decode cX4_isOld 14 = .ok (.getfield 59, 3) := by decide +kernel
theorem dX4_isOld_17 : decode cX4_isOld 17 = .ok (.iload_n 1, 1) := by decide +kernel
theorem dX4_isOld_18 : decode cX4_isOld 18 = .ok (.iaload, 1) := by decide +kernel
theorem dX4_isOld_19 : decode cX4_isOld 19 = .ok (.isub, 1) := by decide +kernel
theorem dX4_isOld_20 : decode cX4_isOld 20 = .ok (.aload_n 0, 1) := by decide +kernel
theorem dX4_isOld_21 : decode cX4_isOld 21 = .ok (.getfield 62, 3) := by decide +kernel
theorem dX4_isOld_24 : decode cX4_isOld 24 = .ok (.if_icmp .le 7, 3) := by decide +kernel
theorem dX4_isOld_27 : decode cX4_isOld 27 = .ok (.iconst 1, 1) := by decide +kernel
theorem dX4_isOld_28 : decode cX4_isOld 28 = .ok (.goto 4, 3) := by decide +kernel
theorem dX4_isOld_31 : decode cX4_isOld 31 = .ok (.iconst 0, 1) := by decide +kernel
theorem dX4_isOld_32 : decode cX4_isOld 32 = .ok (.ireturn, 1) := by decide +kernel
set_option maxRecDepth 20000 in
theorem ggX4_isExpired_X4_isNoMirror : GoodIn wsX4_isExpired wsX4_isNoMirror := goodIn_r _ [5, 6, 7, 8, 4, 9, 10, 11, 12, 13, 14, 22, 23, 24, 25, 26, 27, 28, 29, 30, 31, 32, 33, 34, 35, 36, 37, 38, 39, 40, 41, 42, 43, 44] (by decide +kernel) (by decide +kernel)
set_option maxRecDepth 20000 in
theorem gX4_isExpired_X4_isNoMirror : GoodIn wsX4_isExpired (wsV RX4 150 RX4 yX4_isNoMirror wsX4_isNoMirror) := goodIn_app (goodIn_of _ (by decide +kernel)) ggX4_isExpired_X4_isNoMirror
set_option maxRecDepth 20000 in
theorem ggX4_isExpired_X4_isOld : GoodIn wsX4_isExpired wsX4_isOld := goodIn_r _ [18, 19, 20, 21, 22, 23, 24, 25, 26, 27, 28, 29, 30, 31, 32, 33, 34, 35, 36, 37, 38, 39, 40, 41, 42, 43, 44] (by decide +kernel) (by decide +kernel)
set_option maxRecDepth 20000 in
theorem gX4_isExpired_X4_isOld : GoodIn wsX4_isExpired (wsV RX4 153 RX4 yX4_isOld wsX4_isOld) := goodIn_app (goodIn_of _ (by decide +kernel)) ggX4_isExpired_X4_isOld
theorem dX4_isExpired_0 : decode cX4_isExpired 0 = .ok (.aload_n 0, 1) := by decide +kernel
theorem dX4_isExpired_1 : decode cX4_isExpired 1 = .ok (.iload_n 1, 1) := by decide +kernel
theorem dX4_isExpired_2 : decode cX4_isExpired 2 = .ok (.invokevirtual 150, 3) := by decide +kernel
theorem dX4_isExpired_5 : decode cX4_isExpired 5 = .ok (.ifCond .ne 15, 3) := by decide +kernel
theorem dX4_isExpired_8 : decode cX4_isExpired 8 = .ok (.aload_n 0, 1) := by decide +kernel
theorem dX4_isExpired_9 : decode cX4_isExpired 9 = .ok (.iload_n 1, 1) := by decide +kernel
theorem dX4_isExpired_10 : decode cX4_isExpired 10 = .ok (.invokevirtual 153, 3) := by decide +kernel
theorem dX4_isExpired_13 : decode cX4_isExpired 13 = .ok (.ifCond .eq 7, 3) := by decide +kernel
theorem dX4_isExpired_16 : decode cX4_isExpired 16 = .ok (.iconst 1, 1) := by decide +kernel
theorem dX4_isExpired_17 : decode cX4_isExpired 17 = .ok (.goto 4, 3) := by decide +kernel
theorem dX4_isExpired_20 : decode cX4_isExpired 20 = .ok (.iconst 0, 1) := by decide +kernel
theorem dX4_isExpired_21 : decode cX4_isExpired 21 = .ok (.ireturn, 1) := by decide +kernel
set_option maxRecDepth 20000 in
theorem ggX4_setExpiry_X4_in : GoodIn wsX4_setExpiry wsX4_in := goodIn_r _ [5] (by decide +kernel) (by decide +kernel)
set_option maxRecDepth 20000 in
theorem gX4_setExpiry_X4_in : GoodIn wsX4_setExpiry (va_wsS RX4 72 yX4_in wsX4_in) := goodIn_app (goodIn_of _ (by decide +kernel)) ggX4_setExpiry_X4_in
set_option maxRecDepth 20000 in
theorem ggX4_setExpiry_X4_fails : GoodIn wsX4_setExpiry wsX4_fails := goodIn_r _ [9, 10, 11, 12, 13, 14, 15, 16, 17, 18, 19, 20, 21, 22, 23, 24, 25, 26, 27, 28, 29, 30, 31, 32, 33] (by decide +kernel) (by decide +kernel)
set_option maxRecDepth 20000 in
theorem gX4_setExpiry_X4_fails : GoodIn wsX4_setExpiry (wsV RX4 76 RX4 yX4_fails wsX4_fails) := goodIn_app (goodIn_of _ (by decide +kernel)) ggX4_setExpiry_X4_fails
theorem dX4_setExpiry_0 : decode cX4_setExpiry 0 = .ok (.aload_n 0, 1) := by decide +kernel
theorem dX4_setExpiry_1 : decode cX4_setExpiry 1 = .ok (.iload_n 1, 1) := by decide +kernel
theorem dX4_setExpiry_2 : decode cX4_setExpiry 2 = .ok (.iconst 0, 1) := by decide +kernel
theorem dX4_setExpiry_3 : decode cX4_setExpiry 3 = .ok (.bipush 99, 2) := by decide +kernel
theorem dX4_setExpiry_5 : decode cX4_setExpiry 5 = .ok (.invokestatic 72, 3) := by decide +kernel
theorem dX4_setExpiry_8 : decode cX4_setExpiry 8 = .ok (.ifCond .eq 7, 3) := by decide +kernel
theorem dX4_setExpiry_11 : decode cX4_setExpiry 11 = .ok (.iconst 0, 1) := by decide +kernel
theorem dX4_setExpiry_12 : decode cX4_setExpiry 12 = .ok (.goto 4, 3) := by decide +kernel
theorem dX4_setExpiry_15 : decode cX4_setExpiry 15 = .ok (.iconst 1, 1) := by decide +kernel
theorem dX4_setExpiry_16 : decode cX4_setExpiry 16 = .ok (.invokevirtual 76, 3) := by decide +kernel
theorem dX4_setExpiry_19 : decode cX4_setExpiry 19 = .ok (.ifCond .eq 5, 3) := by decide +kernel
theorem dX4_setExpiry_22 : decode cX4_setExpiry 22 = .ok (.iconst 0, 1) := by decide +kernel
theorem dX4_setExpiry_23 : decode cX4_setExpiry 23 = .ok (.ireturn, 1) := by decide +kernel
theorem dX4_setExpiry_24 : decode cX4_setExpiry 24 = .ok (.aload_n 0, 1) := by decide +kernel
theorem dX4_setExpiry_25 : decode cX4_setExpiry 25 = .ok (.getfield 62, 3) := by decide +kernel
theorem dX4_setExpiry_28 : decode cX4_setExpiry 28 = .ok (.istore_n 2, 1) := by decide +kernel
theorem dX4_setExpiry_29 : decode cX4_setExpiry 29 = .ok (.aload_n 0, 1) := by decide +kernel
theorem dX4_setExpiry_30 : decode cX4_setExpiry 30 = .ok (.iload_n 1, 1) := by decide +kernel
theorem dX4_setExpiry_31 : decode cX4_setExpiry 31 = .ok (.putfield 62, 3) := by decide +kernel
theorem dX4_setExpiry_34 : decode cX4_setExpiry 34 = .ok (.iload_n 2, 1) := by decide +kernel
theorem dX4_setExpiry_35 : decode cX4_setExpiry 35 = .ok (.ireturn, 1) := by decide +kernel
set_option maxRecDepth 20000 in
theorem ggX4_install_X4_isNoMirror : GoodIn wsX4_install wsX4_isNoMirror := goodIn_r _ [7, 8, 9, 10, 6, 11, 12, 13, 14, 15, 16, 66, 67, 68, 69, 70, 71, 72, 73, 74, 75, 76, 77, 78, 79, 80, 81, 82, 83, 84, 85, 86, 87, 88] (by decide +kernel) (by decide +kernel)
set_option maxRecDepth 20000 in
theorem gX4_install_X4_isNoMirror : GoodIn wsX4_install (wsV RX4 150 RX4 yX4_isNoMirror wsX4_isNoMirror) := goodIn_app (goodIn_of _ (by decide +kernel)) ggX4_install_X4_isNoMirror
set_option maxRecDepth 20000 in
theorem ggX4_install_X4_isNoName : GoodIn wsX4_install wsX4_isNoName := goodIn_r _ [19, 9, 10, 6, 11] (by decide +kernel) (by decide +kernel)
set_option maxRecDepth 20000 in
theorem gX4_install_X4_isNoName : GoodIn wsX4_install (va_wsS RX4 103 yX4_isNoName wsX4_isNoName) := goodIn_app (goodIn_of _ (by decide +kernel)) ggX4_install_X4_isNoName
set_option maxRecDepth 20000 in
theorem ggX4_install_X4_isOld : GoodIn wsX4_install wsX4_isOld := goodIn_r _ [23, 24, 25, 26, 66, 67, 68, 69, 70, 71, 72, 73, 74, 75, 76, 77, 78, 79, 80, 81, 82, 83, 84, 85, 86, 87, 88] (by decide +kernel) (by decide +kernel)
set_option maxRecDepth 20000 in
theorem gX4_install_X4_isOld : GoodIn wsX4_install (wsV RX4 153 RX4 yX4_isOld wsX4_isOld) := goodIn_app (goodIn_of _ (by decide +kernel)) ggX4_install_X4_isOld
set_option maxRecDepth 20000 in
theorem ggX4_install_X4_fails : GoodIn wsX4_install wsX4_fails := goodIn_r _ [15, 16, 66, 67, 68, 69, 70, 71, 72, 73, 74, 75, 76, 77, 78, 79, 80, 81, 82, 83, 84, 85, 86, 87, 88] (by decide +kernel) (by decide +kernel)
set_option maxRecDepth 20000 in
theorem gX4_install_X4_fails : GoodIn wsX4_install (wsV RX4 76 RX4 yX4_fails wsX4_fails) := goodIn_app (goodIn_of _ (by decide +kernel)) ggX4_install_X4_fails
set_option maxRecDepth 20000 in
theorem ggX4_install_X4_trusted : GoodIn wsX4_install wsX4_trusted := goodIn_r _ [30, 31, 32, 33, 6, 34, 35, 36, 37, 38, 39, 40, 41, 42, 43, 44, 45, 46, 47, 48, 49, 50, 51, 52, 53, 54, 55, 56, 57, 58, 59, 25, 60, 61, 9, 10, 11, 66, 67, 68, 69, 70, 71, 72, 73, 74, 75, 76, 77, 78, 79, 80, 81, 82, 83, 84, 85, 86, 87, 88] (by decide +kernel) (by decide +kernel)
set_option maxRecDepth 20000 in
theorem gX4_install_X4_trusted : GoodIn wsX4_install (wsV RX4 92 RX4 yX4_trusted wsX4_trusted) := goodIn_app (goodIn_of _ (by decide +kernel)) ggX4_install_X4_trusted
set_option maxRecDepth 20000 in
theorem ggX4_install_X4_greatest : GoodIn wsX4_install wsX4_greatest := goodIn_r _ [65, 35, 41, 66, 67, 68, 69, 70, 71, 72, 73, 74, 75, 76, 77, 78, 79, 80, 81, 82, 83, 84, 85, 86, 87, 88] (by decide +kernel) (by decide +kernel)
set_option maxRecDepth 20000 in
theorem gX4_install_X4_greatest : GoodIn wsX4_install (wsV RX4 118 RX4 yX4_greatest wsX4_greatest) := goodIn_app (goodIn_of _ (by decide +kernel)) ggX4_install_X4_greatest
theorem dX4_install_0 : decode cX4_install 0 = .ok (.aload_n 0, 1) := by decide +kernel
theorem dX4_install_1 : decode cX4_install 1 = .ok (.iload_n 1, 1) := by decide +kernel
theorem dX4_install_2 : decode cX4_install 2 = .ok (.invokevirtual 150, 3) := by decide +kernel
theorem dX4_install_5 : decode cX4_install 5 = .ok (.ifCond .ne 34, 3) := by decide +kernel
theorem dX4_install_8 : decode cX4_install 8 = .ok (.aload_n 0, 1) := by decide +kernel
theorem dX4_install_9 : decode cX4_install 9 = .ok (.iload_n 2, 1) := by decide +kernel
theorem dX4_install_10 : decode cX4_install 10 = .ok (.invokestatic 103, 3) := by decide +kernel
theorem dX4_install_13 : decode cX4_install 13 = .ok (.ifCond .eq 7, 3) := by decide +kernel
theorem dX4_install_16 : decode cX4_install 16 = .ok (.iconst 2, 1) := by decide +kernel
theorem dX4_install_17 : decode cX4_install 17 = .ok (.goto 16, 3) := by decide +kernel
theorem dX4_install_20 : decode cX4_install 20 = .ok (.aload_n 0, 1) := by decide +kernel
theorem dX4_install_21 : decode cX4_install 21 = .ok (.iload_n 1, 1) := by decide +kernel
theorem dX4_install_22 : decode cX4_install 22 = .ok (.invokevirtual 153, 3) := by decide +kernel
theorem dX4_install_25 : decode cX4_install 25 = .ok (.ifCond .eq 7, 3) := by decide +kernel
theorem dX4_install_28 : decode cX4_install 28 = .ok (.iconst 3, 1) := by decide +kernel
theorem dX4_install_29 : decode cX4_install 29 = .ok (.goto 4, 3) := by decide +kernel
theorem dX4_install_32 : decode cX4_install 32 = .ok (.iconst 0, 1) := by decide +kernel
theorem dX4_install_33 : decode cX4_install 33 = .ok (.invokevirtual 76, 3) := by decide +kernel
theorem dX4_install_36 : decode cX4_install 36 = .ok (.ifCond .eq 5, 3) := by decide +kernel
theorem dX4_install_39 : decode cX4_install 39 = .ok (.iconst 0, 1) := by decide +kernel
theorem dX4_install_40 : decode cX4_install 40 = .ok (.ireturn, 1) := by decide +kernel
theorem dX4_install_41 : decode cX4_install 41 = .ok (.aload_n 0, 1) := by decide +kernel
theorem dX4_install_42 : decode cX4_install 42 = .ok (.iload_n 2, 1) := by decide +kernel
theorem dX4_install_43 : decode cX4_install 43 = .ok (.aload_n 0, 1) := by decide +kernel
theorem dX4_install_44 : decode cX4_install 44 = .ok (.getfield 53, 3) := by decide +kernel
theorem dX4_install_47 : decode cX4_install 47 = .ok (.iload_n 1, 1) := by decide +kernel
theorem dX4_install_48 : decode cX4_install 48 = .ok (.iaload, 1) := by decide +kernel
theorem dX4_install_49 : decode cX4_install 49 = .ok (.aload_n 0, 1) := by decide +kernel
theorem dX4_install_50 : decode cX4_install 50 = .ok (.getfield 56, 3) := by decide +kernel
theorem dX4_install_53 : decode cX4_install 53 = .ok (.iload_n 1, 1) := by decide +kernel
theorem dX4_install_54 : decode cX4_install 54 = .ok (.iaload, 1) := by decide +kernel
theorem dX4_install_55 : decode cX4_install 55 = .ok (.iconst (-1), 1) := by decide +kernel
theorem dX4_install_56 : decode cX4_install 56 = .ok (.ixor, 1) := by decide +kernel
theorem dX4_install_57 : decode cX4_install 57 = .ok (.iand, 1) := by decide +kernel
theorem dX4_install_58 : decode cX4_install 58 = .ok (.aload_n 0, 1) := by decide +kernel
theorem dX4_install_59 : decode cX4_install 59 = .ok (.invokevirtual 92, 3) := by decide +kernel
theorem dX4_install_62 : decode cX4_install 62 = .ok (.iand, 1) := by decide +kernel
theorem dX4_install_63 : decode cX4_install 63 = .ok (.invokevirtual 118, 3) := by decide +kernel
theorem dX4_install_66 : decode cX4_install 66 = .ok (.istore_n 3, 1) := by decide +kernel
theorem dX4_install_67 : decode cX4_install 67 = .ok (.aload_n 0, 1) := by decide +kernel
theorem dX4_install_68 : decode cX4_install 68 = .ok (.iload_n 3, 1) := by decide +kernel
theorem dX4_install_69 : decode cX4_install 69 = .ok (.ifCond .ge 7, 3) := by decide +kernel
theorem dX4_install_72 : decode cX4_install 72 = .ok (.iconst 4, 1) := by decide +kernel
theorem dX4_install_73 : decode cX4_install 73 = .ok (.goto 4, 3) := by decide +kernel
theorem dX4_install_76 : decode cX4_install 76 = .ok (.iconst 0, 1) := by decide +kernel
theorem dX4_install_77 : decode cX4_install 77 = .ok (.invokevirtual 76, 3) := by decide +kernel
theorem dX4_install_80 : decode cX4_install 80 = .ok (.ifCond .eq 7, 3) := by decide +kernel
theorem dX4_install_83 : decode cX4_install 83 = .ok (.iconst 0, 1) := by decide +kernel
theorem dX4_install_84 : decode cX4_install 84 = .ok (.goto 4, 3) := by decide +kernel
theorem dX4_install_87 : decode cX4_install 87 = .ok (.iload_n 3, 1) := by decide +kernel
theorem dX4_install_88 : decode cX4_install 88 = .ok (.ireturn, 1) := by decide +kernel
set_option maxRecDepth 20000 in
theorem ggX4_pass_X4_in : GoodIn wsX4_pass wsX4_in := goodIn_r _ [5] (by decide +kernel) (by decide +kernel)
set_option maxRecDepth 20000 in
theorem gX4_pass_X4_in : GoodIn wsX4_pass (va_wsS RX4 72 yX4_in wsX4_in) := goodIn_app (goodIn_of _ (by decide +kernel)) ggX4_pass_X4_in
set_option maxRecDepth 20000 in
theorem ggX4_pass_X4_fails : GoodIn wsX4_pass wsX4_fails := goodIn_r _ [9, 10, 49, 50, 51, 52, 53, 54, 55, 56, 57, 58, 59, 60, 61, 62, 63, 64, 65, 66, 67, 68, 69, 70, 71] (by decide +kernel) (by decide +kernel)
set_option maxRecDepth 20000 in
theorem gX4_pass_X4_fails : GoodIn wsX4_pass (wsV RX4 76 RX4 yX4_fails wsX4_fails) := goodIn_app (goodIn_of _ (by decide +kernel)) ggX4_pass_X4_fails
set_option maxRecDepth 20000 in
theorem ggX4_pass_X4_trusted : GoodIn wsX4_pass wsX4_trusted := goodIn_r _ [14, 15, 16, 17, 4, 18, 19, 20, 21, 22, 23, 24, 25, 26, 27, 28, 29, 30, 31, 32, 33, 34, 35, 36, 37, 38, 39, 40, 41, 42, 43, 1, 44, 45, 2, 3, 5, 49, 50, 51, 52, 53, 54, 55, 56, 57, 58, 59, 60, 61, 62, 63, 64, 65, 66, 67, 68, 69, 70, 71] (by decide +kernel) (by decide +kernel)
set_option maxRecDepth 20000 in
theorem gX4_pass_X4_trusted : GoodIn wsX4_pass (wsV RX4 92 RX4 yX4_trusted wsX4_trusted) := goodIn_app (goodIn_of _ (by decide +kernel)) ggX4_pass_X4_trusted
set_option maxRecDepth 20000 in
theorem ggX4_pass_X4_bits : GoodIn wsX4_pass wsX4_bits := goodIn_r _ [48] (by decide +kernel) (by decide +kernel)
set_option maxRecDepth 20000 in
theorem gX4_pass_X4_bits : GoodIn wsX4_pass (va_wsS RX4 96 yX4_bits wsX4_bits) := goodIn_app (goodIn_of _ (by decide +kernel)) ggX4_pass_X4_bits
theorem dX4_pass_0 : decode cX4_pass 0 = .ok (.aload_n 0, 1) := by decide +kernel
theorem dX4_pass_1 : decode cX4_pass 1 = .ok (.iload_n 1, 1) := by decide +kernel
theorem dX4_pass_2 : decode cX4_pass 2 = .ok (.iconst 1, 1) := by decide +kernel
theorem dX4_pass_3 : decode cX4_pass 3 = .ok (.bipush 60, 2) := by decide +kernel
theorem dX4_pass_5 : decode cX4_pass 5 = .ok (.invokestatic 72, 3) := by decide +kernel
theorem dX4_pass_8 : decode cX4_pass 8 = .ok (.ifCond .eq 19, 3) := by decide +kernel
theorem dX4_pass_11 : decode cX4_pass 11 = .ok (.aload_n 0, 1) := by decide +kernel
theorem dX4_pass_12 : decode cX4_pass 12 = .ok (.getfield 86, 3) := by decide +kernel
theorem dX4_pass_15 : decode cX4_pass 15 = .ok (.iload_n 1, 1) := by decide +kernel
theorem dX4_pass_16 : decode cX4_pass 16 = .ok (.iadd, 1) := by decide +kernel
theorem dX4_pass_17 : decode cX4_pass 17 = .ok (.sipush 999, 3) := by decide +kernel
theorem dX4_pass_20 : decode cX4_pass 20 = .ok (.if_icmp .gt 7, 3) := by decide +kernel
theorem dX4_pass_23 : decode cX4_pass 23 = .ok (.iconst 0, 1) := by decide +kernel
theorem dX4_pass_24 : decode cX4_pass 24 = .ok (.goto 4, 3) := by decide +kernel
theorem dX4_pass_27 : decode cX4_pass 27 = .ok (.iconst 1, 1) := by decide +kernel
theorem dX4_pass_28 : decode cX4_pass 28 = .ok (.invokevirtual 76, 3) := by decide +kernel
theorem dX4_pass_31 : decode cX4_pass 31 = .ok (.ifCond .eq 5, 3) := by decide +kernel
theorem dX4_pass_34 : decode cX4_pass 34 = .ok (.iconst 0, 1) := by decide +kernel
theorem dX4_pass_35 : decode cX4_pass 35 = .ok (.ireturn, 1) := by decide +kernel
theorem dX4_pass_36 : decode cX4_pass 36 = .ok (.aload_n 0, 1) := by decide +kernel
theorem dX4_pass_37 : decode cX4_pass 37 = .ok (.invokevirtual 92, 3) := by decide +kernel
theorem dX4_pass_40 : decode cX4_pass 40 = .ok (.istore_n 2, 1) := by decide +kernel
theorem dX4_pass_41 : decode cX4_pass 41 = .ok (.aload_n 0, 1) := by decide +kernel
theorem dX4_pass_42 : decode cX4_pass 42 = .ok (.dup, 1) := by decide +kernel
theorem dX4_pass_43 : decode cX4_pass 43 = .ok (.getfield 86, 3) := by decide +kernel
theorem dX4_pass_46 : decode cX4_pass 46 = .ok (.iload_n 1, 1) := by decide +kernel
theorem dX4_pass_47 : decode cX4_pass 47 = .ok (.iadd, 1) := by decide +kernel
theorem dX4_pass_48 : decode cX4_pass 48 = .ok (.putfield 86, 3) := by decide +kernel
theorem dX4_pass_51 : decode cX4_pass 51 = .ok (.iload_n 2, 1) := by decide +kernel
theorem dX4_pass_52 : decode cX4_pass 52 = .ok (.aload_n 0, 1) := by decide +kernel
theorem dX4_pass_53 : decode cX4_pass 53 = .ok (.invokevirtual 92, 3) := by decide +kernel
theorem dX4_pass_56 : decode cX4_pass 56 = .ok (.iconst (-1), 1) := by decide +kernel
theorem dX4_pass_57 : decode cX4_pass 57 = .ok (.ixor, 1) := by decide +kernel
theorem dX4_pass_58 : decode cX4_pass 58 = .ok (.iand, 1) := by decide +kernel
theorem dX4_pass_59 : decode cX4_pass 59 = .ok (.invokestatic 96, 3) := by decide +kernel
theorem dX4_pass_62 : decode cX4_pass 62 = .ok (.ireturn, 1) := by decide +kernel
set_option maxRecDepth 20000 in
theorem ggX4_day_X4_tells : GoodIn wsX4_day wsX4_tells := goodIn_r _ [6, 7, 8, 9, 10, 11, 12, 13, 14, 15, 16, 17, 18, 19, 20, 21, 22, 23, 24, 25, 26, 27, 28, 29, 30] (by decide +kernel) (by decide +kernel)
set_option maxRecDepth 20000 in
theorem gX4_day_X4_tells : GoodIn wsX4_day (wsV RX4 156 RX4 yX4_tells wsX4_tells) := goodIn_app (goodIn_of _ (by decide +kernel)) ggX4_day_X4_tells
theorem dX4_day_0 : decode cX4_day 0 = .ok (.aload_n 0, 1) := by decide +kernel
theorem dX4_day_1 : decode cX4_day 1 = .ok (.aload_n 0, 1) := by decide +kernel
theorem dX4_day_2 : decode cX4_day 2 = .ok (.getfield 86, 3) := by decide +kernel
theorem dX4_day_5 : decode cX4_day 5 = .ok (.invokevirtual 156, 3) := by decide +kernel
theorem dX4_day_8 : decode cX4_day 8 = .ok (.ireturn, 1) := by decide +kernel
set_option maxRecDepth 20000 in
theorem ggX4_scoreSumBits_X4_scoreOf : GoodIn wsX4_scoreSumBits wsX4_scoreOf := goodIn_r _ [7, 8, 9, 10, 11, 12, 6, 13, 14, 15, 16, 17, 18, 19, 20, 21, 22, 23, 24, 25, 26, 27, 40, 41, 42, 43, 44, 45, 46, 47, 48, 49, 50, 51, 52, 53, 54, 55, 56, 57, 58, 59, 60, 61, 62] (by decide +kernel) (by decide +kernel)
set_option maxRecDepth 20000 in
theorem gX4_scoreSumBits_X4_scoreOf : GoodIn wsX4_scoreSumBits (wsV RX4 130 RX4 yX4_scoreOf wsX4_scoreOf) := goodIn_app (goodIn_of _ (by decide +kernel)) ggX4_scoreSumBits_X4_scoreOf
set_option maxRecDepth 20000 in
theorem ggX4_scoreSumBits_Jxe99ae_doubleToLongBits_ccdee : GoodIn wsX4_scoreSumBits wsJxe99ae_doubleToLongBits_ccdee := goodIn_r _ [31, 32, 33, 34, 35, 36, 37, 38, 30, 39] (by decide +kernel) (by decide +kernel)
set_option maxRecDepth 20000 in
theorem gX4_scoreSumBits_Jxe99ae_doubleToLongBits_ccdee : GoodIn wsX4_scoreSumBits (va_wsS RX4 159 yJxe99ae_doubleToLongBits_ccdee wsJxe99ae_doubleToLongBits_ccdee) := goodIn_app (goodIn_of _ (by decide +kernel)) ggX4_scoreSumBits_Jxe99ae_doubleToLongBits_ccdee
theorem dX4_scoreSumBits_0 : decode cX4_scoreSumBits 0 = .ok (.aload_n 0, 1) := by decide +kernel
theorem dX4_scoreSumBits_1 : decode cX4_scoreSumBits 1 = .ok (.iconst 0, 1) := by decide +kernel
theorem dX4_scoreSumBits_2 : decode cX4_scoreSumBits 2 = .ok (.putfield 66, 3) := by decide +kernel
theorem dX4_scoreSumBits_5 : decode cX4_scoreSumBits 5 = .ok (.dconst 0, 1) := by decide +kernel
theorem dX4_scoreSumBits_6 : decode cX4_scoreSumBits 6 = .ok (.dstore_n 1, 1) := by decide +kernel
theorem dX4_scoreSumBits_7 : decode cX4_scoreSumBits 7 = .ok (.iconst 0, 1) := by decide +kernel
theorem dX4_scoreSumBits_8 : decode cX4_scoreSumBits 8 = .ok (.istore_n 3, 1) := by decide +kernel
theorem dX4_scoreSumBits_9 : decode cX4_scoreSumBits 9 = .ok (.iload_n 3, 1) := by decide +kernel
theorem dX4_scoreSumBits_10 : decode cX4_scoreSumBits 10 = .ok (.aload_n 0, 1) := by decide +kernel
theorem dX4_scoreSumBits_11 : decode cX4_scoreSumBits 11 = .ok (.getfield 80, 3) := by decide +kernel
theorem dX4_scoreSumBits_14 : decode cX4_scoreSumBits 14 = .ok (.if_icmp .ge 19, 3) := by decide +kernel
theorem dX4_scoreSumBits_17 : decode cX4_scoreSumBits 17 = .ok (.dload_n 1, 1) := by decide +kernel
theorem dX4_scoreSumBits_18 : decode cX4_scoreSumBits 18 = .ok (.aload_n 0, 1) := by decide +kernel
theorem dX4_scoreSumBits_19 : decode cX4_scoreSumBits 19 = .ok (.iload_n 3, 1) := by decide +kernel
theorem dX4_scoreSumBits_20 : decode cX4_scoreSumBits 20 = .ok (.iconst (-1), 1) := by decide +kernel
theorem dX4_scoreSumBits_21 : decode cX4_scoreSumBits 21 = .ok (.invokevirtual 130, 3) := by decide +kernel
theorem dX4_scoreSumBits_24 : decode cX4_scoreSumBits 24 = .ok (.f2d, 1) := by decide +kernel
theorem dX4_scoreSumBits_25 : decode cX4_scoreSumBits 25 = .ok (.dadd, 1) := by decide +kernel
theorem dX4_scoreSumBits_26 : decode cX4_scoreSumBits 26 = .ok (.dstore_n 1, 1) := by decide +kernel
theorem dX4_scoreSumBits_27 : decode cX4_scoreSumBits 27 = .ok (.iinc 3 1, 3) := by decide +kernel
theorem dX4_scoreSumBits_30 : decode cX4_scoreSumBits 30 = .ok (.goto (-21), 3) := by decide +kernel
theorem dX4_scoreSumBits_33 : decode cX4_scoreSumBits 33 = .ok (.dload_n 1, 1) := by decide +kernel
theorem dX4_scoreSumBits_34 : decode cX4_scoreSumBits 34 = .ok (.invokestatic 159, 3) := by decide +kernel
theorem dX4_scoreSumBits_37 : decode cX4_scoreSumBits 37 = .ok (.lreturn, 1) := by decide +kernel
theorem dJxe99ae_isNaN_b9ae7_0 : decode cJxe99ae_isNaN_b9ae7 0 = .ok (.dload_n 0, 1) := by decide +kernel
theorem dJxe99ae_isNaN_b9ae7_1 : decode cJxe99ae_isNaN_b9ae7 1 = .ok (.dload_n 0, 1) := by decide +kernel
theorem dJxe99ae_isNaN_b9ae7_2 : decode cJxe99ae_isNaN_b9ae7 2 = .ok (.dcmp .l, 1) := by decide +kernel
theorem dJxe99ae_isNaN_b9ae7_3 : decode cJxe99ae_isNaN_b9ae7 3 = .ok (.ifCond .eq 7, 3) := by decide +kernel
theorem dJxe99ae_isNaN_b9ae7_6 : decode cJxe99ae_isNaN_b9ae7 6 = .ok (.iconst 1, 1) := by decide +kernel
theorem dJxe99ae_isNaN_b9ae7_7 : decode cJxe99ae_isNaN_b9ae7 7 = .ok (.goto 4, 3) := by decide +kernel
theorem dJxe99ae_isNaN_b9ae7_10 : decode cJxe99ae_isNaN_b9ae7 10 = .ok (.iconst 0, 1) := by decide +kernel
theorem dJxe99ae_isNaN_b9ae7_11 : decode cJxe99ae_isNaN_b9ae7 11 = .ok (.ireturn, 1) := by decide +kernel
set_option maxRecDepth 20000 in
theorem ggJxe99ae_doubleToLongBits_ccdee_Jxe99ae_isNaN_b9ae7 : GoodIn wsJxe99ae_doubleToLongBits_ccdee wsJxe99ae_isNaN_b9ae7 := goodIn_r _ [9] (by decide +kernel) (by decide +kernel)
set_option maxRecDepth 20000 in
theorem gJxe99ae_doubleToLongBits_ccdee_Jxe99ae_isNaN_b9ae7 : GoodIn wsJxe99ae_doubleToLongBits_ccdee (va_wsS RJxe99ae 122 yJxe99ae_isNaN_b9ae7 wsJxe99ae_isNaN_b9ae7) := goodIn_app (goodIn_of _ (by decide +kernel)) ggJxe99ae_doubleToLongBits_ccdee_Jxe99ae_isNaN_b9ae7
theorem dJxe99ae_doubleToLongBits_ccdee_0 : decode cJxe99ae_doubleToLongBits_ccdee 0 = .ok (.dload_n 0, 1) := by decide +kernel
theorem dJxe99ae_doubleToLongBits_ccdee_1 : decode cJxe99ae_doubleToLongBits_ccdee 1 = .ok (.invokestatic 122, 3) := by decide +kernel
theorem dJxe99ae_doubleToLongBits_ccdee_4 : decode cJxe99ae_doubleToLongBits_ccdee 4 = .ok (.ifCond .ne 8, 3) := by decide +kernel
theorem dJxe99ae_doubleToLongBits_ccdee_7 : decode cJxe99ae_doubleToLongBits_ccdee 7 = .ok (.dload_n 0, 1) := by decide +kernel
theorem dJxe99ae_doubleToLongBits_ccdee_8 : decode cJxe99ae_doubleToLongBits_ccdee 8 = .ok (.invokestatic 134, 3) := by decide +kernel
theorem dJxe99ae_doubleToLongBits_ccdee_11 : decode cJxe99ae_doubleToLongBits_ccdee 11 = .ok (.lreturn, 1) := by decide +kernel
theorem dJxe99ae_doubleToLongBits_ccdee_12 : decode cJxe99ae_doubleToLongBits_ccdee 12 = .ok (.ldc2_w 137, 3) := by decide +kernel
theorem dJxe99ae_doubleToLongBits_ccdee_15 : decode cJxe99ae_doubleToLongBits_ccdee 15 = .ok (.lreturn, 1) := by decide +kernel
theorem dJxf58ca_isNaN_12338_0 : decode cJxf58ca_isNaN_12338 0 = .ok (.fload_n 0, 1) := by decide +kernel
theorem dJxf58ca_isNaN_12338_1 : decode cJxf58ca_isNaN_12338 1 = .ok (.fload_n 0, 1) := by decide +kernel
theorem dJxf58ca_isNaN_12338_2 : decode cJxf58ca_isNaN_12338 2 = .ok (.fcmp .l, 1) := by decide +kernel
theorem dJxf58ca_isNaN_12338_3 : decode cJxf58ca_isNaN_12338 3 = .ok (.ifCond .eq 7, 3) := by decide +kernel
theorem dJxf58ca_isNaN_12338_6 : decode cJxf58ca_isNaN_12338 6 = .ok (.iconst 1, 1) := by decide +kernel
theorem dJxf58ca_isNaN_12338_7 : decode cJxf58ca_isNaN_12338 7 = .ok (.goto 4, 3) := by decide +kernel
theorem dJxf58ca_isNaN_12338_10 : decode cJxf58ca_isNaN_12338 10 = .ok (.iconst 0, 1) := by decide +kernel
theorem dJxf58ca_isNaN_12338_11 : decode cJxf58ca_isNaN_12338 11 = .ok (.ireturn, 1) := by decide +kernel
set_option maxRecDepth 20000 in
theorem ggJxf58ca_floatToIntBits_5c35a_Jxf58ca_isNaN_12338 : GoodIn wsJxf58ca_floatToIntBits_5c35a wsJxf58ca_isNaN_12338 := goodIn_r _ [9] (by decide +kernel) (by decide +kernel)
set_option maxRecDepth 20000 in
theorem gJxf58ca_floatToIntBits_5c35a_Jxf58ca_isNaN_12338 : GoodIn wsJxf58ca_floatToIntBits_5c35a (va_wsS RJxf58ca 59 yJxf58ca_isNaN_12338 wsJxf58ca_isNaN_12338) := goodIn_app (goodIn_of _ (by decide +kernel)) ggJxf58ca_floatToIntBits_5c35a_Jxf58ca_isNaN_12338
theorem dJxf58ca_floatToIntBits_5c35a_0 : decode cJxf58ca_floatToIntBits_5c35a 0 = .ok (.fload_n 0, 1) := by decide +kernel
theorem dJxf58ca_floatToIntBits_5c35a_1 : decode cJxf58ca_floatToIntBits_5c35a 1 = .ok (.invokestatic 59, 3) := by decide +kernel
theorem dJxf58ca_floatToIntBits_5c35a_4 : decode cJxf58ca_floatToIntBits_5c35a 4 = .ok (.ifCond .ne 8, 3) := by decide +kernel
theorem dJxf58ca_floatToIntBits_5c35a_7 : decode cJxf58ca_floatToIntBits_5c35a 7 = .ok (.fload_n 0, 1) := by decide +kernel
theorem dJxf58ca_floatToIntBits_5c35a_8 : decode cJxf58ca_floatToIntBits_5c35a 8 = .ok (.invokestatic 74, 3) := by decide +kernel
theorem dJxf58ca_floatToIntBits_5c35a_11 : decode cJxf58ca_floatToIntBits_5c35a 11 = .ok (.ireturn, 1) := by decide +kernel
theorem dJxf58ca_floatToIntBits_5c35a_12 : decode cJxf58ca_floatToIntBits_5c35a 12 = .ok (.ldc 77, 2) := by decide +kernel
theorem dJxf58ca_floatToIntBits_5c35a_14 : decode cJxf58ca_floatToIntBits_5c35a 14 = .ok (.ireturn, 1) := by decide +kernel
theorem dJ6_bitCount_0f7a4_0 : decode cJ6_bitCount_0f7a4 0 = .ok (.iload_n 0, 1) := by decide +kernel
theorem dJ6_bitCount_0f7a4_1 : decode cJ6_bitCount_0f7a4 1 = .ok (.iload_n 0, 1) := by decide +kernel
theorem dJ6_bitCount_0f7a4_2 : decode cJ6_bitCount_0f7a4 2 = .ok (.iconst 1, 1) := by decide +kernel
theorem dJ6_bitCount_0f7a4_3 : decode cJ6_bitCount_0f7a4 3 = .ok (.iushr, 1) := by decide +kernel
theorem dJ6_bitCount_0f7a4_4 : decode cJ6_bitCount_0f7a4 4 = .ok (.ldc_w 265, 3) := by decide +kernel
theorem dJ6_bitCount_0f7a4_7 : decode cJ6_bitCount_0f7a4 7 = .ok (.iand, 1) := by decide +kernel
theorem dJ6_bitCount_0f7a4_8 : decode cJ6_bitCount_0f7a4 8 = .ok (.isub, 1) := by decide +kernel
theorem dJ6_bitCount_0f7a4_9 : decode cJ6_bitCount_0f7a4 9 = .ok (.istore_n 0, 1) := by decide +kernel
theorem dJ6_bitCount_0f7a4_10 : decode cJ6_bitCount_0f7a4 10 = .ok (.iload_n 0, 1) := by decide +kernel
theorem dJ6_bitCount_0f7a4_11 : decode cJ6_bitCount_0f7a4 11 = .ok (.ldc_w 266, 3) := by decide +kernel
theorem dJ6_bitCount_0f7a4_14 : decode cJ6_bitCount_0f7a4 14 = .ok (.iand, 1) := by decide +kernel
theorem dJ6_bitCount_0f7a4_15 : decode cJ6_bitCount_0f7a4 15 = .ok (.iload_n 0, 1) := by decide +kernel
theorem dJ6_bitCount_0f7a4_16 : decode cJ6_bitCount_0f7a4 16 = .ok (.iconst 2, 1) := by decide +kernel
theorem dJ6_bitCount_0f7a4_17 : decode cJ6_bitCount_0f7a4 17 = .ok (.iushr, 1) := by decide +kernel
theorem dJ6_bitCount_0f7a4_18 : decode cJ6_bitCount_0f7a4 18 = .ok (.ldc_w 266, 3) := by decide +kernel
theorem dJ6_bitCount_0f7a4_21 : decode cJ6_bitCount_0f7a4 21 = .ok (.iand, 1) := by decide +kernel
theorem dJ6_bitCount_0f7a4_22 : decode cJ6_bitCount_0f7a4 22 = .ok (.iadd, 1) := by decide +kernel
theorem dJ6_bitCount_0f7a4_23 : decode cJ6_bitCount_0f7a4 23 = .ok (.istore_n 0, 1) := by decide +kernel
theorem dJ6_bitCount_0f7a4_24 : decode cJ6_bitCount_0f7a4 24 = .ok (.iload_n 0, 1) := by decide +kernel
theorem dJ6_bitCount_0f7a4_25 : decode cJ6_bitCount_0f7a4 25 = .ok (.iload_n 0, 1) := by decide +kernel
theorem dJ6_bitCount_0f7a4_26 : decode cJ6_bitCount_0f7a4 26 = .ok (.iconst 4, 1) := by decide +kernel
theorem dJ6_bitCount_0f7a4_27 : decode cJ6_bitCount_0f7a4 27 = .ok (.iushr, 1) := by decide +kernel
theorem dJ6_bitCount_0f7a4_28 : decode cJ6_bitCount_0f7a4 28 = .ok (.iadd, 1) := by decide +kernel
theorem dJ6_bitCount_0f7a4_29 : decode cJ6_bitCount_0f7a4 29 = .ok (.ldc_w 267, 3) := by decide +kernel
theorem dJ6_bitCount_0f7a4_32 : decode cJ6_bitCount_0f7a4 32 = .ok (.iand, 1) := by decide +kernel
theorem dJ6_bitCount_0f7a4_33 : decode cJ6_bitCount_0f7a4 33 = .ok (.istore_n 0, 1) := by decide +kernel
theorem dJ6_bitCount_0f7a4_34 : decode cJ6_bitCount_0f7a4 34 = .ok (.iload_n 0, 1) := by decide +kernel
theorem dJ6_bitCount_0f7a4_35 : decode cJ6_bitCount_0f7a4 35 = .ok (.iload_n 0, 1) := by decide +kernel
theorem dJ6_bitCount_0f7a4_36 : decode cJ6_bitCount_0f7a4 36 = .ok (.bipush 8, 2) := by decide +kernel
theorem dJ6_bitCount_0f7a4_38 : decode cJ6_bitCount_0f7a4 38 = .ok (.iushr, 1) := by decide +kernel
theorem dJ6_bitCount_0f7a4_39 : decode cJ6_bitCount_0f7a4 39 = .ok (.iadd, 1) := by decide +kernel
theorem dJ6_bitCount_0f7a4_40 : decode cJ6_bitCount_0f7a4 40 = .ok (.istore_n 0, 1) := by decide +kernel
theorem dJ6_bitCount_0f7a4_41 : decode cJ6_bitCount_0f7a4 41 = .ok (.iload_n 0, 1) := by decide +kernel
theorem dJ6_bitCount_0f7a4_42 : decode cJ6_bitCount_0f7a4 42 = .ok (.iload_n 0, 1) := by decide +kernel
theorem dJ6_bitCount_0f7a4_43 : decode cJ6_bitCount_0f7a4 43 = .ok (.bipush 16, 2) := by decide +kernel
theorem dJ6_bitCount_0f7a4_45 : decode cJ6_bitCount_0f7a4 45 = .ok (.iushr, 1) := by decide +kernel
theorem dJ6_bitCount_0f7a4_46 : decode cJ6_bitCount_0f7a4 46 = .ok (.iadd, 1) := by decide +kernel
theorem dJ6_bitCount_0f7a4_47 : decode cJ6_bitCount_0f7a4 47 = .ok (.istore_n 0, 1) := by decide +kernel
theorem dJ6_bitCount_0f7a4_48 : decode cJ6_bitCount_0f7a4 48 = .ok (.iload_n 0, 1) := by decide +kernel
theorem dJ6_bitCount_0f7a4_49 : decode cJ6_bitCount_0f7a4 49 = .ok (.bipush 63, 2) := by decide +kernel
theorem dJ6_bitCount_0f7a4_51 : decode cJ6_bitCount_0f7a4 51 = .ok (.iand, 1) := by decide +kernel
theorem dJ6_bitCount_0f7a4_52 : decode cJ6_bitCount_0f7a4 52 = .ok (.ireturn, 1) := by decide +kernel
set_option maxRecDepth 20000 in
theorem ggL_addKey_X3_addKey : GoodIn wsL_addKey wsX3_addKey := goodIn_ca (goodIn_ca (goodIn_r _ [7, 8, 9, 10, 11, 12, 13, 14, 15, 16, 6, 17, 18, 19, 20, 21, 22, 23, 24, 25, 26, 27, 28, 29, 30, 31, 32, 33, 34, 35, 36, 37] (by decide +kernel) (by decide +kernel)) (goodIn_sub (fun _ h => List.mem_cons_of_mem _ (List.mem_append_left _ (List.mem_append_right _ h))) (by decide +kernel))) (goodIn_sub (fun _ h => List.mem_cons_of_mem _ (List.mem_append_right _ h)) (by decide +kernel))
set_option maxRecDepth 20000 in
theorem gL_addKey_X3_addKey : GoodIn wsL_addKey (wsV RL 7 RX3 yX3_addKey wsX3_addKey) := goodIn_app (goodIn_of _ (by decide +kernel)) ggL_addKey_X3_addKey
end
section
/-! The ambient facts (nest links, throws' words, strings, the two statics of Throwable), a world with them (IH), and rows over it. -/
section BASE
def tyL (cy : Nat → ClassId) : List (ClassId × FieldType) := [(cy 0, .int), (cy 1, .boolean), (cy 2, .long), (cy 3, .double)]
/-- fields of nest mates that Buildlots reads and writes -/
def aF : List (Nat × String × String × String) := [(126, RX0, "count", "I"), (133, RX0, "names", "[I"), (136, RX0, "versions", "[I"), (139, RX0, "sources", "[I"), (149, RX0, "attesters", "[I"), (156, RX0, "vouchers", "[I"), (159, RX1, "signers", "[I"), (179, RX0, "marked", "I"), (186, RX0, "told", "[I"), (191, RX0, "results", "[I"), (194, RX0, "confirmed", "[I"), (202, RX2, "count", "I"), (210, RX2, "offered", "[I"), (213, RX2, "updatedOn", "[I"), (55, RX1, "count", "I"), (70, RX1, "lost", "I"), (96, RX1, "lasts", "[I")]
def aM : List (String × Nat × MethodName) := [(RX3, 9, yX1_init), (RX3, 18, yX0_init), (RX3, 25, yX2_init), (RX3, 63, yX1_append), (RX3, 87, yX0_keepVouchers), (RX0, 57, yX1_live), (RX1, 28, yX3_holds), (RX1, 35, yX3_only), (RX0, 62, yX1_signersOf), (RX3, 103, yX1_liveOn), (RX3, 113, yX0_all), (RX0, 51, yX3_only), (RX3, 118, yX0_recalled), (RX3, 129, yX0_append), (RX0, 47, yX3_holds), (RX3, 142, yX0_newestOf), (RX3, 162, yX1_live), (RX3, 165, yX1_signersOf), (RX3, 205, yX2_append)]
def xIAE : String := "java/lang/IllegalArgumentException"
def xISE : String := "java/lang/IllegalStateException"
def xIOB : String := "java/lang/IndexOutOfBoundsException"
def xUOE : String := "java/lang/UnsupportedOperationException"
def xNSE : String := "java/util/NoSuchElementException"
def aC : List String := [xIAE, xISE, xIOB, xUOE, xNSE]
def aD : List MethodName := [⟨"java/lang/Exception", "<init>", "(Ljava/lang/String;)V"⟩, ⟨"java/lang/RuntimeException", "<init>", "(Ljava/lang/String;)V"⟩, ⟨"java/lang/Throwable", "<init>", "(Ljava/lang/String;)V"⟩]
/-- pairs of exceptions that are no kin -/
def aN : List (String × String) := [(xIAE, xISE), (xIAE, xIOB), (xIAE, xUOE), (xIAE, xNSE), (xISE, xIAE), (xISE, xIOB), (xISE, xUOE), (xISE, xNSE), (xIOB, xIAE), (xIOB, xISE), (xIOB, xUOE), (xIOB, xNSE), (xUOE, xIAE), (xUOE, xISE), (xUOE, xIOB), (xUOE, xNSE), (xNSE, xIAE), (xNSE, xISE), (xNSE, xIOB), (xNSE, xUOE)]
def aS : List (Nat × String) := [(101, "the key is lost or its last day has passed"), (106, "no such weight"), (111, "no such threshold"), (116, "an input is no build"), (123, "an input is recalled"), (127, "no room for another build"), (152, "the key is not live or has attested the build"), (154, "the build is recalled"), (182, "the build is marked"), (184, "the build is not marked"), (189, "no room for another result"), (199, "no result was told"), (203, "no room for another mirror"), (220, "no such expiry"), (222, "the list is expired"), (224, "no such number of days"), (231, "no such signer"), (233, "no such name"), (237, "no such key"), (240, "no such build"), (242, "no such mirror"), (244, "no such build of the name"), (50, "no span of days from today on"), (60, "no room for another key"), (77, "the key is lost"), (99, "no later day")]
theorem nw_ct {a b : String} {u U : State} (hvm : u.vm.Alike U.vm) (h : va_Nw (.castable a b) u) : va_Nw (.castable a b) U := by
  have h1 : (Cond.castable a b).before #[] (u.setVm U.vm) = true := by
    rw [Cond.castable_setVm hvm]
    exact h
  have e := Cond.onTables_vm (A := #[]) (A' := #[]) (U := u) (U' := U) U.vm (Cond.castable a b) rfl
  have hU : U.setVm U.vm = U := rfl
  rw [hU] at e
  unfold va_Nw
  rw [← e]
  exact h1
theorem nw_dc {y : MethodName} {u U : State} (hvm : u.vm.Alike U.vm) (h : va_Nw (.declares y) u) : va_Nw (.declares y) U := by
  have h1 : (Cond.declares y).before #[] (u.setVm U.vm) = true := by
    rw [Cond.declares_setVm hvm]
    exact h
  have e := Cond.onTables_vm (A := #[]) (A' := #[]) (U := u) (U' := U) U.vm (Cond.declares y) rfl
  have hU : U.setVm U.vm = U := rfl
  rw [hU] at e
  unfold va_Nw
  rw [← e]
  exact h1
def ambW (U : State) : Prop := (∀ x ∈ aF, va_Nw (.fieldLinkNest RX3 x.1 x.2.1 x.2.2.1 x.2.2.2 RX3) U) ∧ (∀ x ∈ aM, va_Nw (.methodLinkNest x.1 x.2.1 x.2.2 RX3) U) ∧ (∀ x ∈ aC, va_Nw (.castable x x) U) ∧ (∀ x ∈ aD, va_Nw (.declares x) U) ∧ (∀ x ∈ aN, va_Nc x.1 x.2 U) ∧ ∀ x ∈ aS, ∃ a, vk_R RX3 x.1 x.2 a U
def ambZ (h0 : Nat) (U : State) (H : Heap) : Prop := vx_Zq Bundle.tN "UNASSIGNED_STACK" Bundle.steD (fun a => h0 ≤ a) U H ∧ vx_Zq Bundle.tN "SUPPRESSED_SENTINEL" Bundle.listD (fun a => h0 ≤ a) U H
def amb (D : va_G) (cy : Nat → ClassId) (h0 : Nat) (U : State) (H : Heap) : Prop := ambW U ∧ ambZ h0 U H ∧ va_K D vwCl (tyL cy) U ∧ h0 ≤ H.size
theorem ambW.warm {s U : State} (h : ambW s) (hW : s.WarmedH U.vm) : ambW U := by
  obtain ⟨h1, h2, h3, h4, h5, h6⟩ := h
  refine ⟨fun x hx => va_Nw.warmF hW (h1 x hx), fun x hx => va_Nw.warmM hW (h2 x hx), fun x hx => nw_ct hW.alike (h3 x hx), fun x hx => nw_dc hW.alike (h4 x hx), fun x hx => va_Nc.moved hW.alike (h5 x hx), fun x hx => ?_⟩
  obtain ⟨a, ha⟩ := h6 x hx
  exact ⟨a, vk_R.warm hW ha⟩
theorem amb.warm {D : va_G} {cy : Nat → ClassId} {h0 : Nat} {s U : State} {H : Heap} (h : amb D cy h0 s H) (hW : s.WarmedH U.vm) : amb D cy h0 U H :=
  ⟨h.1.warm hW, ⟨vx_Zq.moved hW.alike h.2.1.1, vx_Zq.moved hW.alike h.2.1.2⟩, va_K.moved hW.alike h.2.2.1, h.2.2.2⟩
theorem amb.keep {D : va_G} {cy : Nat → ClassId} {h0 : Nat} {s : State} {H H1 : Heap} (h : amb D cy h0 s H) (hz : H.size ≤ H1.size) (hk : ∀ a : Nat, a < h0 → H1[a]? = H[a]?) : amb D cy h0 s H1 :=
  ⟨h.1, ⟨vx_Zq.kept h.2.1.1 (fun a _ h2 => hk a (Nat.lt_of_not_le h2)), vx_Zq.kept h.2.1.2 (fun a _ h2 => hk a (Nat.lt_of_not_le h2))⟩, h.2.2.1, Nat.le_trans h.2.2.2 hz⟩
/-- a world, its cells apart and all behind h0, and the ambient facts -/
def IH (D : va_G) (cy : Nat → ClassId) (h0 : Nat) (w : va_W) (U : State) (H : Heap) : Prop := amb D cy h0 U H ∧ va_P D vwCl w H ∧ va_D (fun a => h0 ≤ a) w
def pI (D : va_G) (cy : Nat → ClassId) (h0 : Nat) (w : va_W) (U : State) : Prop := IH D cy h0 w U U.heap
variable {D : va_G} {cy : Nat → ClassId} {h0 : Nat} {w w' w1 w2 : va_W} {s U : State} {H H1 : Heap}
theorem IH.warm (h : IH D cy h0 w s H) (hW : s.WarmedH U.vm) (hU : U.heap = H) : IH D cy h0 w U U.heap := by
  rw [hU]; exact ⟨h.1.warm hW, h.2⟩
theorem IH.keep (h : IH D cy h0 w s H) (hz : H.size ≤ H1.size) (hk : ∀ a : Nat, a < H.size → H1[a]? = H[a]?) : IH D cy h0 w s H1 :=
  ⟨h.1.keep hz (fun a ha => hk a (Nat.lt_of_lt_of_le ha h.1.2.2.2)), h.2.1.kept (fun k q hq => hk q.1 (h.2.1 k q hq).lt), h.2.2⟩
theorem pI.blind {av : List Value} : FrameBlind (va_Pc av (pI D cy h0 w)) := fun _ U _ _ h => ⟨h.1, IH.warm h.2 (State.WarmedH.refl U) rfl⟩
theorem IH.preV {b : Nat} {As : List Value} {k0 ci : Nat} {fs : List Value} {q : vw_C} (h : IH D cy h0 w s H) (hr : w[k0]? = some (b, .inr (ci, fs))) (hc : vwCl[ci]? = some q) : PreV s H q.1 b (va_Pc (.ref b :: As) (pI D cy h0 w)) As :=
  ⟨pI.blind, va_recv h.1.2.2.1 h.2.1 hc hr, fun _ hU hW => ⟨rfl, IH.warm h hW hU⟩⟩
theorem IH.preS {As : List Value} (h : IH D cy h0 w s H) : PreS s H (va_Pc As (pI D cy h0 w)) As := ⟨pI.blind, fun _ hU hW => ⟨rfl, IH.warm h hW hU⟩⟩
theorem preT {As : List Value} : PreS s H (va_Pc As (fun _ => True)) As := ⟨fun _ _ _ _ h => h, fun _ _ _ => ⟨rfl, trivial⟩⟩
theorem IH.dA {A : Nat → Prop} (h : IH D cy h0 w s H) (hA : ∀ (k : Nat) (q : Nat × va_E), w[k]? = some q → A q.1) : va_D A w := h.2.2.weaken (fun k q hq _ => hA k q hq)
theorem va_D.addr {A : Nat → Prop} (hD : va_D A w) (he : w.map (·.1) = w'.map (·.1)) : va_D A w' := by
  have key : ∀ (k : Nat) (q : Nat × va_E), w'[k]? = some q → ∃ q0, w[k]? = some q0 ∧ q0.1 = q.1 := by
    intro k q hk
    have h1 : (w'.map (·.1))[k]? = some q.1 := by rw [List.getElem?_map, hk]; rfl
    rw [← he, List.getElem?_map] at h1
    cases h2 : w[k]? with
    | none => rw [h2] at h1; cases h1
    | some q0 => rw [h2] at h1; exact ⟨q0, rfl, Option.some.inj h1⟩
  refine ⟨fun i j x y hi hj hxy => ?_, fun k q hk => ?_⟩
  · obtain ⟨x0, h1, h2⟩ := key i x hi
    obtain ⟨y0, h3, h4⟩ := key j y hj
    exact hD.1 i j x0 y0 h1 h3 (h2.trans (hxy.trans h4.symm))
  · obtain ⟨q0, h1, h2⟩ := key k q hk
    rw [← h2]
    exact hD.2 k q0 h1
theorem va_S.mono {A B : Nat → Prop} {H0 : Heap} {locs : List Loc} (h : va_S A H0 H locs) (hAB : ∀ a, A a → B a) : va_S B H0 H locs := ⟨h.1, fun q h1 h2 => h.2.1 q h1 (fun z => h2 (hAB q z)), fun l hl => hAB _ (h.2.2 l hl)⟩
theorem amb.put {A : Nat → Prop} {H0 : Heap} {locs locs1 : List Loc} (h : amb D cy h0 s H) (hS : va_S A H0 H locs) (hS1 : va_S A H0 H1 locs1) (hA : ∀ a, A a → h0 ≤ a) (hh : h0 ≤ H0.size) : amb D cy h0 s H1 :=
  ⟨h.1, ⟨vx_Zq.kept h.2.1.1 (fun a _ h2 => by have h3 := Nat.lt_of_not_le h2; rw [hS1.2.1 a (Nat.lt_of_lt_of_le h3 hh) (fun z => h2 (hA a z)), hS.2.1 a (Nat.lt_of_lt_of_le h3 hh) (fun z => h2 (hA a z))]),
    vx_Zq.kept h.2.1.2 (fun a _ h2 => by have h3 := Nat.lt_of_not_le h2; rw [hS1.2.1 a (Nat.lt_of_lt_of_le h3 hh) (fun z => h2 (hA a z)), hS.2.1 a (Nat.lt_of_lt_of_le h3 hh) (fun z => h2 (hA a z))])⟩, h.2.2.1, Nat.le_trans hh hS1.1⟩
/-- part of a world -/
theorem IH.sub (h : IH D cy h0 w s H) (is : List Nat) (hn : va_nd is = true) (hs : is.map (fun i => w[i]?) = w'.map some) (hs2 : is.filterMap (fun i => w[i]?) = w') : IH D cy h0 w' s H := ⟨h.1, h.2.1.sub is hs2, h.2.2.sub is hn hs⟩
/-- how an answer or a throw is counted -/
def c1 : Option String → Nat
  | none => 0
  | some _ => 1
def c6 : Option String → Nat
  | none => 0
  | some _ => 6
/-- the ends of methods that change nothing -/
abbrev roI (v : Int32) := va_Qi (fun (r : Int32) (_ : Unit) => r = v) (fun _ _ => True) (fun _ => False)
abbrev roL (v : Int64) := va_Ql (fun (r : Int64) (_ : Unit) => r = v) (fun _ _ => True) (fun _ => False)
abbrev roF (v : UInt32) := va_Qf (fun (r : UInt32) (_ : Unit) => r = v) (fun _ _ => True) (fun _ => False)
abbrev roV := va_Qv (fun (_ : Unit) => True) (fun _ _ => True) (fun _ => False)
/-- .. and of such as leave the world w', changing cells of A alone -/
abbrev rwI (v : Int32) (D : va_G) (cy : Nat → ClassId) (h0 : Nat) (w : va_W) (A : Nat → Prop) := va_Qi (fun (r : Int32) (_ : Unit) => r = v) (fun _ t => pI D cy h0 w t) A
abbrev rwL (v : Int64) (D : va_G) (cy : Nat → ClassId) (h0 : Nat) (w : va_W) (A : Nat → Prop) := va_Ql (fun (r : Int64) (_ : Unit) => r = v) (fun _ t => pI D cy h0 w t) A
abbrev rwF (v : UInt32) (D : va_G) (cy : Nat → ClassId) (h0 : Nat) (w : va_W) (A : Nat → Prop) := va_Qf (fun (r : UInt32) (_ : Unit) => r = v) (fun _ t => pI D cy h0 w t) A
abbrev rwV (D : va_G) (cy : Nat → ClassId) (h0 : Nat) (w : va_W) (A : Nat → Prop) := va_Qv (fun (_ : Unit) => True) (fun _ t => pI D cy h0 w t) A
/-- .. of methods that may throw: they answer where ex is none -/
abbrev xoI (ex : Option String) (v : Int32) := va_Qi (fun (r : Int32) (_ : Unit) => ex = none ∧ r = v) (fun _ _ => True) (fun _ => False)
abbrev xoF (ex : Option String) (v : UInt32) := va_Qf (fun (r : UInt32) (_ : Unit) => ex = none ∧ r = v) (fun _ _ => True) (fun _ => False)
abbrev xoV (ex : Option String) := va_Qv (fun (_ : Unit) => ex = none) (fun _ _ => True) (fun _ => False)
abbrev xwI (ex : Option String) (v : Int32) (D : va_G) (cy : Nat → ClassId) (h0 : Nat) (w : va_W) (A : Nat → Prop) := va_Qi (fun (r : Int32) (_ : Unit) => ex = none ∧ r = v) (fun _ t => pI D cy h0 w t) A
abbrev xx (ex : Option String) := vx_X (fun (_ : Unit) => True) (fun E _ _ => ex = some E) (fun _ => False)
abbrev rmX (ex : Option String) (f n : Nat) : Room := { frames := f, cells := c1 ex, slots := c6 ex, locals := n }
abbrev rmO (f n : Nat) : Room := { frames := f, cells := 0, slots := 0, locals := n }
abbrev nof : Addr → Prop := fun _ => False
end BASE
end
section
/-! Rows over a world with the ambient facts (IH): calls, ends, throws, reads and writes. Written by wip/whole/gen/rows11.py. -/
section ROWS
variable {p : Program} {l : Launch} {e : Env} {R : Room} {s : State} {m : MethodId} {args : Array Value} {below : List Frame} {meth : Method} {c : Code} {H : Heap} {locs : List Loc} {cells slots : Nat} {Q : State → Prop}
variable {cc : ByteArray} {pc : Nat} {ls : Array Slot} {rest st0 : List Value} {D : va_G} {cy : Nat → ClassId} {h0 : Nat} {w w' : va_W} {A0 A1 : Nat → Prop} {H0 : Heap} {a : Array Value} {ex : Option String}
theorem ro_i {v : Int32} (hr : va_Run p l e R s m args below meth c H locs cells slots 0 0 (F0 m pc ls st0) rest (roI v a) nof) (hI : IH D cy h0 w s H) (hS : va_S A0 H0 H locs)
    (kk : ∀ (H1 : Heap) (locs1 : List Loc), IH D cy h0 w s H1 → va_S A0 H0 H1 locs1 → W p l e R s m args below meth c H1 locs1 cells slots Q (F0 m (pc + 3) ls (.int v :: rest))) : W p l e R s m args below meth c H locs cells slots Q (F0 m pc ls st0) :=
  va_calli hr hS (fun q _ h => h.elim) (fun q h => h.elim) (fun r u t H1 locs1 ht hvm hw hB hz1 hk1 hS1 => by
    subst hw
    exact kk H1 locs1 (hI.keep hz1 (fun q hq => hk1 q hq (fun h => h))) hS1)
theorem rw_i {v : Int32} (hr : va_Run p l e R s m args below meth c H locs cells slots 0 0 (F0 m pc ls st0) rest (rwI v D cy h0 w' A1 a) A1) (hI : IH D cy h0 w s H) (hS : va_S A0 H0 H locs) (hA : ∀ q, A1 q → A0 q) (hh : ∀ q, A1 q → h0 ≤ q)
    (kk : ∀ (H1 : Heap) (locs1 : List Loc), IH D cy h0 w' s H1 → va_S A0 H0 H1 locs1 → W p l e R s m args below meth c H1 locs1 cells slots Q (F0 m (pc + 3) ls (.int v :: rest))) : W p l e R s m args below meth c H locs cells slots Q (F0 m pc ls st0) :=
  va_calli hr hS (fun q _ h => hA q h) hA (fun r u t H1 locs1 ht hvm hw hB hz1 hk1 hS1 => by
    subst hw
    have hB' : IH D cy h0 w' t t.heap := hB
    rw [ht] at hB'
    exact kk H1 locs1 ⟨hI.1.keep hz1 (fun q hq => hk1 q (Nat.lt_of_lt_of_le hq hI.1.2.2.2) (fun h => absurd (hh q h) (Nat.not_le.mpr hq))), hB'.2⟩ hS1)
theorem xo_i {v : Int32} (hex : ex = none) (hr : vx_Run p l e R s m args below meth c H locs cells slots (c1 ex) (c6 ex) (F0 m pc ls st0) rest (xoI ex v a) (xx ex) nof) (hI : IH D cy h0 w s H) (hS : va_S A0 H0 H locs)
    (kk : ∀ (H1 : Heap) (locs1 : List Loc), IH D cy h0 w s H1 → va_S A0 H0 H1 locs1 → W p l e R s m args below meth c H1 locs1 cells slots Q (F0 m (pc + 3) ls (.int v :: rest))) : W p l e R s m args below meth c H locs cells slots Q (F0 m pc ls st0) := by
  subst hex
  exact vx_calli hr hS (fun q _ h => h.elim) (fun q h => h.elim) (fun q _ h => h.elim) (fun E ce q9 u t H1 locs1 ht hvm _ hB => by cases hB) (fun r u t H1 locs1 ht hvm hw hB hz1 hk1 hS1 => by
    obtain ⟨-, rfl⟩ := hw
    exact kk H1 locs1 (hI.keep hz1 (fun q hq => hk1 q hq (fun h => h))) hS1)
theorem xb_i {v : Int32} {E : String} (hex : ex = some E) (hr : vx_Run p l e R s m args below meth c H locs cells slots (c1 ex) (c6 ex) (F0 m pc ls st0) rest (xoI ex v a) (xx ex) nof) (hI : IH D cy h0 w s H) (hS : va_S A0 H0 H locs)
    (kx : ∀ (ce : Cell) (q9 : Nat) (H1 : Heap) (locs1 : List Loc), IH D cy h0 w s H1 → va_S A0 H0 H1 locs1 → H1[q9]? = some ce → ce.vm = .none → s.vm.findClass E = some ce.cls → vx_W p l e R s m args below meth c H1 locs1 (cells + 1) (slots + 6) Q (F0 m pc ls rest) q9) : W p l e R s m args below meth c H locs cells slots Q (F0 m pc ls st0) := by
  subst hex
  exact vx_calli hr hS (fun q _ h => h.elim) (fun q h => h.elim) (fun q _ h => h.elim) (fun E1 ce q9 u t H1 locs1 ht hvm _ hB hz1 hk1 hS1 h1 h2 h3 => by
    cases hB
    exact kx ce q9 H1 locs1 (hI.keep hz1 (fun q hq => hk1 q hq (fun h => h))) hS1 h1 h2 h3) (fun r u t H1 locs1 ht hvm hw hB hz1 hk1 hS1 => by cases hw.1)
theorem xow_i {v : Int32} (hex : ex = none) (hr : vx_Run p l e R s m args below meth c H locs cells slots (c1 ex) (c6 ex) (F0 m pc ls st0) rest (xwI ex v D cy h0 w' A1 a) (xx ex) A1) (hI : IH D cy h0 w s H) (hS : va_S A0 H0 H locs) (hA : ∀ q, A1 q → A0 q) (hh : ∀ q, A1 q → h0 ≤ q)
    (kk : ∀ (H1 : Heap) (locs1 : List Loc), IH D cy h0 w' s H1 → va_S A0 H0 H1 locs1 → W p l e R s m args below meth c H1 locs1 cells slots Q (F0 m (pc + 3) ls (.int v :: rest))) : W p l e R s m args below meth c H locs cells slots Q (F0 m pc ls st0) := by
  subst hex
  exact vx_calli hr hS (fun q _ h => hA q h) hA (fun q _ h => h.elim) (fun E ce q9 u t H1 locs1 ht hvm _ hB => by cases hB) (fun r u t H1 locs1 ht hvm hw hB hz1 hk1 hS1 => by
    obtain ⟨-, rfl⟩ := hw
    have hB' : IH D cy h0 w' t t.heap := hB
    rw [ht] at hB'
    exact kk H1 locs1 ⟨hI.1.keep hz1 (fun q hq => hk1 q (Nat.lt_of_lt_of_le hq hI.1.2.2.2) (fun h => absurd (hh q h) (Nat.not_le.mpr hq))), hB'.2⟩ hS1)
theorem xbw_i {v : Int32} {E : String} (hex : ex = some E) (hr : vx_Run p l e R s m args below meth c H locs cells slots (c1 ex) (c6 ex) (F0 m pc ls st0) rest (xwI ex v D cy h0 w' A1 a) (xx ex) A1) (hI : IH D cy h0 w s H) (hS : va_S A0 H0 H locs) (hA : ∀ q, A1 q → A0 q)
    (kx : ∀ (ce : Cell) (q9 : Nat) (H1 : Heap) (locs1 : List Loc), IH D cy h0 w s H1 → va_S A0 H0 H1 locs1 → H1[q9]? = some ce → ce.vm = .none → s.vm.findClass E = some ce.cls → vx_W p l e R s m args below meth c H1 locs1 (cells + 1) (slots + 6) Q (F0 m pc ls rest) q9) : W p l e R s m args below meth c H locs cells slots Q (F0 m pc ls st0) := by
  subst hex
  exact vx_calli hr hS (fun q _ h => hA q h) hA (fun q _ h => h.elim) (fun E1 ce q9 u t H1 locs1 ht hvm _ hB hz1 hk1 hS1 h1 h2 h3 => by
    cases hB
    exact kx ce q9 H1 locs1 (hI.keep hz1 (fun q hq => hk1 q hq (fun h => h))) hS1 h1 h2 h3) (fun r u t H1 locs1 ht hvm hw hB hz1 hk1 hS1 => by cases hw.1)
theorem ro_l {v : Int64} (hr : va_Run p l e R s m args below meth c H locs cells slots 0 0 (F0 m pc ls st0) rest (roL v a) nof) (hI : IH D cy h0 w s H) (hS : va_S A0 H0 H locs)
    (kk : ∀ (H1 : Heap) (locs1 : List Loc), IH D cy h0 w s H1 → va_S A0 H0 H1 locs1 → W p l e R s m args below meth c H1 locs1 cells slots Q (F0 m (pc + 3) ls (.long v :: rest))) : W p l e R s m args below meth c H locs cells slots Q (F0 m pc ls st0) :=
  va_calll hr hS (fun q _ h => h.elim) (fun q h => h.elim) (fun r u t H1 locs1 ht hvm hw hB hz1 hk1 hS1 => by
    subst hw
    exact kk H1 locs1 (hI.keep hz1 (fun q hq => hk1 q hq (fun h => h))) hS1)
theorem rw_l {v : Int64} (hr : va_Run p l e R s m args below meth c H locs cells slots 0 0 (F0 m pc ls st0) rest (rwL v D cy h0 w' A1 a) A1) (hI : IH D cy h0 w s H) (hS : va_S A0 H0 H locs) (hA : ∀ q, A1 q → A0 q) (hh : ∀ q, A1 q → h0 ≤ q)
    (kk : ∀ (H1 : Heap) (locs1 : List Loc), IH D cy h0 w' s H1 → va_S A0 H0 H1 locs1 → W p l e R s m args below meth c H1 locs1 cells slots Q (F0 m (pc + 3) ls (.long v :: rest))) : W p l e R s m args below meth c H locs cells slots Q (F0 m pc ls st0) :=
  va_calll hr hS (fun q _ h => hA q h) hA (fun r u t H1 locs1 ht hvm hw hB hz1 hk1 hS1 => by
    subst hw
    have hB' : IH D cy h0 w' t t.heap := hB
    rw [ht] at hB'
    exact kk H1 locs1 ⟨hI.1.keep hz1 (fun q hq => hk1 q (Nat.lt_of_lt_of_le hq hI.1.2.2.2) (fun h => absurd (hh q h) (Nat.not_le.mpr hq))), hB'.2⟩ hS1)
theorem ro_f {v : UInt32} (hr : va_Run p l e R s m args below meth c H locs cells slots 0 0 (F0 m pc ls st0) rest (roF v a) nof) (hI : IH D cy h0 w s H) (hS : va_S A0 H0 H locs)
    (kk : ∀ (H1 : Heap) (locs1 : List Loc), IH D cy h0 w s H1 → va_S A0 H0 H1 locs1 → W p l e R s m args below meth c H1 locs1 cells slots Q (F0 m (pc + 3) ls (.float v :: rest))) : W p l e R s m args below meth c H locs cells slots Q (F0 m pc ls st0) :=
  va_callf hr hS (fun q _ h => h.elim) (fun q h => h.elim) (fun r u t H1 locs1 ht hvm hw hB hz1 hk1 hS1 => by
    subst hw
    exact kk H1 locs1 (hI.keep hz1 (fun q hq => hk1 q hq (fun h => h))) hS1)
theorem rw_f {v : UInt32} (hr : va_Run p l e R s m args below meth c H locs cells slots 0 0 (F0 m pc ls st0) rest (rwF v D cy h0 w' A1 a) A1) (hI : IH D cy h0 w s H) (hS : va_S A0 H0 H locs) (hA : ∀ q, A1 q → A0 q) (hh : ∀ q, A1 q → h0 ≤ q)
    (kk : ∀ (H1 : Heap) (locs1 : List Loc), IH D cy h0 w' s H1 → va_S A0 H0 H1 locs1 → W p l e R s m args below meth c H1 locs1 cells slots Q (F0 m (pc + 3) ls (.float v :: rest))) : W p l e R s m args below meth c H locs cells slots Q (F0 m pc ls st0) :=
  va_callf hr hS (fun q _ h => hA q h) hA (fun r u t H1 locs1 ht hvm hw hB hz1 hk1 hS1 => by
    subst hw
    have hB' : IH D cy h0 w' t t.heap := hB
    rw [ht] at hB'
    exact kk H1 locs1 ⟨hI.1.keep hz1 (fun q hq => hk1 q (Nat.lt_of_lt_of_le hq hI.1.2.2.2) (fun h => absurd (hh q h) (Nat.not_le.mpr hq))), hB'.2⟩ hS1)
theorem xo_f {v : UInt32} (hex : ex = none) (hr : vx_Run p l e R s m args below meth c H locs cells slots (c1 ex) (c6 ex) (F0 m pc ls st0) rest (xoF ex v a) (xx ex) nof) (hI : IH D cy h0 w s H) (hS : va_S A0 H0 H locs)
    (kk : ∀ (H1 : Heap) (locs1 : List Loc), IH D cy h0 w s H1 → va_S A0 H0 H1 locs1 → W p l e R s m args below meth c H1 locs1 cells slots Q (F0 m (pc + 3) ls (.float v :: rest))) : W p l e R s m args below meth c H locs cells slots Q (F0 m pc ls st0) := by
  subst hex
  exact vx_callf hr hS (fun q _ h => h.elim) (fun q h => h.elim) (fun q _ h => h.elim) (fun E ce q9 u t H1 locs1 ht hvm _ hB => by cases hB) (fun r u t H1 locs1 ht hvm hw hB hz1 hk1 hS1 => by
    obtain ⟨-, rfl⟩ := hw
    exact kk H1 locs1 (hI.keep hz1 (fun q hq => hk1 q hq (fun h => h))) hS1)
theorem xb_f {v : UInt32} {E : String} (hex : ex = some E) (hr : vx_Run p l e R s m args below meth c H locs cells slots (c1 ex) (c6 ex) (F0 m pc ls st0) rest (xoF ex v a) (xx ex) nof) (hI : IH D cy h0 w s H) (hS : va_S A0 H0 H locs)
    (kx : ∀ (ce : Cell) (q9 : Nat) (H1 : Heap) (locs1 : List Loc), IH D cy h0 w s H1 → va_S A0 H0 H1 locs1 → H1[q9]? = some ce → ce.vm = .none → s.vm.findClass E = some ce.cls → vx_W p l e R s m args below meth c H1 locs1 (cells + 1) (slots + 6) Q (F0 m pc ls rest) q9) : W p l e R s m args below meth c H locs cells slots Q (F0 m pc ls st0) := by
  subst hex
  exact vx_callf hr hS (fun q _ h => h.elim) (fun q h => h.elim) (fun q _ h => h.elim) (fun E1 ce q9 u t H1 locs1 ht hvm _ hB hz1 hk1 hS1 h1 h2 h3 => by
    cases hB
    exact kx ce q9 H1 locs1 (hI.keep hz1 (fun q hq => hk1 q hq (fun h => h))) hS1 h1 h2 h3) (fun r u t H1 locs1 ht hvm hw hB hz1 hk1 hS1 => by cases hw.1)
theorem ro_v (hr : va_Run p l e R s m args below meth c H locs cells slots 0 0 (F0 m pc ls st0) rest (roV a) nof) (hI : IH D cy h0 w s H) (hS : va_S A0 H0 H locs)
    (kk : ∀ (H1 : Heap) (locs1 : List Loc), IH D cy h0 w s H1 → va_S A0 H0 H1 locs1 → W p l e R s m args below meth c H1 locs1 cells slots Q (F0 m (pc + 3) ls (rest))) : W p l e R s m args below meth c H locs cells slots Q (F0 m pc ls st0) :=
  va_callv hr hS (fun q _ h => h.elim) (fun q h => h.elim) (fun u t H1 locs1 ht hvm hw hB hz1 hk1 hS1 => by
    exact kk H1 locs1 (hI.keep hz1 (fun q hq => hk1 q hq (fun h => h))) hS1)
theorem rw_v (hr : va_Run p l e R s m args below meth c H locs cells slots 0 0 (F0 m pc ls st0) rest (rwV D cy h0 w' A1 a) A1) (hI : IH D cy h0 w s H) (hS : va_S A0 H0 H locs) (hA : ∀ q, A1 q → A0 q) (hh : ∀ q, A1 q → h0 ≤ q)
    (kk : ∀ (H1 : Heap) (locs1 : List Loc), IH D cy h0 w' s H1 → va_S A0 H0 H1 locs1 → W p l e R s m args below meth c H1 locs1 cells slots Q (F0 m (pc + 3) ls (rest))) : W p l e R s m args below meth c H locs cells slots Q (F0 m pc ls st0) :=
  va_callv hr hS (fun q _ h => hA q h) hA (fun u t H1 locs1 ht hvm hw hB hz1 hk1 hS1 => by
    have hB' : IH D cy h0 w' t t.heap := hB
    rw [ht] at hB'
    exact kk H1 locs1 ⟨hI.1.keep hz1 (fun q hq => hk1 q (Nat.lt_of_lt_of_le hq hI.1.2.2.2) (fun h => absurd (hh q h) (Nat.not_le.mpr hq))), hB'.2⟩ hS1)
theorem xo_v (hex : ex = none) (hr : vx_Run p l e R s m args below meth c H locs cells slots (c1 ex) (c6 ex) (F0 m pc ls st0) rest (xoV ex a) (xx ex) nof) (hI : IH D cy h0 w s H) (hS : va_S A0 H0 H locs)
    (kk : ∀ (H1 : Heap) (locs1 : List Loc), IH D cy h0 w s H1 → va_S A0 H0 H1 locs1 → W p l e R s m args below meth c H1 locs1 cells slots Q (F0 m (pc + 3) ls (rest))) : W p l e R s m args below meth c H locs cells slots Q (F0 m pc ls st0) := by
  subst hex
  exact vx_callv hr hS (fun q _ h => h.elim) (fun q h => h.elim) (fun q _ h => h.elim) (fun E ce q9 u t H1 locs1 ht hvm _ hB => by cases hB) (fun u t H1 locs1 ht hvm hw hB hz1 hk1 hS1 => by
    exact kk H1 locs1 (hI.keep hz1 (fun q hq => hk1 q hq (fun h => h))) hS1)
theorem xb_v {E : String} (hex : ex = some E) (hr : vx_Run p l e R s m args below meth c H locs cells slots (c1 ex) (c6 ex) (F0 m pc ls st0) rest (xoV ex a) (xx ex) nof) (hI : IH D cy h0 w s H) (hS : va_S A0 H0 H locs)
    (kx : ∀ (ce : Cell) (q9 : Nat) (H1 : Heap) (locs1 : List Loc), IH D cy h0 w s H1 → va_S A0 H0 H1 locs1 → H1[q9]? = some ce → ce.vm = .none → s.vm.findClass E = some ce.cls → vx_W p l e R s m args below meth c H1 locs1 (cells + 1) (slots + 6) Q (F0 m pc ls rest) q9) : W p l e R s m args below meth c H locs cells slots Q (F0 m pc ls st0) := by
  subst hex
  exact vx_callv hr hS (fun q _ h => h.elim) (fun q h => h.elim) (fun q _ h => h.elim) (fun E1 ce q9 u t H1 locs1 ht hvm _ hB hz1 hk1 hS1 h1 h2 h3 => by
    cases hB
    exact kx ce q9 H1 locs1 (hI.keep hz1 (fun q hq => hk1 q hq (fun h => h))) hS1 h1 h2 h3) (fun u t H1 locs1 ht hvm hw hB hz1 hk1 hS1 => by cases hw)
theorem end_roi {v x : Int32} (hexec : p.tables.exec = Jvm.exec) (hb : c.code = cc) (hr : meth.sig.returnType = some .int) (he : x = v) (hS : va_S nof s.heap H locs) (hdg : decode cc pc = .ok (.ireturn, 1)) (hlocks : meth.locks = false) : W p l e R s m args below meth c H locs 0 0 (MQ below (roI v) args s 0 0 nof) (F0 m pc ls [.int x]) :=
  W.iret (v := x) hexec hb hr (fun t ht hW => ⟨⟨x, (), rfl, he, trivial⟩, hS.F ht⟩) (fun q hq => (hS.2.2 q hq).elim) hdg hlocks
theorem end_rwi {v x : Int32} (hexec : p.tables.exec = Jvm.exec) (hb : c.code = cc) (hr : meth.sig.returnType = some .int) (he : x = v) (hI : IH D cy h0 w s H) (hS : va_S A1 s.heap H locs) (hdg : decode cc pc = .ok (.ireturn, 1)) (hlocks : meth.locks = false) : W p l e R s m args below meth c H locs 0 0 (MQ below (rwI v D cy h0 w A1) args s 0 0 A1) (F0 m pc ls [.int x]) :=
  W.iret (v := x) hexec hb hr (fun t ht hW => ⟨⟨x, (), rfl, he, hI.warm hW ht⟩, hS.F ht⟩) (fun q hq => hS.2.2 q hq) hdg hlocks
theorem end_xoi {v x : Int32} (hexec : p.tables.exec = Jvm.exec) (hb : c.code = cc) (hr : meth.sig.returnType = some .int) (hex : ex = none) (he : x = v) (hS : va_S nof s.heap H locs) (hdg : decode cc pc = .ok (.ireturn, 1)) (hlocks : meth.locks = false) : W p l e R s m args below meth c H locs 0 0 (vx_MQ below (xoI ex v) (xx ex) args s (c1 ex) (c6 ex) nof) (F0 m pc ls [.int x]) := by
  subst hex
  exact vx_ret (W.iret (v := x) hexec hb hr (fun t ht hW => ⟨⟨x, (), rfl, ⟨rfl, he⟩, trivial⟩, hS.F ht⟩) (fun q hq => (hS.2.2 q hq).elim) hdg hlocks)
theorem end_xwi {v x : Int32} (hexec : p.tables.exec = Jvm.exec) (hb : c.code = cc) (hr : meth.sig.returnType = some .int) (hex : ex = none) (he : x = v) (hI : IH D cy h0 w s H) (hS : va_S A1 s.heap H locs) (hdg : decode cc pc = .ok (.ireturn, 1)) (hlocks : meth.locks = false) : W p l e R s m args below meth c H locs 0 0 (vx_MQ below (xwI ex v D cy h0 w A1) (xx ex) args s (c1 ex) (c6 ex) A1) (F0 m pc ls [.int x]) := by
  subst hex
  exact vx_ret (W.iret (v := x) hexec hb hr (fun t ht hW => ⟨⟨x, (), rfl, ⟨rfl, he⟩, hI.warm hW ht⟩, hS.F ht⟩) (fun q hq => hS.2.2 q hq) hdg hlocks)
theorem end_roz {v x : Int32} (hexec : p.tables.exec = Jvm.exec) (hb : c.code = cc) (hr : meth.sig.returnType = some .boolean) (hn : narrow .boolean (.int x) = .int x) (he : x = v) (hS : va_S nof s.heap H locs) (hdg : decode cc pc = .ok (.ireturn, 1)) (hlocks : meth.locks = false) : W p l e R s m args below meth c H locs 0 0 (MQ below (roI v) args s 0 0 nof) (F0 m pc ls [.int x]) :=
  W.zret (v := x) hexec hb hr hn (fun t ht hW => ⟨⟨x, (), rfl, he, trivial⟩, hS.F ht⟩) (fun q hq => (hS.2.2 q hq).elim) hdg hlocks
theorem end_rwz {v x : Int32} (hexec : p.tables.exec = Jvm.exec) (hb : c.code = cc) (hr : meth.sig.returnType = some .boolean) (hn : narrow .boolean (.int x) = .int x) (he : x = v) (hI : IH D cy h0 w s H) (hS : va_S A1 s.heap H locs) (hdg : decode cc pc = .ok (.ireturn, 1)) (hlocks : meth.locks = false) : W p l e R s m args below meth c H locs 0 0 (MQ below (rwI v D cy h0 w A1) args s 0 0 A1) (F0 m pc ls [.int x]) :=
  W.zret (v := x) hexec hb hr hn (fun t ht hW => ⟨⟨x, (), rfl, he, hI.warm hW ht⟩, hS.F ht⟩) (fun q hq => hS.2.2 q hq) hdg hlocks
theorem end_xoz {v x : Int32} (hexec : p.tables.exec = Jvm.exec) (hb : c.code = cc) (hr : meth.sig.returnType = some .boolean) (hn : narrow .boolean (.int x) = .int x) (hex : ex = none) (he : x = v) (hS : va_S nof s.heap H locs) (hdg : decode cc pc = .ok (.ireturn, 1)) (hlocks : meth.locks = false) : W p l e R s m args below meth c H locs 0 0 (vx_MQ below (xoI ex v) (xx ex) args s (c1 ex) (c6 ex) nof) (F0 m pc ls [.int x]) := by
  subst hex
  exact vx_ret (W.zret (v := x) hexec hb hr hn (fun t ht hW => ⟨⟨x, (), rfl, ⟨rfl, he⟩, trivial⟩, hS.F ht⟩) (fun q hq => (hS.2.2 q hq).elim) hdg hlocks)
theorem end_xwz {v x : Int32} (hexec : p.tables.exec = Jvm.exec) (hb : c.code = cc) (hr : meth.sig.returnType = some .boolean) (hn : narrow .boolean (.int x) = .int x) (hex : ex = none) (he : x = v) (hI : IH D cy h0 w s H) (hS : va_S A1 s.heap H locs) (hdg : decode cc pc = .ok (.ireturn, 1)) (hlocks : meth.locks = false) : W p l e R s m args below meth c H locs 0 0 (vx_MQ below (xwI ex v D cy h0 w A1) (xx ex) args s (c1 ex) (c6 ex) A1) (F0 m pc ls [.int x]) := by
  subst hex
  exact vx_ret (W.zret (v := x) hexec hb hr hn (fun t ht hW => ⟨⟨x, (), rfl, ⟨rfl, he⟩, hI.warm hW ht⟩, hS.F ht⟩) (fun q hq => hS.2.2 q hq) hdg hlocks)
theorem end_rol {v x : Int64} (hexec : p.tables.exec = Jvm.exec) (hb : c.code = cc) (hr : meth.sig.returnType = some .long) (he : x = v) (hS : va_S nof s.heap H locs) (hdg : decode cc pc = .ok (.lreturn, 1)) (hlocks : meth.locks = false) : W p l e R s m args below meth c H locs 0 0 (MQ below (roL v) args s 0 0 nof) (F0 m pc ls [.long x]) :=
  W.lret (v := x) hexec hb hr (fun t ht hW => ⟨⟨x, (), rfl, he, trivial⟩, hS.F ht⟩) (fun q hq => (hS.2.2 q hq).elim) hdg hlocks
theorem end_rwl {v x : Int64} (hexec : p.tables.exec = Jvm.exec) (hb : c.code = cc) (hr : meth.sig.returnType = some .long) (he : x = v) (hI : IH D cy h0 w s H) (hS : va_S A1 s.heap H locs) (hdg : decode cc pc = .ok (.lreturn, 1)) (hlocks : meth.locks = false) : W p l e R s m args below meth c H locs 0 0 (MQ below (rwL v D cy h0 w A1) args s 0 0 A1) (F0 m pc ls [.long x]) :=
  W.lret (v := x) hexec hb hr (fun t ht hW => ⟨⟨x, (), rfl, he, hI.warm hW ht⟩, hS.F ht⟩) (fun q hq => hS.2.2 q hq) hdg hlocks
theorem end_rof {v x : UInt32} (hexec : p.tables.exec = Jvm.exec) (hb : c.code = cc) (hr : meth.sig.returnType = some .float) (he : x = v) (hS : va_S nof s.heap H locs) (hdg : decode cc pc = .ok (.freturn, 1)) (hlocks : meth.locks = false) : W p l e R s m args below meth c H locs 0 0 (MQ below (roF v) args s 0 0 nof) (F0 m pc ls [.float x]) :=
  W.fret (v := x) hexec hb hr (fun t ht hW => ⟨⟨x, (), rfl, he, trivial⟩, hS.F ht⟩) (fun q hq => (hS.2.2 q hq).elim) hdg hlocks
theorem end_rwf {v x : UInt32} (hexec : p.tables.exec = Jvm.exec) (hb : c.code = cc) (hr : meth.sig.returnType = some .float) (he : x = v) (hI : IH D cy h0 w s H) (hS : va_S A1 s.heap H locs) (hdg : decode cc pc = .ok (.freturn, 1)) (hlocks : meth.locks = false) : W p l e R s m args below meth c H locs 0 0 (MQ below (rwF v D cy h0 w A1) args s 0 0 A1) (F0 m pc ls [.float x]) :=
  W.fret (v := x) hexec hb hr (fun t ht hW => ⟨⟨x, (), rfl, he, hI.warm hW ht⟩, hS.F ht⟩) (fun q hq => hS.2.2 q hq) hdg hlocks
theorem end_xof {v x : UInt32} (hexec : p.tables.exec = Jvm.exec) (hb : c.code = cc) (hr : meth.sig.returnType = some .float) (hex : ex = none) (he : x = v) (hS : va_S nof s.heap H locs) (hdg : decode cc pc = .ok (.freturn, 1)) (hlocks : meth.locks = false) : W p l e R s m args below meth c H locs 0 0 (vx_MQ below (xoF ex v) (xx ex) args s (c1 ex) (c6 ex) nof) (F0 m pc ls [.float x]) := by
  subst hex
  exact vx_ret (W.fret (v := x) hexec hb hr (fun t ht hW => ⟨⟨x, (), rfl, ⟨rfl, he⟩, trivial⟩, hS.F ht⟩) (fun q hq => (hS.2.2 q hq).elim) hdg hlocks)
theorem end_rov (hexec : p.tables.exec = Jvm.exec) (hb : c.code = cc) (hr : meth.sig.returnType = none) (hS : va_S nof s.heap H locs) (hdg : decode cc pc = .ok (.return_, 1)) (hlocks : meth.locks = false) : W p l e R s m args below meth c H locs 0 0 (MQ below (roV) args s 0 0 nof) (F0 m pc ls []) :=
  W.vret hexec hb hr (fun t ht hW => ⟨⟨(), rfl, trivial, trivial⟩, hS.F ht⟩) (fun q hq => (hS.2.2 q hq).elim) hdg hlocks
theorem end_rwv (hexec : p.tables.exec = Jvm.exec) (hb : c.code = cc) (hr : meth.sig.returnType = none) (hI : IH D cy h0 w s H) (hS : va_S A1 s.heap H locs) (hdg : decode cc pc = .ok (.return_, 1)) (hlocks : meth.locks = false) : W p l e R s m args below meth c H locs 0 0 (MQ below (rwV D cy h0 w A1) args s 0 0 A1) (F0 m pc ls []) :=
  W.vret hexec hb hr (fun t ht hW => ⟨⟨(), rfl, trivial, hI.warm hW ht⟩, hS.F ht⟩) (fun q hq => hS.2.2 q hq) hdg hlocks
theorem end_xov (hexec : p.tables.exec = Jvm.exec) (hb : c.code = cc) (hr : meth.sig.returnType = none) (hex : ex = none) (hS : va_S nof s.heap H locs) (hdg : decode cc pc = .ok (.return_, 1)) (hlocks : meth.locks = false) : W p l e R s m args below meth c H locs 0 0 (vx_MQ below (xoV ex) (xx ex) args s (c1 ex) (c6 ex) nof) (F0 m pc ls []) := by
  subst hex
  exact vx_ret (W.vret hexec hb hr (fun t ht hW => ⟨⟨(), rfl, rfl, trivial⟩, hS.F ht⟩) (fun q hq => (hS.2.2 q hq).elim) hdg hlocks)
/-- a callee's throw goes on to the caller -/
theorem r_out {Qc : Array Value → State → Outcome → State → Prop} {E : String} {ce : Cell} {q9 : Nat} (hex : ex = some E) (hS : va_S nof s.heap H locs) (hout : ∀ x ∈ c.exceptionTable.toList, False) (hlocks : meth.locks = false) (hcell : H[q9]? = some ce) (hv : ce.vm = .none) (hcl : s.vm.findClass E = some ce.cls) :
    vx_W p l e R s m args below meth c H locs (0 + 1) (0 + 6) (vx_MQ below Qc (xx ex) args s (c1 ex) (c6 ex) A1) (F0 m pc ls rest) q9 := by
  subst hex
  exact vx_out (fun x hx => (hout x hx).elim) hlocks hcell hv hcl (fun t ht _ => ⟨(), trivial, rfl, hS.F ht⟩) (fun z hz => (hS.2.2 z hz).elim) (Nat.le_refl _) (Nat.le_refl _)
def nm2 : List String := ["java/lang/RuntimeException", "java/lang/Exception"]
def thB (cls : String) : List Cond := Cond.castable cls cls :: aD.map Cond.declares
theorem thB_at {U : State} {cls : String} (h : ambW U) (hc : cls ∈ aC) : ∀ w ∈ thB cls, w.before args U = true := by
  obtain ⟨-, -, h3, h4, -⟩ := h
  intro w hw
  rcases List.mem_cons.mp hw with rfl | hw
  · exact va_Nw.use rfl (h3 _ hc)
  · obtain ⟨y, hy, rfl⟩ := List.mem_map.mp hw
    exact va_Nw.use rfl (h4 y hy)
/-- throw new cls(text) of Buildlots -/
theorem r_throw {Qc : Array Value → State → Outcome → State → Prop} {cls text : String} {ik is ic : Nat} (hexec : p.tables.exec = Jvm.exec) (hb : c.code = cc) (hl : l.stackTraces = false) (hown : s.vm.findClass RX3 = some m.cls)
    (hcls : cls ∈ aC) (hfit : Bundle.fit cls = true) (hgood : ∀ w ∈ Cond.classLink RX3 ik cls :: Cond.initialized cls :: vx_atS RX3 ic cls nm2, vx_ot w = true) (hB : ∀ w ∈ (vx_atS RX3 ic cls nm2).filter (fun w => !goodWord w), w ∈ thB cls)
    (hk : (Cond.classLink RX3 ik cls).before args s = true) (hini : (Cond.initialized cls).before args s = true) (hw : ∀ w ∈ (vx_atS RX3 ic cls nm2).filter goodWord, w.before args s = true) (hs : (is, text) ∈ aS)
    (hG : amb D cy h0 s s.heap) (hS : va_S nof s.heap H locs) (hsize : ls.size = c.maxLocals) (hex : ex = some cls)
    (d0 : decode cc pc = .ok (.new ik, 3)) (d3 : decode cc (pc + 3) = .ok (.dup, 1)) (d4 : decode cc (pc + 4) = .ok (.ldc is, 2)) (d6 : decode cc (pc + 6) = .ok (.invokespecial ic, 3)) (d9 : decode cc (pc + 9) = .ok (.athrow, 1))
    (hout : ∀ x ∈ c.exceptionTable.toList, False) (hRf : 6 ≤ R.frames) (hRl : (rest.map fun v => v.category).sum + 82 ≤ R.locals) (hRc : c1 ex ≤ R.cells) (hRs : c6 ex ≤ R.slots) (hlocks : meth.locks = false) :
    W p l e R s m args below meth c H locs 0 0 (vx_MQ below Qc (xx ex) args s (c1 ex) (c6 ex) A1) (F0 m pc ls rest) := by
  subst hex
  obtain ⟨sa, hsa⟩ := hG.1.2.2.2.2.2 _ hs
  exact vx_throwS (A := nof) (names := nm2) hexec hb hl hown hfit (by decide) hk hini hsa (vx_hat hw hB (thB_at hG.1 hcls)) hgood (hG.2.1.1.narrow (fun _ h => h.elim)) (hG.2.1.2.narrow (fun _ h => h.elim)) hS hsize d0 d3 d4 d6 d9 (fun x hx => (hout x hx).elim) hRf hRl hRc hRs hlocks
    (fun t _ hz hq => ⟨(), trivial, rfl, Nat.le_trans hS.1 hz, fun q h1 h2 => (hq q (Nat.lt_of_lt_of_le h1 hS.1)).trans (hS.2.1 q h1 h2)⟩) (fun z hz => (hS.2.2 z hz).elim) (Nat.le_refl _) (Nat.le_refl _)
/-- reads and writes of rows at an index that is a small number -/
theorem r_iald {q0 : Nat} {b n j : Nat} {f : Nat → Int32} {i : Int32} (hexec : p.tables.exec = Jvm.exec) (hb : c.code = cc) (hI : IH D cy h0 w s H) (ha : w[q0]? = some (b, .inl (cy 0, n, .inl f))) (hi : i = nI j) (hj : j < n) (hn : n ≤ 64) (hdg : decode cc pc = .ok (.iaload, 1))
    (kk : W p l e R s m args below meth c H locs cells slots Q (F0 m (pc + 1) ls (.int (f j) :: rest))) : W p l e R s m args below meth c H locs cells slots Q (F0 m pc ls (.int i :: .ref b :: rest)) := by
  subst hi
  refine va_iald (q0 := q0) (t0 := 0) hexec hb hI.1.2.2.1 hI.2.1 ha rfl (vp_in_nI hj (by omega)) hdg ?_
  rw [nI_clamp (by omega)]
  exact kk
theorem r_zald {q0 : Nat} {b n j : Nat} {f : Nat → Int32} {i : Int32} (hexec : p.tables.exec = Jvm.exec) (hb : c.code = cc) (hI : IH D cy h0 w s H) (ha : w[q0]? = some (b, .inl (cy 1, n, .inl f))) (hi : i = nI j) (hj : j < n) (hn : n ≤ 64) (hdg : decode cc pc = .ok (.baload, 1))
    (kk : W p l e R s m args below meth c H locs cells slots Q (F0 m (pc + 1) ls (.int (f j) :: rest))) : W p l e R s m args below meth c H locs cells slots Q (F0 m pc ls (.int i :: .ref b :: rest)) := by
  subst hi
  refine va_zald (q0 := q0) (t0 := 1) hexec hb hI.1.2.2.1 hI.2.1 ha rfl (vp_in_nI hj (by omega)) hdg ?_
  rw [nI_clamp (by omega)]
  exact kk
theorem r_iast {q0 : Nat} {b n j : Nat} {f : Nat → Int32} {i x : Int32} (hexec : p.tables.exec = Jvm.exec) (hb : c.code = cc) (hI : IH D cy h0 w s H) (hS : va_S A0 H0 H locs) (hA : ∀ q, A0 q → h0 ≤ q) (hh : h0 ≤ H0.size) (hwA : va_D A0 w) (ha : w[q0]? = some (b, .inl (cy 0, n, .inl f))) (hi : i = nI j) (hj : j < n) (hn : n ≤ 64) (hdg : decode cc pc = .ok (.iastore, 1))
    (hw' : w.set q0 (b, .inl (cy 0, n, .inl (upd f j x))) = w') (kk : ∀ (H1 : Heap) (locs1 : List Loc), IH D cy h0 w' s H1 → va_S A0 H0 H1 locs1 → W p l e R s m args below meth c H1 locs1 cells slots Q (F0 m (pc + 1) ls rest)) : W p l e R s m args below meth c H locs cells slots Q (F0 m pc ls (.int x :: .int i :: .ref b :: rest)) := by
  subst hi
  subst hw'
  refine va_iast (q0 := q0) (t0 := 0) hexec hb hI.1.2.2.1 hI.2.1 hwA hS ha rfl (vp_in_nI hj (by omega)) hdg (fun H1 locs1 hP hD hS1 => ?_)
  rw [nI_clamp (by omega)] at hP hD
  exact kk H1 locs1 ⟨hI.1.put hS hS1 hA hh, hP, hD.weaken (fun _ _ _ h => hA _ h)⟩ hS1
theorem r_zast {q0 : Nat} {b n j : Nat} {f : Nat → Int32} {i x : Int32} (hexec : p.tables.exec = Jvm.exec) (hb : c.code = cc) (hI : IH D cy h0 w s H) (hS : va_S A0 H0 H locs) (hA : ∀ q, A0 q → h0 ≤ q) (hh : h0 ≤ H0.size) (hwA : va_D A0 w) (ha : w[q0]? = some (b, .inl (cy 1, n, .inl f))) (hi : i = nI j) (hj : j < n) (hn : n ≤ 64) (hx : vp_nar .boolean x = x) (hdg : decode cc pc = .ok (.bastore, 1))
    (hw' : w.set q0 (b, .inl (cy 1, n, .inl (upd f j x))) = w') (kk : ∀ (H1 : Heap) (locs1 : List Loc), IH D cy h0 w' s H1 → va_S A0 H0 H1 locs1 → W p l e R s m args below meth c H1 locs1 cells slots Q (F0 m (pc + 1) ls rest)) : W p l e R s m args below meth c H locs cells slots Q (F0 m pc ls (.int x :: .int i :: .ref b :: rest)) := by
  subst hi
  subst hw'
  refine va_zast (q0 := q0) (t0 := 1) hexec hb hI.1.2.2.1 hI.2.1 hwA hS ha rfl (vp_in_nI hj (by omega)) hdg (fun H1 locs1 hP hD hS1 => ?_)
  rw [nI_clamp (by omega), hx] at hP hD
  exact kk H1 locs1 ⟨hI.1.put hS hS1 hA hh, hP, hD.weaken (fun _ _ _ h => hA _ h)⟩ hS1
/-- a field written -/
theorem r_put {own ref C : String} {T : u_T} {N ci index : Nat} {Ts : List Cond} {q0 b : Nat} {ty0 : Nat → FieldType} {fs : List Value} {k : Nat} {ty : FieldType} {v : Value} (hexec : p.tables.exec = Jvm.exec) (hb : c.code = cc) (hts : ∀ w ∈ Ts, w.before args s = true) (hin : ∀ w ∈ u_ws C T N, w ∈ Ts) (hty : ∀ k, k < N → parseFieldDescriptor (T k).2.2.1 = some (ty0 k)) (hnm : ∀ a, a < N → ∀ b, b < N → a ≠ b → (T a).2.1 ≠ (T b).2.1) (hown : s.vm.findClass own = some m.cls)
    (hI : IH D cy h0 w s H) (hS : va_S A0 H0 H locs) (hA : ∀ q, A0 q → h0 ≤ q) (hh : h0 ≤ H0.size) (hwA : va_D A0 w) (he : w[q0]? = some (b, .inr (ci, fs))) (hc : vwCl[ci]? = some (C, T, N)) (hk : k < N) (hlink : (Cond.fieldLink own index ref (T k).2.1 (T k).2.2.1).before args s = true) (hsame : (T k).1 = ref) (hfin : (T k).2.2.2 = false) (hd : parseFieldDescriptor (T k).2.2.1 = some ty) (hn : narrow ty v = v) (hfit : fits ty v = true) (hl : k < fs.length) (hdg : decode cc pc = .ok (.putfield index, 3))
    (hw' : w.set q0 (b, .inr (ci, fs.set k v)) = w') (kk : ∀ (H1 : Heap) (locs1 : List Loc), IH D cy h0 w' s H1 → va_S A0 H0 H1 locs1 → W p l e R s m args below meth c H1 locs1 cells slots Q (F0 m (pc + 3) ls rest)) : W p l e R s m args below meth c H locs cells slots Q (F0 m pc ls (v :: .ref b :: rest)) := by
  subst hw'
  subst hsame
  exact va_put (D := D) (ci := ci) (v := v) (ty := ty) (C := C) (T := T) (N := N) hexec hb hts hin ty0 hty hnm hown hI.1.2.2.1 hI.2.1 hwA hS q0 he hc k hk hlink (fun _ h9 => h9) hfin hd hn hfit hl hdg (fun H1 locs1 hP hD hS1 => kk H1 locs1 ⟨hI.1.put hS hS1 hA hh, hP, hD.weaken (fun _ _ _ h => hA _ h)⟩ hS1)
theorem r_putN {ref C : String} {T : u_T} {N ci index : Nat} {Ts : List Cond} {q0 b : Nat} {ty0 : Nat → FieldType} {fs : List Value} {k : Nat} {ty : FieldType} {v : Value} (hexec : p.tables.exec = Jvm.exec) (hb : c.code = cc) (hts : ∀ w ∈ Ts, w.before args s = true) (hin : ∀ w ∈ u_ws C T N, w ∈ Ts) (hty : ∀ k, k < N → parseFieldDescriptor (T k).2.2.1 = some (ty0 k)) (hnm : ∀ a, a < N → ∀ b, b < N → a ≠ b → (T a).2.1 ≠ (T b).2.1) (hown : s.vm.findClass RX3 = some m.cls)
    (hI : IH D cy h0 w s H) (hS : va_S A0 H0 H locs) (hA : ∀ q, A0 q → h0 ≤ q) (hh : h0 ≤ H0.size) (hwA : va_D A0 w) (he : w[q0]? = some (b, .inr (ci, fs))) (hc : vwCl[ci]? = some (C, T, N)) (hk : k < N) (hlink : (index, ref, (T k).2.1, (T k).2.2.1) ∈ aF) (hsame : (T k).1 = ref) (hfin : (T k).2.2.2 = false) (hd : parseFieldDescriptor (T k).2.2.1 = some ty) (hn : narrow ty v = v) (hfit : fits ty v = true) (hl : k < fs.length) (hdg : decode cc pc = .ok (.putfield index, 3))
    (hw' : w.set q0 (b, .inr (ci, fs.set k v)) = w') (kk : ∀ (H1 : Heap) (locs1 : List Loc), IH D cy h0 w' s H1 → va_S A0 H0 H1 locs1 → W p l e R s m args below meth c H1 locs1 cells slots Q (F0 m (pc + 3) ls rest)) : W p l e R s m args below meth c H locs cells slots Q (F0 m pc ls (v :: .ref b :: rest)) := by
  subst hw'
  subst hsame
  exact va_putN (D := D) (ci := ci) (v := v) (ty := ty) (C := C) (T := T) (N := N) hexec hb hts hin ty0 hty hnm hown hI.1.2.2.1 hI.2.1 hwA hS q0 he hc k hk (va_Nw.use rfl (hI.1.1.1 _ hlink)) (fun _ h9 => h9) hfin hd hn hfit hl hdg (fun H1 locs1 hP hD hS1 => kk H1 locs1 ⟨hI.1.put hS hS1 hA hh, hP, hD.weaken (fun _ _ _ h => hA _ h)⟩ hS1)
theorem r_get {own ref C : String} {T : u_T} {N ci index : Nat} {Ts : List Cond} {q0 b : Nat} {fs : List Value} {k : Nat} {v : Value} (hexec : p.tables.exec = Jvm.exec) (hb : c.code = cc) (hts : ∀ w ∈ Ts, w.before args s = true) (hin : ∀ w ∈ u_ws C T N, w ∈ Ts) (hown : s.vm.findClass own = some m.cls) (hI : IH D cy h0 w s H) (he : w[q0]? = some (b, .inr (ci, fs))) (hc : vwCl[ci]? = some (C, T, N)) (hk : k < N) (hlink : (Cond.fieldLink own index ref (T k).2.1 (T k).2.2.1).before args s = true) (hsame : (T k).1 = ref) (hv : fs[k]? = some v) (hdg : decode cc pc = .ok (.getfield index, 3))
    (kk : W p l e R s m args below meth c H locs cells slots Q (F0 m (pc + 3) ls (v :: rest))) : W p l e R s m args below meth c H locs cells slots Q (F0 m pc ls (.ref b :: rest)) := by
  subst hsame
  exact va_get (D := D) (ci := ci) (v := v) (C := C) (T := T) (N := N) hexec hb hts hin hown hI.1.2.2.1 hI.2.1 q0 he hc k hk hlink (fun _ h9 => h9) hv hdg kk
theorem r_getN {ref C : String} {T : u_T} {N ci index : Nat} {Ts : List Cond} {q0 b : Nat} {fs : List Value} {k : Nat} {v : Value} (hexec : p.tables.exec = Jvm.exec) (hb : c.code = cc) (hts : ∀ w ∈ Ts, w.before args s = true) (hin : ∀ w ∈ u_ws C T N, w ∈ Ts) (hown : s.vm.findClass RX3 = some m.cls) (hI : IH D cy h0 w s H) (he : w[q0]? = some (b, .inr (ci, fs))) (hc : vwCl[ci]? = some (C, T, N)) (hk : k < N) (hlink : (index, ref, (T k).2.1, (T k).2.2.1) ∈ aF) (hsame : (T k).1 = ref) (hv : fs[k]? = some v) (hdg : decode cc pc = .ok (.getfield index, 3))
    (kk : W p l e R s m args below meth c H locs cells slots Q (F0 m (pc + 3) ls (v :: rest))) : W p l e R s m args below meth c H locs cells slots Q (F0 m pc ls (.ref b :: rest)) := by
  subst hsame
  exact va_getN (D := D) (ci := ci) (v := v) (C := C) (T := T) (N := N) hexec hb hts hin hown hI.1.2.2.1 hI.2.1 q0 he hc k hk (va_Nw.use rfl (hI.1.1.1 _ hlink)) (fun _ h9 => h9) hv hdg kk
end ROWS

set_option maxRecDepth 20000 in
theorem tg_IAE : ∀ w ∈ Cond.classLink RX3 48 xIAE :: Cond.initialized xIAE :: vx_atS RX3 52 xIAE nm2, vx_ot w = true := by decide +kernel
set_option maxRecDepth 20000 in
theorem tb_IAE : ∀ w ∈ (vx_atS RX3 52 xIAE nm2).filter (fun w => !goodWord w), w ∈ thB xIAE := by decide +kernel
set_option maxRecDepth 20000 in
theorem tg_ISE : ∀ w ∈ Cond.classLink RX3 58 xISE :: Cond.initialized xISE :: vx_atS RX3 62 xISE nm2, vx_ot w = true := by decide +kernel
set_option maxRecDepth 20000 in
theorem tb_ISE : ∀ w ∈ (vx_atS RX3 62 xISE nm2).filter (fun w => !goodWord w), w ∈ thB xISE := by decide +kernel
set_option maxRecDepth 20000 in
theorem tg_IOB : ∀ w ∈ Cond.classLink RX3 235 xIOB :: Cond.initialized xIOB :: vx_atS RX3 239 xIOB nm2, vx_ot w = true := by decide +kernel
set_option maxRecDepth 20000 in
theorem tb_IOB : ∀ w ∈ (vx_atS RX3 239 xIOB nm2).filter (fun w => !goodWord w), w ∈ thB xIOB := by decide +kernel
set_option maxRecDepth 20000 in
theorem tg_UOE : ∀ w ∈ Cond.classLink RX3 121 xUOE :: Cond.initialized xUOE :: vx_atS RX3 125 xUOE nm2, vx_ot w = true := by decide +kernel
set_option maxRecDepth 20000 in
theorem tb_UOE : ∀ w ∈ (vx_atS RX3 125 xUOE nm2).filter (fun w => !goodWord w), w ∈ thB xUOE := by decide +kernel
set_option maxRecDepth 20000 in
theorem tg_NSE : ∀ w ∈ Cond.classLink RX3 197 xNSE :: Cond.initialized xNSE :: vx_atS RX3 201 xNSE nm2, vx_ot w = true := by decide +kernel
set_option maxRecDepth 20000 in
theorem tb_NSE : ∀ w ∈ (vx_atS RX3 201 xNSE nm2).filter (fun w => !goodWord w), w ∈ thB xNSE := by decide +kernel
/-! the two worlds: the class's 19 cells, the model's 18; A k, B k: the rows; S k, T k: the numbers -/
def wX (cy : Nat → ClassId) (q : Nat → Nat) (A : Nat → Nat → Int32) (S : Nat → Int32) : va_W :=
  [(q 0, .inr (3, [.ref (q 1), .ref (q 2), .ref (q 3), .ref (q 4), .ref (q 5), .int (S 0), .int (S 1)])),
   (q 1, .inr (1, [.ref (q 6), .ref (q 7), .ref (q 8), .int (S 2), .int (S 3)])),
   (q 2, .inr (0, [.ref (q 9), .ref (q 10), .ref (q 11), .ref (q 12), .ref (q 13), .ref (q 14), .ref (q 15), .ref (q 16), .int (S 4), .int (S 5)])),
   (q 3, .inr (2, [.ref (q 17), .ref (q 18), .int (S 6)])),
   (q 4, .inl (cy 0, 4, .inl (A 0))), (q 5, .inl (cy 0, 5, .inl (A 1))),
   (q 6, .inl (cy 0, 8, .inl (A 2))), (q 7, .inl (cy 0, 8, .inl (A 3))), (q 8, .inl (cy 0, 8, .inl (A 4))),
   (q 9, .inl (cy 0, 24, .inl (A 5))), (q 10, .inl (cy 0, 24, .inl (A 6))), (q 11, .inl (cy 0, 24, .inl (A 7))), (q 12, .inl (cy 0, 24, .inl (A 8))), (q 13, .inl (cy 0, 24, .inl (A 9))), (q 14, .inl (cy 0, 24, .inl (A 10))), (q 15, .inl (cy 0, 24, .inl (A 11))), (q 16, .inl (cy 0, 24, .inl (A 12))),
   (q 17, .inl (cy 0, 3, .inl (A 13))), (q 18, .inl (cy 0, 3, .inl (A 14)))]
def wM (cy : Nat → ClassId) (q : Nat → Nat) (B : Nat → Nat → Int32) (T : Nat → Int32) : va_W :=
  [(q 0, .inr (4, [.ref (q 1), .ref (q 2), .int (T 0), .ref (q 3), .ref (q 4), .ref (q 5), .ref (q 6), .int (T 1), .ref (q 7), .ref (q 8), .ref (q 9), .ref (q 10), .ref (q 11), .ref (q 12), .ref (q 13), .ref (q 14), .int (T 2), .ref (q 15), .ref (q 16), .ref (q 17), .int (T 3), .int (T 4), .int (T 5)])),
   (q 1, .inl (cy 0, 4, .inl (B 0))), (q 2, .inl (cy 0, 5, .inl (B 1))),
   (q 3, .inl (cy 0, 8, .inl (B 2))), (q 4, .inl (cy 0, 8, .inl (B 3))), (q 5, .inl (cy 0, 8, .inl (B 4))), (q 6, .inl (cy 1, 8, .inl (B 5))),
   (q 7, .inl (cy 0, 24, .inl (B 6))), (q 8, .inl (cy 0, 24, .inl (B 7))), (q 9, .inl (cy 0, 24, .inl (B 8))), (q 10, .inl (cy 0, 24, .inl (B 9))), (q 11, .inl (cy 0, 24, .inl (B 10))), (q 12, .inl (cy 1, 24, .inl (B 11))), (q 13, .inl (cy 0, 24, .inl (B 12))), (q 14, .inl (cy 0, 24, .inl (B 13))),
   (q 15, .inl (cy 0, 3, .inl (B 14))), (q 16, .inl (cy 0, 3, .inl (B 15))), (q 17, .inl (cy 0, 3, .inl (B 16)))]
/-- the cells of a world that starts at q 0 and has n places -/
def qA (n : Nat) (q : Nat → Nat) : Nat → Prop := fun x => ∃ k, k < n ∧ x = q k
/-- a row, a number of the state replaced -/
def uA (A : Nat → Nat → Int32) (k : Nat) (f : Nat → Int32) : Nat → Nat → Int32 := fun i => if i = k then f else A i
def uS (S : Nat → Int32) (k : Nat) (x : Int32) : Nat → Int32 := fun i => if i = k then x else S i
theorem qA_X {D : va_G} {cy : Nat → ClassId} {h0 : Nat} {q : Nat → Nat} {A : Nat → Nat → Int32} {S : Nat → Int32} {s : State} {H : Heap} (h : IH D cy h0 (wX cy q A S) s H) : va_D (qA 19 q) (wX cy q A S) := by
  refine h.dA (fun k x hk => ?_)
  have hl : k < 19 := (List.getElem?_eq_some_iff.mp hk).1
  refine ⟨k, hl, ?_⟩
  have key : ∀ k, k < 19 → ((wX cy q A S)[k]?).map (·.1) = some (q k) := by
    intro k hk
    match k, hk with
    | 0, _ | 1, _ | 2, _ | 3, _ | 4, _ | 5, _ | 6, _ | 7, _ | 8, _ | 9, _ | 10, _ | 11, _ | 12, _ | 13, _ | 14, _ | 15, _ | 16, _ | 17, _ | 18, _ => rfl
    | n + 19, h => omega
  have h2 := key k hl
  rw [hk] at h2
  exact Option.some.inj h2
theorem qA_M {D : va_G} {cy : Nat → ClassId} {h0 : Nat} {q : Nat → Nat} {B : Nat → Nat → Int32} {T : Nat → Int32} {s : State} {H : Heap} (h : IH D cy h0 (wM cy q B T) s H) : va_D (qA 18 q) (wM cy q B T) := by
  refine h.dA (fun k x hk => ?_)
  have hl : k < 18 := (List.getElem?_eq_some_iff.mp hk).1
  refine ⟨k, hl, ?_⟩
  have key : ∀ k, k < 18 → ((wM cy q B T)[k]?).map (·.1) = some (q k) := by
    intro k hk
    match k, hk with
    | 0, _ | 1, _ | 2, _ | 3, _ | 4, _ | 5, _ | 6, _ | 7, _ | 8, _ | 9, _ | 10, _ | 11, _ | 12, _ | 13, _ | 14, _ | 15, _ | 16, _ | 17, _ => rfl
    | n + 18, h => omega
  have h2 := key k hl
  rw [hk] at h2
  exact Option.some.inj h2
theorem hA_X {D : va_G} {cy : Nat → ClassId} {h0 : Nat} {q : Nat → Nat} {A : Nat → Nat → Int32} {S : Nat → Int32} {s : State} {H : Heap} (h : IH D cy h0 (wX cy q A S) s H) : ∀ x, qA 19 q x → h0 ≤ x := by
  rintro x ⟨k, hk, rfl⟩
  have key : ∃ y, (wX cy q A S)[k]? = some (q k, y) := by
    match k, hk with
    | 0, _ | 1, _ | 2, _ | 3, _ | 4, _ | 5, _ | 6, _ | 7, _ | 8, _ | 9, _ | 10, _ | 11, _ | 12, _ | 13, _ | 14, _ | 15, _ | 16, _ | 17, _ | 18, _ => exact ⟨_, rfl⟩
    | n + 19, h => omega
  obtain ⟨y, hy⟩ := key
  exact h.2.2.2 k _ hy
theorem hA_M {D : va_G} {cy : Nat → ClassId} {h0 : Nat} {q : Nat → Nat} {B : Nat → Nat → Int32} {T : Nat → Int32} {s : State} {H : Heap} (h : IH D cy h0 (wM cy q B T) s H) : ∀ x, qA 18 q x → h0 ≤ x := by
  rintro x ⟨k, hk, rfl⟩
  have key : ∃ y, (wM cy q B T)[k]? = some (q k, y) := by
    match k, hk with
    | 0, _ | 1, _ | 2, _ | 3, _ | 4, _ | 5, _ | 6, _ | 7, _ | 8, _ | 9, _ | 10, _ | 11, _ | 12, _ | 13, _ | 14, _ | 15, _ | 16, _ | 17, _ => exact ⟨_, rfl⟩
    | n + 18, h => omega
  obtain ⟨y, hy⟩ := key
  exact h.2.2.2 k _ hy
end
section
/-! Helpers of the walks: bits of sets, booleans as ints, rooms of calls that may throw. -/
def bI (b : Bool) : Int32 := if b then 1 else 0
def ly (k : Int32) : Int32 := 1 <<< (k &&& 31)
def hold (x k : Int32) : Bool := !decide (x &&& ly k = 0)
abbrev f100 : UInt32 := 1120403456
theorem bI_t : bI true = 1 := rfl
theorem bI_f : bI false = 0 := rfl
theorem bI_0 (b : Bool) : bI b = 0 ↔ b = false := by cases b <;> decide
theorem nz_bI (b : Bool) : narrow .boolean (.int (bI b)) = .int (bI b) := by cases b <;> rfl
theorem rm_ok {ex : Option String} {R : Room} {cells slots : Nat} (h : ex = none) (h1 : cells ≤ R.cells) (h2 : slots ≤ R.slots) : cells + c1 ex ≤ R.cells ∧ slots + c6 ex ≤ R.slots := by subst h; exact ⟨h1, h2⟩
theorem rm_bad {ex ex' : Option String} {E : String} {R : Room} (h : ex = some E) (h' : ex' = some E) (hc : R.cells = c1 ex' := by rfl) (hs : R.slots = c6 ex' := by rfl) : 0 + c1 ex ≤ R.cells ∧ 0 + c6 ex ≤ R.slots := by
  subst h; rw [hc, hs]; subst h'; exact ⟨Nat.le_refl _, Nat.le_refl _⟩
theorem i_ge {x y : Int32} {a b : Nat} (hx : x = nI a) (hy : y = nI b) (h : b ≤ a) (ha : a < 2 ^ 31) : y ≤ x := by rw [hx, hy]; exact nI_le h ha
theorem i_nge {x y : Int32} {a b : Nat} (hx : x = nI a) (hy : y = nI b) (h : a < b) (hb : b < 2 ^ 31) : ¬ y ≤ x := by rw [hx, hy]; exact nI_ge h hb
theorem i_lt {x y : Int32} {a b : Nat} (hx : x = nI a) (hy : y = nI b) (h : a < b) (hb : b < 2 ^ 31) : x < y := by rw [hx, hy]; exact nI_lt h hb
theorem i_nlt {x y : Int32} {a b : Nat} (hx : x = nI a) (hy : y = nI b) (h : b ≤ a) (ha : a < 2 ^ 31) : ¬ x < y := by rw [hx, hy]; exact nI_nlt h ha
section HELP
variable {p : Program} {l : Launch} {e : Env} {R : Room} {s : State} {m : MethodId} {args : Array Value} {below : List Frame} {meth : Method} {c : Code} {H : Heap} {locs : List Loc} {cells slots : Nat} {Q : State → Prop}
variable {cc : ByteArray} {pc : Nat} {ls : Array Slot} {rest st0 : List Value} {A0 : Nat → Prop} {H0 : Heap} {a : Array Value}
theorem r_ifeq_b {b : Bool} {off : Int} {tgt : Nat} (hexec : p.tables.exec = Jvm.exec) (hb : c.code = cc) (hdg : decode cc pc = .ok (.ifCond .eq off, 3)) (ht : (pc : Int) + off = (tgt : Int))
    (kt : b = false → W p l e R s m args below meth c H locs cells slots Q (F0 m tgt ls rest)) (kf : b = true → W p l e R s m args below meth c H locs cells slots Q (F0 m (pc + 3) ls rest)) : W p l e R s m args below meth c H locs cells slots Q (F0 m pc ls (.int (bI b) :: rest)) :=
  lv_if_eq hexec hb hdg ht (fun h => kt ((bI_0 b).mp h)) (fun h => kf (by cases b <;> first | rfl | exact absurd rfl h))
theorem r_ifne_b {b : Bool} {off : Int} {tgt : Nat} (hexec : p.tables.exec = Jvm.exec) (hb : c.code = cc) (hdg : decode cc pc = .ok (.ifCond .ne off, 3)) (ht : (pc : Int) + off = (tgt : Int))
    (kt : b = true → W p l e R s m args below meth c H locs cells slots Q (F0 m tgt ls rest)) (kf : b = false → W p l e R s m args below meth c H locs cells slots Q (F0 m (pc + 3) ls rest)) : W p l e R s m args below meth c H locs cells slots Q (F0 m pc ls (.int (bI b) :: rest)) :=
  lv_if_ne hexec hb hdg ht (fun h => kt (by cases b <;> first | rfl | exact absurd rfl h)) (fun h => kf ((bI_0 b).mp h))
theorem ro0_i {v : Int32} (hr : va_Run p l e R s m args below meth c H locs cells slots 0 0 (F0 m pc ls st0) rest (roI v a) nof) (hS : va_S A0 H0 H locs)
    (kk : ∀ (H1 : Heap) (locs1 : List Loc), va_S A0 H0 H1 locs1 → W p l e R s m args below meth c H1 locs1 cells slots Q (F0 m (pc + 3) ls (.int v :: rest))) : W p l e R s m args below meth c H locs cells slots Q (F0 m pc ls st0) :=
  va_calli hr hS (fun q _ h => h.elim) (fun q h => h.elim) (fun r u t H1 locs1 ht hvm hw hB hz1 hk1 hS1 => by
    subst hw
    exact kk H1 locs1 hS1)
theorem ro0_l {v : Int64} (hr : va_Run p l e R s m args below meth c H locs cells slots 0 0 (F0 m pc ls st0) rest (roL v a) nof) (hS : va_S A0 H0 H locs)
    (kk : ∀ (H1 : Heap) (locs1 : List Loc), va_S A0 H0 H1 locs1 → W p l e R s m args below meth c H1 locs1 cells slots Q (F0 m (pc + 3) ls (.long v :: rest))) : W p l e R s m args below meth c H locs cells slots Q (F0 m pc ls st0) :=
  va_calll hr hS (fun q _ h => h.elim) (fun q h => h.elim) (fun r u t H1 locs1 ht hvm hw hB hz1 hk1 hS1 => by
    subst hw
    exact kk H1 locs1 hS1)
theorem ro0_f {v : UInt32} (hr : va_Run p l e R s m args below meth c H locs cells slots 0 0 (F0 m pc ls st0) rest (roF v a) nof) (hS : va_S A0 H0 H locs)
    (kk : ∀ (H1 : Heap) (locs1 : List Loc), va_S A0 H0 H1 locs1 → W p l e R s m args below meth c H1 locs1 cells slots Q (F0 m (pc + 3) ls (.float v :: rest))) : W p l e R s m args below meth c H locs cells slots Q (F0 m pc ls st0) :=
  va_callf hr hS (fun q _ h => h.elim) (fun q h => h.elim) (fun r u t H1 locs1 ht hvm hw hB hz1 hk1 hS1 => by
    subst hw
    exact kk H1 locs1 hS1)
end HELP
end
section
/-! Buildlots.only, holds; Keys.liveOn, live, signersOf, append. Rows written by wip/whole/gen/part13.py. -/
def liveB (A : Nat → Nat → Int32) (S : Nat → Int32) (j : Nat) (day : Int32) : Bool := !decide (day < A 3 j) && (!decide (A 4 j < day) && !hold (S 2) (nI j))
def liveF (A : Nat → Nat → Int32) (S : Nat → Int32) (day : Int32) : Nat → Int32
  | 0 => 0
  | k + 1 => if liveB A S k day then liveF A S day k ||| ly (nI k) else liveF A S day k
def sgF (g : Nat → Int32) (x : Int32) : Nat → Int32
  | 0 => 0
  | k + 1 => if hold x (nI k) then sgF g x k ||| ly (g k) else sgF g x k

set_option maxHeartbeats 4000000 in
set_option maxRecDepth 100000 in
theorem c_X3_only (l : Launch) (k : Int32) : Met l yX3_only wsX3_only (rmO 1 0) (va_Pc [.int k] (fun _ => True)) (roI (ly k)) 0 0 nof := by
  refine Met.ofW (cc := cX3_only) (maxL := 1) (ret := (some .int)) (by decide) rfl ?_
  intro p e s m args below meth c s₁ B hml hv
  obtain ⟨rfl, hI⟩ := hv
  have hx := B.exec
  have hb := B.bytes
  have hr := B.returns
  have hts := atoms_spec (ws := wsX3_only) B.pre
  have hown : s.vm.findClass RX3 = some m.cls := findClass_of_methodNamed B.named
  have hlk := B.notSynchronized
  have hS : va_S nof s.heap s.heap [] := va_S.rf
  have hl := lv_entry ([.int k]) (n := 1) (Nat.le_of_ble_eq_true rfl)
  rw [lg_entry_eq]
  generalize (lg_sl ([.int k]) ++ List.replicate (1 - (lg_sl ([.int k])).length) Slot.unset).toArray = ls at hl ⊢
  have hl : lv_has ls 1 [(0, .int k)] := hl
  refine lv_iconst (v := 1) hx hb dX3_only_0 (by decide) ?_
  refine lv_iload_n hx hb dX3_only_1 rfl (lv_at hl 0 rfl) ?_
  refine lv_ishl hx hb dX3_only_2 ?_
  exact end_roi hx hb hr rfl hS dX3_only_3 hlk

set_option maxHeartbeats 4000000 in
set_option maxRecDepth 100000 in
theorem c_X3_holds (l : Launch) (x : Int32) (k : Int32) : Met l yX3_holds wsX3_holds (rmO 2 20) (va_Pc [.int x, .int k] (fun _ => True)) (roI (bI (hold x k))) 0 0 nof := by
  refine Met.ofW (cc := cX3_holds) (maxL := 2) (ret := (some .boolean)) (by decide) rfl ?_
  intro p e s m args below meth c s₁ B hml hv
  obtain ⟨rfl, hI⟩ := hv
  have hx := B.exec
  have hb := B.bytes
  have hr := B.returns
  have hts := atoms_spec (ws := wsX3_holds) B.pre
  have hown : s.vm.findClass RX3 = some m.cls := findClass_of_methodNamed B.named
  have hlk := B.notSynchronized
  have hS : va_S nof s.heap s.heap [] := va_S.rf
  have hl := lv_entry ([.int x, .int k]) (n := 2) (Nat.le_of_ble_eq_true rfl)
  rw [lg_entry_eq]
  generalize (lg_sl ([.int x, .int k]) ++ List.replicate (2 - (lg_sl ([.int x, .int k])).length) Slot.unset).toArray = ls at hl ⊢
  have hl : lv_has ls 2 [(0, .int x), (1, .int k)] := hl
  refine lv_iload_n hx hb dX3_holds_0 rfl (lv_at hl 0 rfl) ?_
  refine lv_iload_n hx hb dX3_holds_1 rfl (lv_at hl 1 rfl) ?_
  refine ro0_i (va_runS (As := [.int k]) (rest := [.int x]) ⟨hx, hb, hml, hown, hts⟩ (c_X3_only l k) (va_cwS 1 hts gX3_holds_X3_only rfl rfl rfl (by decide +kernel) ⟨Nat.le_of_ble_eq_true rfl, Nat.le_of_ble_eq_true rfl⟩) preT rfl rfl hl.1 rfl (lv_room (Nat.le_of_ble_eq_true rfl)) dX3_holds_2 ⟨Nat.le_of_ble_eq_true rfl, Nat.le_of_ble_eq_true rfl⟩) hS (fun H locs hS => ?_)
  refine lv_iand hx hb dX3_holds_5 ?_
  refine lv_if_eq (tgt := 13) hx hb dX3_holds_6 (by decide) (fun c6_1 => ?_) (fun c6_1 => ?_)
  · refine lv_iconst (v := 0) hx hb dX3_holds_13 (by decide) ?_
    exact end_roz hx hb hr rfl (by simp [hold, bI, c6_1]) hS dX3_holds_14 hlk
  · refine lv_iconst (v := 1) hx hb dX3_holds_9 (by decide) ?_
    refine lv_goto (tgt := 14) hx hb dX3_holds_10 (by decide) ?_
    exact end_roz hx hb hr rfl (by simp [hold, bI, c6_1]) hS dX3_holds_14 hlk

set_option maxHeartbeats 4000000 in
set_option maxRecDepth 100000 in
theorem c_X1_liveOn (l : Launch) (D : va_G) (cy : Nat → ClassId) (h0 : Nat) (q : Nat → Nat) (A : Nat → Nat → Int32) (S : Nat → Int32) (key : Int32) (day : Int32) (j : Nat) (hj : j < 8) (hk : key = nI j) : Met l yX1_liveOn wsX1_liveOn (rmO 3 41) (va_Pc [.ref (q 1), .int key, .int day] (pI D cy h0 (wX cy q A S))) (roI (bI (liveB A S j day))) 0 0 nof := by
  refine Met.ofW (cc := cX1_liveOn) (maxL := 3) (ret := (some .boolean)) (by decide) rfl ?_
  intro p e s m args below meth c s₁ B hml hv
  obtain ⟨rfl, hI⟩ := hv
  have hx := B.exec
  have hb := B.bytes
  have hr := B.returns
  have hts := atoms_spec (ws := wsX1_liveOn) B.pre
  have hown : s.vm.findClass RX1 = some m.cls := findClass_of_methodNamed B.named
  have hlk := B.notSynchronized
  have hI : IH D cy h0 (wX cy q A S) s s.heap := hI
  have hG := hI.1
  have hS : va_S nof s.heap s.heap [] := va_S.rf
  have hi1 : ∀ w ∈ wsX10, w ∈ wsX1_liveOn := by decide +kernel
  have hl := lv_entry ([.ref (q 1), .int key, .int day]) (n := 3) (Nat.le_of_ble_eq_true rfl)
  rw [lg_entry_eq]
  generalize (lg_sl ([.ref (q 1), .int key, .int day]) ++ List.replicate (3 - (lg_sl ([.ref (q 1), .int key, .int day])).length) Slot.unset).toArray = ls at hl ⊢
  have hl : lv_has ls 3 [(0, .ref (q 1)), (1, .int key), (2, .int day)] := hl
  refine lv_aload_n hx hb dX1_liveOn_0 rfl (lv_at hl 0 rfl) ?_
  refine r_get (C := RX1) (T := TX1) (N := 5) (k := 1) (q0 := 1) (v := .ref (q 7)) hx hb hts hi1 hown hI rfl rfl (by decide) (hts (.fieldLink RX1 15 "Buildlots$Keys" "firsts" "[I") (List.mem_of_getElem? (i := 1) rfl)) rfl rfl dX1_liveOn_1 ?_
  refine lv_iload_n hx hb dX1_liveOn_4 rfl (lv_at hl 1 rfl) ?_
  refine r_iald (q0 := 7) (j := j) (n := 8) (f := (A 3)) hx hb hI rfl hk hj (by decide) dX1_liveOn_5 ?_
  refine lv_iload_n hx hb dX1_liveOn_6 rfl (lv_at hl 2 rfl) ?_
  refine lv_icmp_gt (tgt := 35) hx hb dX1_liveOn_7 (by decide) (fun c7_1 => ?_) (fun c7_1 => ?_)
  · refine lv_iconst (v := 0) hx hb dX1_liveOn_35 (by decide) ?_
    exact end_roz hx hb hr rfl (by subst hk; simp [liveB, bI, c7_1,  Int32.not_lt, Int32.not_le]) hS dX1_liveOn_36 hlk
  · refine lv_iload_n hx hb dX1_liveOn_10 rfl (lv_at hl 2 rfl) ?_
    refine lv_aload_n hx hb dX1_liveOn_11 rfl (lv_at hl 0 rfl) ?_
    refine r_get (C := RX1) (T := TX1) (N := 5) (k := 2) (q0 := 1) (v := .ref (q 8)) hx hb hts hi1 hown hI rfl rfl (by decide) (hts (.fieldLink RX1 18 "Buildlots$Keys" "lasts" "[I") (List.mem_of_getElem? (i := 2) rfl)) rfl rfl dX1_liveOn_12 ?_
    refine lv_iload_n hx hb dX1_liveOn_15 rfl (lv_at hl 1 rfl) ?_
    refine r_iald (q0 := 8) (j := j) (n := 8) (f := (A 4)) hx hb hI rfl hk hj (by decide) dX1_liveOn_16 ?_
    refine lv_icmp_gt (tgt := 35) hx hb dX1_liveOn_17 (by decide) (fun c17_2 => ?_) (fun c17_2 => ?_)
    · refine lv_iconst (v := 0) hx hb dX1_liveOn_35 (by decide) ?_
      exact end_roz hx hb hr rfl (by subst hk; simp [liveB, bI, c7_1, c17_2,  Int32.not_lt, Int32.not_le]) hS dX1_liveOn_36 hlk
    · refine lv_aload_n hx hb dX1_liveOn_20 rfl (lv_at hl 0 rfl) ?_
      refine r_get (C := RX1) (T := TX1) (N := 5) (k := 3) (q0 := 1) (v := .int (S 2)) hx hb hts hi1 hown hI rfl rfl (by decide) (hts (.fieldLink RX1 25 "Buildlots$Keys" "lost" "I") (List.mem_of_getElem? (i := 3) rfl)) rfl rfl dX1_liveOn_21 ?_
      refine lv_iload_n hx hb dX1_liveOn_24 rfl (lv_at hl 1 rfl) ?_
      refine ro_i (va_runSN (As := [.int (S 2), .int key]) (rest := []) ⟨hx, hb, hml, hown, hts⟩ (c_X3_holds l (S 2) key) ⟨va_cnB (host := RX3) 2 hts gX1_liveOn_X3_holds_n28 rfl rfl rfl (hG.1.2.1 (RX1, 28, yX3_holds) (List.mem_of_getElem? (i := 6) rfl)) (hts (.initialized RX3) (List.mem_of_getElem? (i := 5) rfl)) (by decide +kernel) ⟨Nat.le_of_ble_eq_true rfl, Nat.le_of_ble_eq_true rfl⟩, (hts (.static yX3_holds) (List.mem_of_getElem? (i := 4) rfl)), trivial⟩ preT rfl rfl hl.1 rfl (lv_room (Nat.le_of_ble_eq_true rfl)) dX1_liveOn_25 ⟨Nat.le_of_ble_eq_true rfl, Nat.le_of_ble_eq_true rfl⟩) hI hS (fun H locs hI hS => ?_)
      refine r_ifne_b (tgt := 35) hx hb dX1_liveOn_28 (by decide) (fun c28_3 => ?_) (fun c28_3 => ?_)
      · refine lv_iconst (v := 0) hx hb dX1_liveOn_35 (by decide) ?_
        exact end_roz hx hb hr rfl (by subst hk; simp [liveB, bI, c7_1, c17_2, c28_3,  Int32.not_lt, Int32.not_le]) hS dX1_liveOn_36 hlk
      · refine lv_iconst (v := 1) hx hb dX1_liveOn_31 (by decide) ?_
        refine lv_goto (tgt := 36) hx hb dX1_liveOn_32 (by decide) ?_
        exact end_roz hx hb hr rfl (by subst hk; simp [liveB, bI, c7_1, c17_2, c28_3,  Int32.not_lt, Int32.not_le]) hS dX1_liveOn_36 hlk

set_option maxHeartbeats 4000000 in
set_option maxRecDepth 100000 in
theorem c_X1_live (l : Launch) (D : va_G) (cy : Nat → ClassId) (h0 : Nat) (q : Nat → Nat) (A : Nat → Nat → Int32) (S : Nat → Int32) (day : Int32) (nk : Nat) (hn : nk ≤ 8) (hc : S 3 = nI nk) : Met l yX1_live wsX1_live (rmO 4 63) (va_Pc [.ref (q 1), .int day] (pI D cy h0 (wX cy q A S))) (roI (liveF A S day nk)) 0 0 nof := by
  refine Met.ofW (cc := cX1_live) (maxL := 4) (ret := (some .int)) (by decide) rfl ?_
  intro p e s m args below meth c s₁ B hml hv
  obtain ⟨rfl, hI⟩ := hv
  have hx := B.exec
  have hb := B.bytes
  have hr := B.returns
  have hts := atoms_spec (ws := wsX1_live) B.pre
  have hown : s.vm.findClass RX1 = some m.cls := findClass_of_methodNamed B.named
  have hlk := B.notSynchronized
  have hI : IH D cy h0 (wX cy q A S) s s.heap := hI
  have hG := hI.1
  have hS : va_S nof s.heap s.heap [] := va_S.rf
  have hi1 : ∀ w ∈ wsX10, w ∈ wsX1_live := by decide +kernel
  have hl := lv_entry ([.ref (q 1), .int day]) (n := 4) (Nat.le_of_ble_eq_true rfl)
  rw [lg_entry_eq]
  generalize (lg_sl ([.ref (q 1), .int day]) ++ List.replicate (4 - (lg_sl ([.ref (q 1), .int day])).length) Slot.unset).toArray = ls at hl ⊢
  have hl : lv_has ls 4 [(0, .ref (q 1)), (1, .int day)] := hl
  refine lv_iconst (v := 0) hx hb dX1_live_0 (by decide) ?_
  refine lv_istore_n (lv' := [(2, .int 0), (0, .ref (q 1)), (1, .int day)]) hx hb dX1_live_1 rfl hl (by decide) rfl (fun ls hl => ?_)
  refine lv_iconst (v := 0) hx hb dX1_live_2 (by decide) ?_
  refine lv_istore_n (lv' := [(3, .int 0), (2, .int 0), (0, .ref (q 1)), (1, .int day)]) hx hb dX1_live_3 rfl hl (by decide) rfl (fun ls hl => ?_)
  suffices KL4 : ∀ (n9 k : Nat), k + n9 = nk → ∀ (H : Heap) (locs : List Loc), IH D cy h0 (wX cy q A S) s H → va_S (nof) s.heap H locs → ∀ ls : Array Slot, lv_has ls 4 [(3, .int (nI k)), (2, .int (liveF A S day k)), (0, .ref (q 1)), (1, .int day)] → W p l e (headSpec wsX1_live (rmO 4 63)).room s m ([.ref (q 1), .int day]).toArray below meth c H locs 0 0 (MQ below (roI (liveF A S day nk)) ([.ref (q 1), .int day]).toArray s 0 0 nof) (F0 m 4 ls []) by
    exact KL4 nk 0 (by omega) _ _ hI hS ls ((lv_sub hl [0, 1, 2, 3] rfl))
  intro n9
  induction n9 with
  | zero =>
    intro k hk H locs hI hS ls hl
    have hk : nk = k := by omega
    subst hk
    refine lv_iload_n hx hb dX1_live_4 rfl (lv_at hl 0 rfl) ?_
    refine lv_aload_n hx hb dX1_live_5 rfl (lv_at hl 2 rfl) ?_
    refine r_get (C := RX1) (T := TX1) (N := 5) (k := 4) (q0 := 1) (v := .int (S 3)) hx hb hts hi1 hown hI rfl rfl (by decide) (hts (.fieldLink RX1 21 "Buildlots$Keys" "count" "I") (List.mem_of_getElem? (i := 1) rfl)) rfl rfl dX1_live_6 ?_
    refine lv_icmp_ge (tgt := 34) hx hb dX1_live_9 (by decide) (fun c9_1 => ?_) (fun c9_1 => ?_)
    rotate_left
    · exact absurd (i_ge rfl hc (Nat.le_refl _) (by omega)) c9_1
    refine lv_iload_n hx hb dX1_live_34 rfl (lv_at hl 1 rfl) ?_
    exact end_roi hx hb hr rfl hS dX1_live_35 hlk
  | succ n9 ih4 =>
    intro k hk H locs hI hS ls hl
    have hk4 : k < nk := by omega
    refine lv_iload_n hx hb dX1_live_4 rfl (lv_at hl 0 rfl) ?_
    refine lv_aload_n hx hb dX1_live_5 rfl (lv_at hl 2 rfl) ?_
    refine r_get (C := RX1) (T := TX1) (N := 5) (k := 4) (q0 := 1) (v := .int (S 3)) hx hb hts hi1 hown hI rfl rfl (by decide) (hts (.fieldLink RX1 21 "Buildlots$Keys" "count" "I") (List.mem_of_getElem? (i := 1) rfl)) rfl rfl dX1_live_6 ?_
    refine lv_icmp_ge (tgt := 34) hx hb dX1_live_9 (by decide) (fun c9_2 => ?_) (fun c9_2 => ?_)
    · exact absurd c9_2 (i_nge rfl hc (by omega) (by omega))
    refine lv_aload_n hx hb dX1_live_12 rfl (lv_at hl 2 rfl) ?_
    refine lv_iload_n hx hb dX1_live_13 rfl (lv_at hl 0 rfl) ?_
    refine lv_iload_n hx hb dX1_live_14 rfl (lv_at hl 3 rfl) ?_
    refine ro_i (va_runV (As := [.int (nI k), .int day]) (rest := []) ⟨hx, hb, hml, hown, hts⟩ (c_X1_liveOn l D cy h0 q A S (nI k) day k (by omega) rfl) (cwV 2 hts gX1_live_X1_liveOn rfl rfl rfl (by decide +kernel) ⟨Nat.le_of_ble_eq_true rfl, Nat.le_of_ble_eq_true rfl⟩) (hI.preV (k0 := 1) rfl rfl) rfl rfl hl.1 rfl (lv_room (Nat.le_of_ble_eq_true rfl)) dX1_live_15 ⟨Nat.le_of_ble_eq_true rfl, Nat.le_of_ble_eq_true rfl⟩) hI hS (fun H locs hI hS => ?_)
    refine r_ifeq_b (tgt := 28) hx hb dX1_live_18 (by decide) (fun c18_3 => ?_) (fun c18_3 => ?_)
    · refine lv_iinc (v := nI (k + 1)) (lv' := [(3, .int (nI (k + 1))), (2, .int (liveF A S day k)), (0, .ref (q 1)), (1, .int day)]) hx hb dX1_live_28 hl (k := 0) rfl (nI_1 k) (by decide) rfl (fun ls hl => ?_)
      refine lv_goto (tgt := 4) hx hb dX1_live_31 (by decide) ?_
      rw [show (liveF A S day k) = (liveF A S day (k + 1)) from (by simp [liveF, c9_2, c18_3])] at hl
      exact ih4 (k + 1) (by omega) _ _ hI hS ls (lv_sub hl [0, 1, 2, 3] rfl)
    · refine lv_iload_n hx hb dX1_live_21 rfl (lv_at hl 1 rfl) ?_
      refine lv_iload_n hx hb dX1_live_22 rfl (lv_at hl 0 rfl) ?_
      refine ro_i (va_runSN (As := [.int (nI k)]) (rest := [.int (liveF A S day k)]) ⟨hx, hb, hml, hown, hts⟩ (c_X3_only l (nI k)) ⟨va_cnB (host := RX3) 1 hts gX1_live_X3_only_n35 rfl rfl rfl (hG.1.2.1 (RX1, 35, yX3_only) (List.mem_of_getElem? (i := 7) rfl)) (hts (.initialized RX3) (List.mem_of_getElem? (i := 11) rfl)) (by decide +kernel) ⟨Nat.le_of_ble_eq_true rfl, Nat.le_of_ble_eq_true rfl⟩, (hts (.static yX3_only) (List.mem_of_getElem? (i := 14) rfl)), trivial⟩ preT rfl rfl hl.1 rfl (lv_room (Nat.le_of_ble_eq_true rfl)) dX1_live_23 ⟨Nat.le_of_ble_eq_true rfl, Nat.le_of_ble_eq_true rfl⟩) hI hS (fun H locs hI hS => ?_)
      refine lv_ior hx hb dX1_live_26 ?_
      refine lv_istore_n (lv' := [(2, .int ((liveF A S day k) ||| (ly (nI k)))), (3, .int (nI k)), (0, .ref (q 1)), (1, .int day)]) hx hb dX1_live_27 rfl hl (by decide) rfl (fun ls hl => ?_)
      refine lv_iinc (v := nI (k + 1)) (lv' := [(3, .int (nI (k + 1))), (2, .int ((liveF A S day k) ||| (ly (nI k)))), (0, .ref (q 1)), (1, .int day)]) hx hb dX1_live_28 hl (k := 1) rfl (nI_1 k) (by decide) rfl (fun ls hl => ?_)
      refine lv_goto (tgt := 4) hx hb dX1_live_31 (by decide) ?_
      rw [show ((liveF A S day k) ||| (ly (nI k))) = (liveF A S day (k + 1)) from (by simp [liveF, c9_2, c18_3])] at hl
      exact ih4 (k + 1) (by omega) _ _ hI hS ls (lv_sub hl [0, 1, 2, 3] rfl)

set_option maxHeartbeats 4000000 in
set_option maxRecDepth 100000 in
theorem c_X1_signersOf (l : Launch) (D : va_G) (cy : Nat → ClassId) (h0 : Nat) (q : Nat → Nat) (A : Nat → Nat → Int32) (S : Nat → Int32) (x : Int32) (nk : Nat) (hn : nk ≤ 8) (hc : S 3 = nI nk) : Met l yX1_signersOf wsX1_signersOf (rmO 3 41) (va_Pc [.ref (q 1), .int x] (pI D cy h0 (wX cy q A S))) (roI (sgF (A 2) x nk)) 0 0 nof := by
  refine Met.ofW (cc := cX1_signersOf) (maxL := 4) (ret := (some .int)) (by decide) rfl ?_
  intro p e s m args below meth c s₁ B hml hv
  obtain ⟨rfl, hI⟩ := hv
  have hx := B.exec
  have hb := B.bytes
  have hr := B.returns
  have hts := atoms_spec (ws := wsX1_signersOf) B.pre
  have hown : s.vm.findClass RX1 = some m.cls := findClass_of_methodNamed B.named
  have hlk := B.notSynchronized
  have hI : IH D cy h0 (wX cy q A S) s s.heap := hI
  have hG := hI.1
  have hS : va_S nof s.heap s.heap [] := va_S.rf
  have hi1 : ∀ w ∈ wsX10, w ∈ wsX1_signersOf := by decide +kernel
  have hl := lv_entry ([.ref (q 1), .int x]) (n := 4) (Nat.le_of_ble_eq_true rfl)
  rw [lg_entry_eq]
  generalize (lg_sl ([.ref (q 1), .int x]) ++ List.replicate (4 - (lg_sl ([.ref (q 1), .int x])).length) Slot.unset).toArray = ls at hl ⊢
  have hl : lv_has ls 4 [(0, .ref (q 1)), (1, .int x)] := hl
  refine lv_iconst (v := 0) hx hb dX1_signersOf_0 (by decide) ?_
  refine lv_istore_n (lv' := [(2, .int 0), (0, .ref (q 1)), (1, .int x)]) hx hb dX1_signersOf_1 rfl hl (by decide) rfl (fun ls hl => ?_)
  refine lv_iconst (v := 0) hx hb dX1_signersOf_2 (by decide) ?_
  refine lv_istore_n (lv' := [(3, .int 0), (2, .int 0), (0, .ref (q 1)), (1, .int x)]) hx hb dX1_signersOf_3 rfl hl (by decide) rfl (fun ls hl => ?_)
  suffices KL4 : ∀ (n9 k : Nat), k + n9 = nk → ∀ (H : Heap) (locs : List Loc), IH D cy h0 (wX cy q A S) s H → va_S (nof) s.heap H locs → ∀ ls : Array Slot, lv_has ls 4 [(3, .int (nI k)), (2, .int (sgF (A 2) x k)), (0, .ref (q 1)), (1, .int x)] → W p l e (headSpec wsX1_signersOf (rmO 3 41)).room s m ([.ref (q 1), .int x]).toArray below meth c H locs 0 0 (MQ below (roI (sgF (A 2) x nk)) ([.ref (q 1), .int x]).toArray s 0 0 nof) (F0 m 4 ls []) by
    exact KL4 nk 0 (by omega) _ _ hI hS ls ((lv_sub hl [0, 1, 2, 3] rfl))
  intro n9
  induction n9 with
  | zero =>
    intro k hk H locs hI hS ls hl
    have hk : nk = k := by omega
    subst hk
    refine lv_iload_n hx hb dX1_signersOf_4 rfl (lv_at hl 0 rfl) ?_
    refine lv_aload_n hx hb dX1_signersOf_5 rfl (lv_at hl 2 rfl) ?_
    refine r_get (C := RX1) (T := TX1) (N := 5) (k := 4) (q0 := 1) (v := .int (S 3)) hx hb hts hi1 hown hI rfl rfl (by decide) (hts (.fieldLink RX1 21 "Buildlots$Keys" "count" "I") (List.mem_of_getElem? (i := 1) rfl)) rfl rfl dX1_signersOf_6 ?_
    refine lv_icmp_ge (tgt := 38) hx hb dX1_signersOf_9 (by decide) (fun c9_1 => ?_) (fun c9_1 => ?_)
    rotate_left
    · exact absurd (i_ge rfl hc (Nat.le_refl _) (by omega)) c9_1
    refine lv_iload_n hx hb dX1_signersOf_38 rfl (lv_at hl 1 rfl) ?_
    exact end_roi hx hb hr rfl hS dX1_signersOf_39 hlk
  | succ n9 ih4 =>
    intro k hk H locs hI hS ls hl
    have hk4 : k < nk := by omega
    refine lv_iload_n hx hb dX1_signersOf_4 rfl (lv_at hl 0 rfl) ?_
    refine lv_aload_n hx hb dX1_signersOf_5 rfl (lv_at hl 2 rfl) ?_
    refine r_get (C := RX1) (T := TX1) (N := 5) (k := 4) (q0 := 1) (v := .int (S 3)) hx hb hts hi1 hown hI rfl rfl (by decide) (hts (.fieldLink RX1 21 "Buildlots$Keys" "count" "I") (List.mem_of_getElem? (i := 1) rfl)) rfl rfl dX1_signersOf_6 ?_
    refine lv_icmp_ge (tgt := 38) hx hb dX1_signersOf_9 (by decide) (fun c9_2 => ?_) (fun c9_2 => ?_)
    · exact absurd c9_2 (i_nge rfl hc (by omega) (by omega))
    refine lv_iload_n hx hb dX1_signersOf_12 rfl (lv_at hl 3 rfl) ?_
    refine lv_iload_n hx hb dX1_signersOf_13 rfl (lv_at hl 0 rfl) ?_
    refine ro_i (va_runSN (As := [.int x, .int (nI k)]) (rest := []) ⟨hx, hb, hml, hown, hts⟩ (c_X3_holds l x (nI k)) ⟨va_cnB (host := RX3) 2 hts gX1_signersOf_X3_holds_n28 rfl rfl rfl (hG.1.2.1 (RX1, 28, yX3_holds) (List.mem_of_getElem? (i := 6) rfl)) (hts (.initialized RX3) (List.mem_of_getElem? (i := 4) rfl)) (by decide +kernel) ⟨Nat.le_of_ble_eq_true rfl, Nat.le_of_ble_eq_true rfl⟩, (hts (.static yX3_holds) (List.mem_of_getElem? (i := 3) rfl)), trivial⟩ preT rfl rfl hl.1 rfl (lv_room (Nat.le_of_ble_eq_true rfl)) dX1_signersOf_14 ⟨Nat.le_of_ble_eq_true rfl, Nat.le_of_ble_eq_true rfl⟩) hI hS (fun H locs hI hS => ?_)
    refine r_ifeq_b (tgt := 32) hx hb dX1_signersOf_17 (by decide) (fun c17_3 => ?_) (fun c17_3 => ?_)
    · refine lv_iinc (v := nI (k + 1)) (lv' := [(3, .int (nI (k + 1))), (2, .int (sgF (A 2) x k)), (0, .ref (q 1)), (1, .int x)]) hx hb dX1_signersOf_32 hl (k := 0) rfl (nI_1 k) (by decide) rfl (fun ls hl => ?_)
      refine lv_goto (tgt := 4) hx hb dX1_signersOf_35 (by decide) ?_
      rw [show (sgF (A 2) x k) = (sgF (A 2) x (k + 1)) from (by simp [sgF, c9_2, c17_3])] at hl
      exact ih4 (k + 1) (by omega) _ _ hI hS ls (lv_sub hl [0, 1, 2, 3] rfl)
    · refine lv_iload_n hx hb dX1_signersOf_20 rfl (lv_at hl 1 rfl) ?_
      refine lv_aload_n hx hb dX1_signersOf_21 rfl (lv_at hl 2 rfl) ?_
      refine r_get (C := RX1) (T := TX1) (N := 5) (k := 0) (q0 := 1) (v := .ref (q 6)) hx hb hts hi1 hown hI rfl rfl (by decide) (hts (.fieldLink RX1 9 "Buildlots$Keys" "signers" "[I") (List.mem_of_getElem? (i := 2) rfl)) rfl rfl dX1_signersOf_22 ?_
      refine lv_iload_n hx hb dX1_signersOf_25 rfl (lv_at hl 0 rfl) ?_
      refine r_iald (q0 := 6) (j := k) (n := 8) (f := (A 2)) hx hb hI rfl rfl (by omega) (by decide) dX1_signersOf_26 ?_
      refine ro_i (va_runSN (As := [.int (A 2 k)]) (rest := [.int (sgF (A 2) x k)]) ⟨hx, hb, hml, hown, hts⟩ (c_X3_only l (A 2 k)) ⟨va_cnB (host := RX3) 1 hts gX1_signersOf_X3_only_n35 rfl rfl rfl (hG.1.2.1 (RX1, 35, yX3_only) (List.mem_of_getElem? (i := 7) rfl)) (hts (.initialized RX3) (List.mem_of_getElem? (i := 4) rfl)) (by decide +kernel) ⟨Nat.le_of_ble_eq_true rfl, Nat.le_of_ble_eq_true rfl⟩, (hts (.static yX3_only) (List.mem_of_getElem? (i := 7) rfl)), trivial⟩ preT rfl rfl hl.1 rfl (lv_room (Nat.le_of_ble_eq_true rfl)) dX1_signersOf_27 ⟨Nat.le_of_ble_eq_true rfl, Nat.le_of_ble_eq_true rfl⟩) hI hS (fun H locs hI hS => ?_)
      refine lv_ior hx hb dX1_signersOf_30 ?_
      refine lv_istore_n (lv' := [(2, .int ((sgF (A 2) x k) ||| (ly (A 2 k)))), (3, .int (nI k)), (0, .ref (q 1)), (1, .int x)]) hx hb dX1_signersOf_31 rfl hl (by decide) rfl (fun ls hl => ?_)
      refine lv_iinc (v := nI (k + 1)) (lv' := [(3, .int (nI (k + 1))), (2, .int ((sgF (A 2) x k) ||| (ly (A 2 k)))), (0, .ref (q 1)), (1, .int x)]) hx hb dX1_signersOf_32 hl (k := 1) rfl (nI_1 k) (by decide) rfl (fun ls hl => ?_)
      refine lv_goto (tgt := 4) hx hb dX1_signersOf_35 (by decide) ?_
      rw [show ((sgF (A 2) x k) ||| (ly (A 2 k))) = (sgF (A 2) x (k + 1)) from (by simp [sgF, c9_2, c17_3])] at hl
      exact ih4 (k + 1) (by omega) _ _ hI hS ls (lv_sub hl [0, 1, 2, 3] rfl)
end
section
/-! Ranges of arguments, floats that are no NaN, Buildlots' private methods, Integer.bitCount. Rows written by wip/whole/gen/part14.py. -/
abbrev ix (x : Int32) : Nat := x.toNatClampNeg
def inR (x : Int32) (n : Nat) : Bool := !decide (x < 0) && decide (x < nI n)
def exR (x : Int32) (n : Nat) (E : String) : Option String := if inR x n = true then none else some E
theorem exR_n {x : Int32} {n : Nat} {E : String} (h : inR x n = true) : exR x n E = none := if_pos h
theorem exR_s {x : Int32} {n : Nat} {E : String} (h : ¬ inR x n = true) : exR x n E = some E := if_neg h
theorem inR_c {x : Int32} {n : Nat} (hn : n ≤ 64) (h : inR x n = true) : ix x < n ∧ x = nI (ix x) := by
  simp only [inR, Bool.and_eq_true, Bool.not_eq_true', decide_eq_false_iff_not, decide_eq_true_eq] at h
  obtain ⟨j, hj, rfl⟩ := nI_of h.1
  have h2 := (nI_ltI hj (by omega)).mp h.2
  rw [show ix (nI j) = j from nI_clamp hj]
  exact ⟨h2, rfl⟩
theorem ix_c {x : Int32} {n : Nat} (hn : n ≤ 64) (h : ∃ t, t < n ∧ x = nI t) : ix x < n ∧ x = nI (ix x) := by
  obtain ⟨t, ht, rfl⟩ := h
  rw [show ix (nI t) = t from nI_clamp (by omega)]
  exact ⟨ht, rfl⟩
/-! floats -/
theorem nn32 {r : UInt32} (h : FP.Core.fIsNaN r = false) : vf_n32 r := by
  have h1 : ¬ (FP.Core.fIsNaN r = true) := by rw [h]; decide
  rw [FP.Core.isNaN_bits32] at h1
  show r &&& 0x7fffffff ≤ 0x7f800000
  rw [UInt32.le_iff_toNat_le]
  have h2 : (r &&& 0x7fffffff).toNat = r.toNat % 2 ^ 31 := by
    rw [UInt32.toNat_and]
    exact Nat.and_two_pow_sub_one_eq_mod _ 31
  rw [h2]
  have h3 : (0x7f800000 : UInt32).toNat = 2139095040 := rfl
  omega
theorem nn64 {r : UInt64} (h : FP.Core.dIsNaN r = false) : vf_n64 r := by
  have h1 : ¬ (FP.Core.dIsNaN r = true) := by rw [h]; decide
  rw [FP.Core.isNaN_bits] at h1
  show r &&& 0x7fffffffffffffff ≤ 0x7ff0000000000000
  rw [UInt64.le_iff_toNat_le]
  have h2 : (r &&& 0x7fffffffffffffff).toNat = r.toNat % 2 ^ 63 := by
    rw [UInt64.toNat_and]
    exact Nat.and_two_pow_sub_one_eq_mod _ 63
  rw [h2]
  have h3 : (0x7ff0000000000000 : UInt64).toNat = 9218868437227405312 := rfl
  omega
theorem fin_div (x : Int32) : FP.Core.FFin (FP.fdiv (FP.i2f x) f100) := by
  have h := FP.Core.fdiv_mag (a := FP.i2f x) (b := f100) (K := 160) (L := 133) (FP.Core.i2f_mag x) (by decide +kernel) (by decide +kernel) (by decide) (by decide)
  exact FP.Core.fin_of_lt32 h (by decide)
theorem nn_div (x : Int32) : vf_n32 (FP.fdiv (FP.i2f x) f100) := nn32 (fin_div x).notNaN
/-- the score that a set of signers gives, by the first k of them -/
def scF (w : Nat → Int32) (v : Int32) : Nat → UInt32
  | 0 => FP.fconst0
  | k + 1 => if hold v (nI k) then FP.fadd (scF w v k) (FP.fdiv (FP.i2f (w k)) f100) else scF w v k
theorem scF_nn (w : Nat → Int32) (v : Int32) : ∀ k, FP.Core.fIsNaN (scF w v k) = false
  | 0 => by show FP.Core.fIsNaN FP.fconst0 = false; decide +kernel
  | k + 1 => by
    unfold scF
    split
    · exact FP.Core.fadd_out (scF_nn w v k) (fin_div _)
    · exact scF_nn w v k
theorem nn_sc (w : Nat → Int32) (v : Int32) (k : Nat) : vf_n32 (FP.fadd (scF w v k) (FP.fdiv (FP.i2f (w k)) f100)) := nn32 (FP.Core.fadd_out (scF_nn w v k) (fin_div _))
def sufB (A : Nat → Nat → Int32) (v : Int32) (j : Nat) : Bool := !decide (Op.cmpValue (FP.fcmp (scF (A 0) v 4) (FP.fdiv (FP.i2f (A 1 (ix (A 5 j)))) f100)) CmpOp.l < 0)
def tbF (A : Nat → Nat → Int32) : Nat → Int32
  | 0 => 0
  | k + 1 => if sufB A (A 10 k) k then tbF A k ||| ly (nI k) else tbF A k
def expB (A : Nat → Nat → Int32) (S : Nat → Int32) (j : Nat) : Bool := decide (A 13 j = -1) || !decide (S 1 - A 13 j ≤ S 0)
def bc1 (x : Int32) : Int32 := x - ((x.toUInt32 >>> ((1 : Int32).toUInt32 &&& Int32.toUInt32 31)).toInt32 &&& 1431655765)
def bc2 (x : Int32) : Int32 := (x &&& 858993459) + ((x.toUInt32 >>> ((2 : Int32).toUInt32 &&& Int32.toUInt32 31)).toInt32 &&& 858993459)
def bc3 (x : Int32) : Int32 := (x + (x.toUInt32 >>> ((4 : Int32).toUInt32 &&& Int32.toUInt32 31)).toInt32) &&& 252645135
def bc4 (x : Int32) : Int32 := x + (x.toUInt32 >>> ((8 : Int32).toUInt32 &&& Int32.toUInt32 31)).toInt32
def bc5 (x : Int32) : Int32 := x + (x.toUInt32 >>> ((16 : Int32).toUInt32 &&& Int32.toUInt32 31)).toInt32
def bcF (x : Int32) : Int32 := bc5 (bc4 (bc3 (bc2 (bc1 x)))) &&& 63

set_option maxHeartbeats 4000000 in
set_option maxRecDepth 100000 in
theorem c_X3_requireSigner (l : Launch) (hst : l.stackTraces = false) (D : va_G) (cy : Nat → ClassId) (h0 : Nat) (q : Nat → Nat) (A : Nat → Nat → Int32) (S : Nat → Int32) (x : Int32) : vx_Met l yX3_requireSigner wsX3_requireSigner (rmX (exR x 4 xIAE) 6 82) (va_Pc [.ref (q 0), .int x] (pI D cy h0 (wX cy q A S))) (xoV (exR x 4 xIAE)) (xx (exR x 4 xIAE)) (c1 (exR x 4 xIAE)) (c6 (exR x 4 xIAE)) nof := by
  refine vx_ofW (cc := cX3_requireSigner) (maxL := 2) (ret := none) (by decide) rfl ?_
  intro p e s m args below meth c s₁ B hml hout hv
  obtain ⟨rfl, hI⟩ := hv
  have hx := B.exec
  have hb := B.bytes
  have hr := B.returns
  have hts := atoms_spec (ws := wsX3_requireSigner) B.pre
  have hown : s.vm.findClass RX3 = some m.cls := findClass_of_methodNamed B.named
  have hlk := B.notSynchronized
  have hI : IH D cy h0 (wX cy q A S) s s.heap := hI
  have hG := hI.1
  have hS : va_S nof s.heap s.heap [] := va_S.rf
  have hl := lv_entry ([.ref (q 0), .int x]) (n := 2) (Nat.le_of_ble_eq_true rfl)
  rw [lg_entry_eq]
  generalize (lg_sl ([.ref (q 0), .int x]) ++ List.replicate (2 - (lg_sl ([.ref (q 0), .int x])).length) Slot.unset).toArray = ls at hl ⊢
  have hl : lv_has ls 2 [(0, .ref (q 0)), (1, .int x)] := hl
  refine lv_iload_n hx hb dX3_requireSigner_0 rfl (lv_at hl 1 rfl) ?_
  refine lv_if_lt (tgt := 9) hx hb dX3_requireSigner_1 (by decide) (fun c1_1 => ?_) (fun c1_1 => ?_)
  · exact r_throw (text := "no such signer") hx hb hst hown (by decide) (by decide) tg_IAE tb_IAE (hts (.classLink RX3 48 "java/lang/IllegalArgumentException") (List.mem_of_getElem? (i := 1) rfl)) (hts (.initialized "java/lang/IllegalArgumentException") (List.mem_of_getElem? (i := 2) rfl)) (fun w h => hts w (List.mem_cons_of_mem _ (List.mem_append_right _ h))) (by decide) hG hS (by rw [hml]; exact hl.1) (by simp [exR, inR, show nI 4 = 4 from rfl, c1_1]) dX3_requireSigner_9 dX3_requireSigner_12 dX3_requireSigner_13 dX3_requireSigner_15 dX3_requireSigner_18 hout (Nat.le_of_ble_eq_true rfl) (Nat.le_of_ble_eq_true rfl) (Nat.le_refl _) (Nat.le_refl _) hlk
  · refine lv_iload_n hx hb dX3_requireSigner_4 rfl (lv_at hl 1 rfl) ?_
    refine lv_iconst (v := 4) hx hb dX3_requireSigner_5 (by decide) ?_
    refine lv_icmp_lt (tgt := 19) hx hb dX3_requireSigner_6 (by decide) (fun c6_2 => ?_) (fun c6_2 => ?_)
    · exact end_xov hx hb hr (by simp [exR, inR, show nI 4 = 4 from rfl, c1_1, c6_2]) hS dX3_requireSigner_19 hlk
    · exact r_throw (text := "no such signer") hx hb hst hown (by decide) (by decide) tg_IAE tb_IAE (hts (.classLink RX3 48 "java/lang/IllegalArgumentException") (List.mem_of_getElem? (i := 1) rfl)) (hts (.initialized "java/lang/IllegalArgumentException") (List.mem_of_getElem? (i := 2) rfl)) (fun w h => hts w (List.mem_cons_of_mem _ (List.mem_append_right _ h))) (by decide) hG hS (by rw [hml]; exact hl.1) (by simp [exR, inR, show nI 4 = 4 from rfl, c1_1, c6_2]) dX3_requireSigner_9 dX3_requireSigner_12 dX3_requireSigner_13 dX3_requireSigner_15 dX3_requireSigner_18 hout (Nat.le_of_ble_eq_true rfl) (Nat.le_of_ble_eq_true rfl) (Nat.le_refl _) (Nat.le_refl _) hlk

set_option maxHeartbeats 4000000 in
set_option maxRecDepth 100000 in
theorem c_X3_requireName (l : Launch) (hst : l.stackTraces = false) (D : va_G) (cy : Nat → ClassId) (h0 : Nat) (q : Nat → Nat) (A : Nat → Nat → Int32) (S : Nat → Int32) (x : Int32) : vx_Met l yX3_requireName wsX3_requireName (rmX (exR x 5 xIAE) 6 82) (va_Pc [.ref (q 0), .int x] (pI D cy h0 (wX cy q A S))) (xoV (exR x 5 xIAE)) (xx (exR x 5 xIAE)) (c1 (exR x 5 xIAE)) (c6 (exR x 5 xIAE)) nof := by
  refine vx_ofW (cc := cX3_requireName) (maxL := 2) (ret := none) (by decide) rfl ?_
  intro p e s m args below meth c s₁ B hml hout hv
  obtain ⟨rfl, hI⟩ := hv
  have hx := B.exec
  have hb := B.bytes
  have hr := B.returns
  have hts := atoms_spec (ws := wsX3_requireName) B.pre
  have hown : s.vm.findClass RX3 = some m.cls := findClass_of_methodNamed B.named
  have hlk := B.notSynchronized
  have hI : IH D cy h0 (wX cy q A S) s s.heap := hI
  have hG := hI.1
  have hS : va_S nof s.heap s.heap [] := va_S.rf
  have hl := lv_entry ([.ref (q 0), .int x]) (n := 2) (Nat.le_of_ble_eq_true rfl)
  rw [lg_entry_eq]
  generalize (lg_sl ([.ref (q 0), .int x]) ++ List.replicate (2 - (lg_sl ([.ref (q 0), .int x])).length) Slot.unset).toArray = ls at hl ⊢
  have hl : lv_has ls 2 [(0, .ref (q 0)), (1, .int x)] := hl
  refine lv_iload_n hx hb dX3_requireName_0 rfl (lv_at hl 1 rfl) ?_
  refine lv_if_lt (tgt := 9) hx hb dX3_requireName_1 (by decide) (fun c1_1 => ?_) (fun c1_1 => ?_)
  · exact r_throw (text := "no such name") hx hb hst hown (by decide) (by decide) tg_IAE tb_IAE (hts (.classLink RX3 48 "java/lang/IllegalArgumentException") (List.mem_of_getElem? (i := 1) rfl)) (hts (.initialized "java/lang/IllegalArgumentException") (List.mem_of_getElem? (i := 2) rfl)) (fun w h => hts w (List.mem_cons_of_mem _ (List.mem_append_right _ h))) (by decide) hG hS (by rw [hml]; exact hl.1) (by simp [exR, inR, show nI 5 = 5 from rfl, c1_1]) dX3_requireName_9 dX3_requireName_12 dX3_requireName_13 dX3_requireName_15 dX3_requireName_18 hout (Nat.le_of_ble_eq_true rfl) (Nat.le_of_ble_eq_true rfl) (Nat.le_refl _) (Nat.le_refl _) hlk
  · refine lv_iload_n hx hb dX3_requireName_4 rfl (lv_at hl 1 rfl) ?_
    refine lv_iconst (v := 5) hx hb dX3_requireName_5 (by decide) ?_
    refine lv_icmp_lt (tgt := 19) hx hb dX3_requireName_6 (by decide) (fun c6_2 => ?_) (fun c6_2 => ?_)
    · exact end_xov hx hb hr (by simp [exR, inR, show nI 5 = 5 from rfl, c1_1, c6_2]) hS dX3_requireName_19 hlk
    · exact r_throw (text := "no such name") hx hb hst hown (by decide) (by decide) tg_IAE tb_IAE (hts (.classLink RX3 48 "java/lang/IllegalArgumentException") (List.mem_of_getElem? (i := 1) rfl)) (hts (.initialized "java/lang/IllegalArgumentException") (List.mem_of_getElem? (i := 2) rfl)) (fun w h => hts w (List.mem_cons_of_mem _ (List.mem_append_right _ h))) (by decide) hG hS (by rw [hml]; exact hl.1) (by simp [exR, inR, show nI 5 = 5 from rfl, c1_1, c6_2]) dX3_requireName_9 dX3_requireName_12 dX3_requireName_13 dX3_requireName_15 dX3_requireName_18 hout (Nat.le_of_ble_eq_true rfl) (Nat.le_of_ble_eq_true rfl) (Nat.le_refl _) (Nat.le_refl _) hlk

set_option maxHeartbeats 4000000 in
set_option maxRecDepth 100000 in
theorem c_X3_requireKey (l : Launch) (hst : l.stackTraces = false) (D : va_G) (cy : Nat → ClassId) (h0 : Nat) (q : Nat → Nat) (A : Nat → Nat → Int32) (S : Nat → Int32) (x : Int32) (nk : Nat) (hnk : nk ≤ 8) (hck : S 3 = nI nk) : vx_Met l yX3_requireKey wsX3_requireKey (rmX (exR x nk xIOB) 6 82) (va_Pc [.ref (q 0), .int x] (pI D cy h0 (wX cy q A S))) (xoV (exR x nk xIOB)) (xx (exR x nk xIOB)) (c1 (exR x nk xIOB)) (c6 (exR x nk xIOB)) nof := by
  refine vx_ofW (cc := cX3_requireKey) (maxL := 2) (ret := none) (by decide) rfl ?_
  intro p e s m args below meth c s₁ B hml hout hv
  obtain ⟨rfl, hI⟩ := hv
  have hx := B.exec
  have hb := B.bytes
  have hr := B.returns
  have hts := atoms_spec (ws := wsX3_requireKey) B.pre
  have hown : s.vm.findClass RX3 = some m.cls := findClass_of_methodNamed B.named
  have hlk := B.notSynchronized
  have hI : IH D cy h0 (wX cy q A S) s s.heap := hI
  have hG := hI.1
  have hS : va_S nof s.heap s.heap [] := va_S.rf
  have hi1 : ∀ w ∈ wsX10, w ∈ wsX3_requireKey := by decide +kernel
  have hi3 : ∀ w ∈ wsX30, w ∈ wsX3_requireKey := by decide +kernel
  have hl := lv_entry ([.ref (q 0), .int x]) (n := 2) (Nat.le_of_ble_eq_true rfl)
  rw [lg_entry_eq]
  generalize (lg_sl ([.ref (q 0), .int x]) ++ List.replicate (2 - (lg_sl ([.ref (q 0), .int x])).length) Slot.unset).toArray = ls at hl ⊢
  have hl : lv_has ls 2 [(0, .ref (q 0)), (1, .int x)] := hl
  refine lv_iload_n hx hb dX3_requireKey_0 rfl (lv_at hl 1 rfl) ?_
  refine lv_if_lt (tgt := 15) hx hb dX3_requireKey_1 (by decide) (fun c1_1 => ?_) (fun c1_1 => ?_)
  · exact r_throw (text := "no such key") hx hb hst hown (by decide) (by decide) tg_IOB tb_IOB (hts (.classLink RX3 235 "java/lang/IndexOutOfBoundsException") (List.mem_of_getElem? (i := 1) rfl)) (hts (.initialized "java/lang/IndexOutOfBoundsException") (List.mem_of_getElem? (i := 2) rfl)) (fun w h => hts w (List.mem_cons_of_mem _ (List.mem_append_right _ h))) (by decide) hG hS (by rw [hml]; exact hl.1) (by simp [exR, inR, ← hck, c1_1]) dX3_requireKey_15 dX3_requireKey_18 dX3_requireKey_19 dX3_requireKey_21 dX3_requireKey_24 hout (Nat.le_of_ble_eq_true rfl) (Nat.le_of_ble_eq_true rfl) (Nat.le_refl _) (Nat.le_refl _) hlk
  · refine lv_iload_n hx hb dX3_requireKey_4 rfl (lv_at hl 1 rfl) ?_
    refine lv_aload_n hx hb dX3_requireKey_5 rfl (lv_at hl 0 rfl) ?_
    refine r_get (C := RX3) (T := TX3) (N := 7) (k := 0) (q0 := 0) (v := .ref (q 1)) hx hb hts hi3 hown hI rfl rfl (by decide) (hts (.fieldLink RX3 10 "Buildlots" "keys" "LBuildlots$Keys;") (List.mem_of_getElem? (i := 3) rfl)) rfl rfl dX3_requireKey_6 ?_
    refine r_getN (C := RX1) (T := TX1) (N := 5) (k := 4) (q0 := 1) (v := .int (S 3)) hx hb hts hi1 hown hI rfl rfl (by decide) (List.mem_of_getElem? (i := 14) rfl) rfl rfl dX3_requireKey_9 ?_
    refine lv_icmp_lt (tgt := 25) hx hb dX3_requireKey_12 (by decide) (fun c12_2 => ?_) (fun c12_2 => ?_)
    · exact end_xov hx hb hr (by simp [exR, inR, ← hck, c1_1, c12_2]) hS dX3_requireKey_25 hlk
    · exact r_throw (text := "no such key") hx hb hst hown (by decide) (by decide) tg_IOB tb_IOB (hts (.classLink RX3 235 "java/lang/IndexOutOfBoundsException") (List.mem_of_getElem? (i := 1) rfl)) (hts (.initialized "java/lang/IndexOutOfBoundsException") (List.mem_of_getElem? (i := 2) rfl)) (fun w h => hts w (List.mem_cons_of_mem _ (List.mem_append_right _ h))) (by decide) hG hS (by rw [hml]; exact hl.1) (by simp [exR, inR, ← hck, c1_1, c12_2]) dX3_requireKey_15 dX3_requireKey_18 dX3_requireKey_19 dX3_requireKey_21 dX3_requireKey_24 hout (Nat.le_of_ble_eq_true rfl) (Nat.le_of_ble_eq_true rfl) (Nat.le_refl _) (Nat.le_refl _) hlk

set_option maxHeartbeats 4000000 in
set_option maxRecDepth 100000 in
theorem c_X3_requireBuild (l : Launch) (hst : l.stackTraces = false) (D : va_G) (cy : Nat → ClassId) (h0 : Nat) (q : Nat → Nat) (A : Nat → Nat → Int32) (S : Nat → Int32) (x : Int32) (nb : Nat) (hnb : nb ≤ 24) (hcb : S 5 = nI nb) : vx_Met l yX3_requireBuild wsX3_requireBuild (rmX (exR x nb xIOB) 6 82) (va_Pc [.ref (q 0), .int x] (pI D cy h0 (wX cy q A S))) (xoV (exR x nb xIOB)) (xx (exR x nb xIOB)) (c1 (exR x nb xIOB)) (c6 (exR x nb xIOB)) nof := by
  refine vx_ofW (cc := cX3_requireBuild) (maxL := 2) (ret := none) (by decide) rfl ?_
  intro p e s m args below meth c s₁ B hml hout hv
  obtain ⟨rfl, hI⟩ := hv
  have hx := B.exec
  have hb := B.bytes
  have hr := B.returns
  have hts := atoms_spec (ws := wsX3_requireBuild) B.pre
  have hown : s.vm.findClass RX3 = some m.cls := findClass_of_methodNamed B.named
  have hlk := B.notSynchronized
  have hI : IH D cy h0 (wX cy q A S) s s.heap := hI
  have hG := hI.1
  have hS : va_S nof s.heap s.heap [] := va_S.rf
  have hi0 : ∀ w ∈ wsX00, w ∈ wsX3_requireBuild := by decide +kernel
  have hi3 : ∀ w ∈ wsX30, w ∈ wsX3_requireBuild := by decide +kernel
  have hl := lv_entry ([.ref (q 0), .int x]) (n := 2) (Nat.le_of_ble_eq_true rfl)
  rw [lg_entry_eq]
  generalize (lg_sl ([.ref (q 0), .int x]) ++ List.replicate (2 - (lg_sl ([.ref (q 0), .int x])).length) Slot.unset).toArray = ls at hl ⊢
  have hl : lv_has ls 2 [(0, .ref (q 0)), (1, .int x)] := hl
  refine lv_iload_n hx hb dX3_requireBuild_0 rfl (lv_at hl 1 rfl) ?_
  refine lv_if_lt (tgt := 15) hx hb dX3_requireBuild_1 (by decide) (fun c1_1 => ?_) (fun c1_1 => ?_)
  · exact r_throw (text := "no such build") hx hb hst hown (by decide) (by decide) tg_IOB tb_IOB (hts (.classLink RX3 235 "java/lang/IndexOutOfBoundsException") (List.mem_of_getElem? (i := 1) rfl)) (hts (.initialized "java/lang/IndexOutOfBoundsException") (List.mem_of_getElem? (i := 2) rfl)) (fun w h => hts w (List.mem_cons_of_mem _ (List.mem_append_right _ h))) (by decide) hG hS (by rw [hml]; exact hl.1) (by simp [exR, inR, ← hcb, c1_1]) dX3_requireBuild_15 dX3_requireBuild_18 dX3_requireBuild_19 dX3_requireBuild_21 dX3_requireBuild_24 hout (Nat.le_of_ble_eq_true rfl) (Nat.le_of_ble_eq_true rfl) (Nat.le_refl _) (Nat.le_refl _) hlk
  · refine lv_iload_n hx hb dX3_requireBuild_4 rfl (lv_at hl 1 rfl) ?_
    refine lv_aload_n hx hb dX3_requireBuild_5 rfl (lv_at hl 0 rfl) ?_
    refine r_get (C := RX3) (T := TX3) (N := 7) (k := 1) (q0 := 0) (v := .ref (q 2)) hx hb hts hi3 hown hI rfl rfl (by decide) (hts (.fieldLink RX3 19 "Buildlots" "builds" "LBuildlots$Builds;") (List.mem_of_getElem? (i := 3) rfl)) rfl rfl dX3_requireBuild_6 ?_
    refine r_getN (C := RX0) (T := TX0) (N := 10) (k := 9) (q0 := 2) (v := .int (S 5)) hx hb hts hi0 hown hI rfl rfl (by decide) (List.mem_of_getElem? (i := 0) rfl) rfl rfl dX3_requireBuild_9 ?_
    refine lv_icmp_lt (tgt := 25) hx hb dX3_requireBuild_12 (by decide) (fun c12_2 => ?_) (fun c12_2 => ?_)
    · exact end_xov hx hb hr (by simp [exR, inR, ← hcb, c1_1, c12_2]) hS dX3_requireBuild_25 hlk
    · exact r_throw (text := "no such build") hx hb hst hown (by decide) (by decide) tg_IOB tb_IOB (hts (.classLink RX3 235 "java/lang/IndexOutOfBoundsException") (List.mem_of_getElem? (i := 1) rfl)) (hts (.initialized "java/lang/IndexOutOfBoundsException") (List.mem_of_getElem? (i := 2) rfl)) (fun w h => hts w (List.mem_cons_of_mem _ (List.mem_append_right _ h))) (by decide) hG hS (by rw [hml]; exact hl.1) (by simp [exR, inR, ← hcb, c1_1, c12_2]) dX3_requireBuild_15 dX3_requireBuild_18 dX3_requireBuild_19 dX3_requireBuild_21 dX3_requireBuild_24 hout (Nat.le_of_ble_eq_true rfl) (Nat.le_of_ble_eq_true rfl) (Nat.le_refl _) (Nat.le_refl _) hlk

set_option maxHeartbeats 4000000 in
set_option maxRecDepth 100000 in
theorem c_X3_requireMirror (l : Launch) (hst : l.stackTraces = false) (D : va_G) (cy : Nat → ClassId) (h0 : Nat) (q : Nat → Nat) (A : Nat → Nat → Int32) (S : Nat → Int32) (x : Int32) (nm : Nat) (hnm : nm ≤ 3) (hcm : S 6 = nI nm) : vx_Met l yX3_requireMirror wsX3_requireMirror (rmX (exR x nm xIOB) 6 82) (va_Pc [.ref (q 0), .int x] (pI D cy h0 (wX cy q A S))) (xoV (exR x nm xIOB)) (xx (exR x nm xIOB)) (c1 (exR x nm xIOB)) (c6 (exR x nm xIOB)) nof := by
  refine vx_ofW (cc := cX3_requireMirror) (maxL := 2) (ret := none) (by decide) rfl ?_
  intro p e s m args below meth c s₁ B hml hout hv
  obtain ⟨rfl, hI⟩ := hv
  have hx := B.exec
  have hb := B.bytes
  have hr := B.returns
  have hts := atoms_spec (ws := wsX3_requireMirror) B.pre
  have hown : s.vm.findClass RX3 = some m.cls := findClass_of_methodNamed B.named
  have hlk := B.notSynchronized
  have hI : IH D cy h0 (wX cy q A S) s s.heap := hI
  have hG := hI.1
  have hS : va_S nof s.heap s.heap [] := va_S.rf
  have hi2 : ∀ w ∈ wsX20, w ∈ wsX3_requireMirror := by decide +kernel
  have hi3 : ∀ w ∈ wsX30, w ∈ wsX3_requireMirror := by decide +kernel
  have hl := lv_entry ([.ref (q 0), .int x]) (n := 2) (Nat.le_of_ble_eq_true rfl)
  rw [lg_entry_eq]
  generalize (lg_sl ([.ref (q 0), .int x]) ++ List.replicate (2 - (lg_sl ([.ref (q 0), .int x])).length) Slot.unset).toArray = ls at hl ⊢
  have hl : lv_has ls 2 [(0, .ref (q 0)), (1, .int x)] := hl
  refine lv_iload_n hx hb dX3_requireMirror_0 rfl (lv_at hl 1 rfl) ?_
  refine lv_if_lt (tgt := 15) hx hb dX3_requireMirror_1 (by decide) (fun c1_1 => ?_) (fun c1_1 => ?_)
  · exact r_throw (text := "no such mirror") hx hb hst hown (by decide) (by decide) tg_IOB tb_IOB (hts (.classLink RX3 235 "java/lang/IndexOutOfBoundsException") (List.mem_of_getElem? (i := 1) rfl)) (hts (.initialized "java/lang/IndexOutOfBoundsException") (List.mem_of_getElem? (i := 2) rfl)) (fun w h => hts w (List.mem_cons_of_mem _ (List.mem_append_right _ h))) (by decide) hG hS (by rw [hml]; exact hl.1) (by simp [exR, inR, ← hcm, c1_1]) dX3_requireMirror_15 dX3_requireMirror_18 dX3_requireMirror_19 dX3_requireMirror_21 dX3_requireMirror_24 hout (Nat.le_of_ble_eq_true rfl) (Nat.le_of_ble_eq_true rfl) (Nat.le_refl _) (Nat.le_refl _) hlk
  · refine lv_iload_n hx hb dX3_requireMirror_4 rfl (lv_at hl 1 rfl) ?_
    refine lv_aload_n hx hb dX3_requireMirror_5 rfl (lv_at hl 0 rfl) ?_
    refine r_get (C := RX3) (T := TX3) (N := 7) (k := 2) (q0 := 0) (v := .ref (q 3)) hx hb hts hi3 hown hI rfl rfl (by decide) (hts (.fieldLink RX3 26 "Buildlots" "mirrors" "LBuildlots$Mirrors;") (List.mem_of_getElem? (i := 3) rfl)) rfl rfl dX3_requireMirror_6 ?_
    refine r_getN (C := RX2) (T := TX2) (N := 3) (k := 2) (q0 := 3) (v := .int (S 6)) hx hb hts hi2 hown hI rfl rfl (by decide) (List.mem_of_getElem? (i := 11) rfl) rfl rfl dX3_requireMirror_9 ?_
    refine lv_icmp_lt (tgt := 25) hx hb dX3_requireMirror_12 (by decide) (fun c12_2 => ?_) (fun c12_2 => ?_)
    · exact end_xov hx hb hr (by simp [exR, inR, ← hcm, c1_1, c12_2]) hS dX3_requireMirror_25 hlk
    · exact r_throw (text := "no such mirror") hx hb hst hown (by decide) (by decide) tg_IOB tb_IOB (hts (.classLink RX3 235 "java/lang/IndexOutOfBoundsException") (List.mem_of_getElem? (i := 1) rfl)) (hts (.initialized "java/lang/IndexOutOfBoundsException") (List.mem_of_getElem? (i := 2) rfl)) (fun w h => hts w (List.mem_cons_of_mem _ (List.mem_append_right _ h))) (by decide) hG hS (by rw [hml]; exact hl.1) (by simp [exR, inR, ← hcm, c1_1, c12_2]) dX3_requireMirror_15 dX3_requireMirror_18 dX3_requireMirror_19 dX3_requireMirror_21 dX3_requireMirror_24 hout (Nat.le_of_ble_eq_true rfl) (Nat.le_of_ble_eq_true rfl) (Nat.le_refl _) (Nat.le_refl _) hlk

def exF (x : Int32) : Option String := if x = -1 then some xNSE else none
theorem exF_n {x : Int32} (h : ¬ x = -1) : exF x = none := if_neg h
theorem exF_s {x : Int32} (h : x = -1) : exF x = some xNSE := if_pos h
set_option maxHeartbeats 4000000 in
set_option maxRecDepth 100000 in
theorem c_X3_requireFound (l : Launch) (hst : l.stackTraces = false) (D : va_G) (cy : Nat → ClassId) (h0 : Nat) (q : Nat → Nat) (A : Nat → Nat → Int32) (S : Nat → Int32) (x : Int32) : vx_Met l yX3_requireFound wsX3_requireFound (rmX (exF x) 6 82) (va_Pc [.int x] (pI D cy h0 (wX cy q A S))) (xoI (exF x) x) (xx (exF x)) (c1 (exF x)) (c6 (exF x)) nof := by
  refine vx_ofW (cc := cX3_requireFound) (maxL := 1) (ret := (some .int)) (by decide) rfl ?_
  intro p e s m args below meth c s₁ B hml hout hv
  obtain ⟨rfl, hI⟩ := hv
  have hx := B.exec
  have hb := B.bytes
  have hr := B.returns
  have hts := atoms_spec (ws := wsX3_requireFound) B.pre
  have hown : s.vm.findClass RX3 = some m.cls := findClass_of_methodNamed B.named
  have hlk := B.notSynchronized
  have hI : IH D cy h0 (wX cy q A S) s s.heap := hI
  have hG := hI.1
  have hS : va_S nof s.heap s.heap [] := va_S.rf
  have hl := lv_entry ([.int x]) (n := 1) (Nat.le_of_ble_eq_true rfl)
  rw [lg_entry_eq]
  generalize (lg_sl ([.int x]) ++ List.replicate (1 - (lg_sl ([.int x])).length) Slot.unset).toArray = ls at hl ⊢
  have hl : lv_has ls 1 [(0, .int x)] := hl
  refine lv_iload_n hx hb dX3_requireFound_0 rfl (lv_at hl 0 rfl) ?_
  refine lv_iconst (v := (-1)) hx hb dX3_requireFound_1 (by decide) ?_
  refine lv_icmp_ne (tgt := 15) hx hb dX3_requireFound_2 (by decide) (fun c2_1 => ?_) (fun c2_1 => ?_)
  · refine lv_iload_n hx hb dX3_requireFound_15 rfl (lv_at hl 0 rfl) ?_
    exact end_xoi hx hb hr (by simp [exF, c2_1]) rfl hS dX3_requireFound_16 hlk
  · exact r_throw (text := "no such build of the name") hx hb hst hown (by decide) (by decide) tg_NSE tb_NSE (hts (.classLink RX3 197 "java/util/NoSuchElementException") (List.mem_of_getElem? (i := 1) rfl)) (hts (.initialized "java/util/NoSuchElementException") (List.mem_of_getElem? (i := 2) rfl)) (fun w h => hts w (List.mem_cons_of_mem _ (List.mem_append_right _ h))) (by decide) hG hS (by rw [hml]; exact hl.1) (by simp [exF, c2_1]) dX3_requireFound_5 dX3_requireFound_8 dX3_requireFound_9 dX3_requireFound_11 dX3_requireFound_14 hout (Nat.le_of_ble_eq_true rfl) (Nat.le_of_ble_eq_true rfl) (Nat.le_refl _) (Nat.le_refl _) hlk

set_option maxHeartbeats 4000000 in
set_option maxRecDepth 100000 in
theorem c_X3_scoreFrom (l : Launch) (D : va_G) (cy : Nat → ClassId) (h0 : Nat) (q : Nat → Nat) (A : Nat → Nat → Int32) (S : Nat → Int32) (v : Int32) : Met l yX3_scoreFrom wsX3_scoreFrom (rmO 3 41) (va_Pc [.ref (q 0), .int v] (pI D cy h0 (wX cy q A S))) (roF (scF (A 0) v 4)) 0 0 nof := by
  refine Met.ofW (cc := cX3_scoreFrom) (maxL := 4) (ret := (some .float)) (by decide) rfl ?_
  intro p e s m args below meth c s₁ B hml hv
  obtain ⟨rfl, hI⟩ := hv
  have hx := B.exec
  have hb := B.bytes
  have hr := B.returns
  have hts := atoms_spec (ws := wsX3_scoreFrom) B.pre
  have hown : s.vm.findClass RX3 = some m.cls := findClass_of_methodNamed B.named
  have hlk := B.notSynchronized
  have hI : IH D cy h0 (wX cy q A S) s s.heap := hI
  have hG := hI.1
  have hS : va_S nof s.heap s.heap [] := va_S.rf
  have hi3 : ∀ w ∈ wsX30, w ∈ wsX3_scoreFrom := by decide +kernel
  have hl := lv_entry ([.ref (q 0), .int v]) (n := 4) (Nat.le_of_ble_eq_true rfl)
  rw [lg_entry_eq]
  generalize (lg_sl ([.ref (q 0), .int v]) ++ List.replicate (4 - (lg_sl ([.ref (q 0), .int v])).length) Slot.unset).toArray = ls at hl ⊢
  have hl : lv_has ls 4 [(0, .ref (q 0)), (1, .int v)] := hl
  refine lv_fconst0 hx hb dX3_scoreFrom_0 ?_
  refine lv_fstore_n (lv' := [(2, .float FP.fconst0), (0, .ref (q 0)), (1, .int v)]) hx hb dX3_scoreFrom_1 rfl hl (by decide) rfl (fun ls hl => ?_)
  refine lv_iconst (v := 0) hx hb dX3_scoreFrom_2 (by decide) ?_
  refine lv_istore_n (lv' := [(3, .int 0), (2, .float FP.fconst0), (0, .ref (q 0)), (1, .int v)]) hx hb dX3_scoreFrom_3 rfl hl (by decide) rfl (fun ls hl => ?_)
  suffices KL4 : ∀ (n9 k : Nat), k + n9 = 4 → ∀ (H : Heap) (locs : List Loc), IH D cy h0 (wX cy q A S) s H → va_S (nof) s.heap H locs → ∀ ls : Array Slot, lv_has ls 4 [(3, .int (nI k)), (2, .float (scF (A 0) v k)), (0, .ref (q 0)), (1, .int v)] → W p l e (headSpec wsX3_scoreFrom (rmO 3 41)).room s m ([.ref (q 0), .int v]).toArray below meth c H locs 0 0 (MQ below (roF (scF (A 0) v 4)) ([.ref (q 0), .int v]).toArray s 0 0 nof) (F0 m 4 ls []) by
    exact KL4 4 0 (by omega) _ _ hI hS ls ((lv_sub hl [0, 1, 2, 3] rfl))
  intro n9
  induction n9 with
  | zero =>
    intro k hk H locs hI hS ls hl
    have hk : 4 = k := by omega
    subst hk
    refine lv_iload_n hx hb dX3_scoreFrom_4 rfl (lv_at hl 0 rfl) ?_
    refine lv_iconst (v := 4) hx hb dX3_scoreFrom_5 (by decide) ?_
    refine lv_icmp_ge (tgt := 36) hx hb dX3_scoreFrom_6 (by decide) (fun c6_1 => ?_) (fun c6_1 => ?_)
    rotate_left
    · exact absurd (i_ge rfl (show (4 : Int32) = nI 4 from rfl) (Nat.le_refl _) (by omega)) c6_1
    refine lv_fload_n hx hb dX3_scoreFrom_36 rfl (lv_at hl 1 rfl) ?_
    exact end_rof hx hb hr rfl hS dX3_scoreFrom_37 hlk
  | succ n9 ih4 =>
    intro k hk H locs hI hS ls hl
    have hk4 : k < 4 := by omega
    refine lv_iload_n hx hb dX3_scoreFrom_4 rfl (lv_at hl 0 rfl) ?_
    refine lv_iconst (v := 4) hx hb dX3_scoreFrom_5 (by decide) ?_
    refine lv_icmp_ge (tgt := 36) hx hb dX3_scoreFrom_6 (by decide) (fun c6_2 => ?_) (fun c6_2 => ?_)
    · exact absurd c6_2 (i_nge rfl (show (4 : Int32) = nI 4 from rfl) (by omega) (by omega))
    refine lv_iload_n hx hb dX3_scoreFrom_9 rfl (lv_at hl 3 rfl) ?_
    refine lv_iload_n hx hb dX3_scoreFrom_10 rfl (lv_at hl 0 rfl) ?_
    refine ro_i (va_runS (As := [.int v, .int (nI k)]) (rest := []) ⟨hx, hb, hml, hown, hts⟩ (c_X3_holds l v (nI k)) (va_cwS 2 hts gX3_scoreFrom_X3_holds rfl rfl rfl (by decide +kernel) ⟨Nat.le_of_ble_eq_true rfl, Nat.le_of_ble_eq_true rfl⟩) preT rfl rfl hl.1 rfl (lv_room (Nat.le_of_ble_eq_true rfl)) dX3_scoreFrom_11 ⟨Nat.le_of_ble_eq_true rfl, Nat.le_of_ble_eq_true rfl⟩) hI hS (fun H locs hI hS => ?_)
    refine r_ifeq_b (tgt := 30) hx hb dX3_scoreFrom_14 (by decide) (fun c14_3 => ?_) (fun c14_3 => ?_)
    · refine lv_iinc (v := nI (k + 1)) (lv' := [(3, .int (nI (k + 1))), (2, .float (scF (A 0) v k)), (0, .ref (q 0)), (1, .int v)]) hx hb dX3_scoreFrom_30 hl (k := 0) rfl (nI_1 k) (by decide) rfl (fun ls hl => ?_)
      refine lv_goto (tgt := 4) hx hb dX3_scoreFrom_33 (by decide) ?_
      rw [show (scF (A 0) v k) = (scF (A 0) v (k + 1)) from (by simp [scF, c6_2, c14_3])] at hl
      exact ih4 (k + 1) (by omega) _ _ hI hS ls (lv_sub hl [0, 1, 2, 3] rfl)
    · refine lv_fload_n hx hb dX3_scoreFrom_17 rfl (lv_at hl 1 rfl) ?_
      refine lv_aload_n hx hb dX3_scoreFrom_18 rfl (lv_at hl 2 rfl) ?_
      refine r_get (C := RX3) (T := TX3) (N := 7) (k := 3) (q0 := 0) (v := .ref (q 4)) hx hb hts hi3 hown hI rfl rfl (by decide) (hts (.fieldLink RX3 30 "Buildlots" "weights" "[I") (List.mem_of_getElem? (i := 1) rfl)) rfl rfl dX3_scoreFrom_19 ?_
      refine lv_iload_n hx hb dX3_scoreFrom_22 rfl (lv_at hl 0 rfl) ?_
      refine r_iald (q0 := 4) (j := k) (n := 4) (f := (A 0)) hx hb hI rfl rfl (by omega) (by decide) dX3_scoreFrom_23 ?_
      refine lv_i2f hx hb dX3_scoreFrom_24 ?_
      refine lv_ldcf (v := 1120403456) hx hb hown (hts (.constantFloat RX3 230 (1120403456)) (List.mem_of_getElem? (i := 2) rfl)) dX3_scoreFrom_25 ?_
      refine lv_fdiv hx hb dX3_scoreFrom_27 (nn_div _) ?_
      refine lv_fadd hx hb dX3_scoreFrom_28 (nn_sc _ _ _) ?_
      refine lv_fstore_n (lv' := [(2, .float (FP.fadd (scF (A 0) v k) (FP.fdiv (FP.i2f (A 0 k)) f100))), (3, .int (nI k)), (0, .ref (q 0)), (1, .int v)]) hx hb dX3_scoreFrom_29 rfl hl (by decide) rfl (fun ls hl => ?_)
      refine lv_iinc (v := nI (k + 1)) (lv' := [(3, .int (nI (k + 1))), (2, .float (FP.fadd (scF (A 0) v k) (FP.fdiv (FP.i2f (A 0 k)) f100))), (0, .ref (q 0)), (1, .int v)]) hx hb dX3_scoreFrom_30 hl (k := 1) rfl (nI_1 k) (by decide) rfl (fun ls hl => ?_)
      refine lv_goto (tgt := 4) hx hb dX3_scoreFrom_33 (by decide) ?_
      rw [show (FP.fadd (scF (A 0) v k) (FP.fdiv (FP.i2f (A 0 k)) f100)) = (scF (A 0) v (k + 1)) from (by simp [scF, c6_2, c14_3])] at hl
      exact ih4 (k + 1) (by omega) _ _ hI hS ls (lv_sub hl [0, 1, 2, 3] rfl)

set_option maxHeartbeats 4000000 in
set_option maxRecDepth 100000 in
theorem c_X3_suffices (l : Launch) (D : va_G) (cy : Nat → ClassId) (h0 : Nat) (q : Nat → Nat) (A : Nat → Nat → Int32) (S : Nat → Int32) (v : Int32) (b : Int32) (j : Nat) (hj : j < 24) (hk : b = nI j) (ht : ∃ t, t < 5 ∧ A 5 j = nI t) : Met l yX3_suffices wsX3_suffices (rmO 4 64) (va_Pc [.ref (q 0), .int v, .int b] (pI D cy h0 (wX cy q A S))) (roI (bI (sufB A v j))) 0 0 nof := by
  refine Met.ofW (cc := cX3_suffices) (maxL := 3) (ret := (some .boolean)) (by decide) rfl ?_
  intro p e s m args below meth c s₁ B hml hv
  obtain ⟨rfl, hI⟩ := hv
  have hx := B.exec
  have hb := B.bytes
  have hr := B.returns
  have hts := atoms_spec (ws := wsX3_suffices) B.pre
  have hown : s.vm.findClass RX3 = some m.cls := findClass_of_methodNamed B.named
  have hlk := B.notSynchronized
  have hI : IH D cy h0 (wX cy q A S) s s.heap := hI
  have hG := hI.1
  have hS : va_S nof s.heap s.heap [] := va_S.rf
  have hi0 : ∀ w ∈ wsX00, w ∈ wsX3_suffices := by decide +kernel
  have hi3 : ∀ w ∈ wsX30, w ∈ wsX3_suffices := by decide +kernel
  have hl := lv_entry ([.ref (q 0), .int v, .int b]) (n := 3) (Nat.le_of_ble_eq_true rfl)
  rw [lg_entry_eq]
  generalize (lg_sl ([.ref (q 0), .int v, .int b]) ++ List.replicate (3 - (lg_sl ([.ref (q 0), .int v, .int b])).length) Slot.unset).toArray = ls at hl ⊢
  have hl : lv_has ls 3 [(0, .ref (q 0)), (1, .int v), (2, .int b)] := hl
  obtain ⟨hjt, hkt⟩ := ix_c (by decide) ht
  refine lv_aload_n hx hb dX3_suffices_0 rfl (lv_at hl 0 rfl) ?_
  refine lv_iload_n hx hb dX3_suffices_1 rfl (lv_at hl 1 rfl) ?_
  refine ro_f (va_runV (As := [.int v]) (rest := []) ⟨hx, hb, hml, hown, hts⟩ (c_X3_scoreFrom l D cy h0 q A S v) (cwV 1 hts gX3_suffices_X3_scoreFrom rfl rfl rfl (by decide +kernel) ⟨Nat.le_of_ble_eq_true rfl, Nat.le_of_ble_eq_true rfl⟩) (hI.preV (k0 := 0) rfl rfl) rfl rfl hl.1 rfl (lv_room (Nat.le_of_ble_eq_true rfl)) dX3_suffices_2 ⟨Nat.le_of_ble_eq_true rfl, Nat.le_of_ble_eq_true rfl⟩) hI hS (fun H locs hI hS => ?_)
  refine lv_aload_n hx hb dX3_suffices_5 rfl (lv_at hl 0 rfl) ?_
  refine r_get (C := RX3) (T := TX3) (N := 7) (k := 4) (q0 := 0) (v := .ref (q 5)) hx hb hts hi3 hown hI rfl rfl (by decide) (hts (.fieldLink RX3 34 "Buildlots" "thresholds" "[I") (List.mem_of_getElem? (i := 1) rfl)) rfl rfl dX3_suffices_6 ?_
  refine lv_aload_n hx hb dX3_suffices_9 rfl (lv_at hl 0 rfl) ?_
  refine r_get (C := RX3) (T := TX3) (N := 7) (k := 1) (q0 := 0) (v := .ref (q 2)) hx hb hts hi3 hown hI rfl rfl (by decide) (hts (.fieldLink RX3 19 "Buildlots" "builds" "LBuildlots$Builds;") (List.mem_of_getElem? (i := 2) rfl)) rfl rfl dX3_suffices_10 ?_
  refine r_getN (C := RX0) (T := TX0) (N := 10) (k := 0) (q0 := 2) (v := .ref (q 9)) hx hb hts hi0 hown hI rfl rfl (by decide) (List.mem_of_getElem? (i := 1) rfl) rfl rfl dX3_suffices_13 ?_
  refine lv_iload_n hx hb dX3_suffices_16 rfl (lv_at hl 2 rfl) ?_
  refine r_iald (q0 := 9) (j := j) (n := 24) (f := (A 5)) hx hb hI rfl hk hj (by decide) dX3_suffices_17 ?_
  refine r_iald (q0 := 5) (j := (ix (A 5 j))) (n := 5) (f := (A 1)) hx hb hI rfl hkt hjt (by decide) dX3_suffices_18 ?_
  refine lv_i2f hx hb dX3_suffices_19 ?_
  refine lv_ldcf (v := 1120403456) hx hb hown (hts (.constantFloat RX3 230 (1120403456)) (List.mem_of_getElem? (i := 3) rfl)) dX3_suffices_20 ?_
  refine lv_fdiv hx hb dX3_suffices_22 (nn_div _) ?_
  refine lv_fcmp hx hb dX3_suffices_23 ?_
  refine lv_if_lt (tgt := 31) hx hb dX3_suffices_24 (by decide) (fun c24_1 => ?_) (fun c24_1 => ?_)
  · refine lv_iconst (v := 0) hx hb dX3_suffices_31 (by decide) ?_
    exact end_roz hx hb hr rfl (by simp [sufB, bI, c24_1, ]) hS dX3_suffices_32 hlk
  · refine lv_iconst (v := 1) hx hb dX3_suffices_27 (by decide) ?_
    refine lv_goto (tgt := 32) hx hb dX3_suffices_28 (by decide) ?_
    exact end_roz hx hb hr rfl (by simp [sufB, bI, c24_1, ]) hS dX3_suffices_32 hlk

set_option maxHeartbeats 4000000 in
set_option maxRecDepth 100000 in
theorem c_X3_trustedBuilds (l : Launch) (D : va_G) (cy : Nat → ClassId) (h0 : Nat) (q : Nat → Nat) (A : Nat → Nat → Int32) (S : Nat → Int32) (nb : Nat) (hnb : nb ≤ 24) (hcb : S 5 = nI nb) (htn : ∀ b, b < nb → ∃ t, t < 5 ∧ A 5 b = nI t) : Met l yX3_trustedBuilds wsX3_trustedBuilds (rmO 5 86) (va_Pc [.ref (q 0)] (pI D cy h0 (wX cy q A S))) (roI (tbF A nb)) 0 0 nof := by
  refine Met.ofW (cc := cX3_trustedBuilds) (maxL := 3) (ret := (some .int)) (by decide) rfl ?_
  intro p e s m args below meth c s₁ B hml hv
  obtain ⟨rfl, hI⟩ := hv
  have hx := B.exec
  have hb := B.bytes
  have hr := B.returns
  have hts := atoms_spec (ws := wsX3_trustedBuilds) B.pre
  have hown : s.vm.findClass RX3 = some m.cls := findClass_of_methodNamed B.named
  have hlk := B.notSynchronized
  have hI : IH D cy h0 (wX cy q A S) s s.heap := hI
  have hG := hI.1
  have hS : va_S nof s.heap s.heap [] := va_S.rf
  have hi0 : ∀ w ∈ wsX00, w ∈ wsX3_trustedBuilds := by decide +kernel
  have hi3 : ∀ w ∈ wsX30, w ∈ wsX3_trustedBuilds := by decide +kernel
  have hl := lv_entry ([.ref (q 0)]) (n := 3) (Nat.le_of_ble_eq_true rfl)
  rw [lg_entry_eq]
  generalize (lg_sl ([.ref (q 0)]) ++ List.replicate (3 - (lg_sl ([.ref (q 0)])).length) Slot.unset).toArray = ls at hl ⊢
  have hl : lv_has ls 3 [(0, .ref (q 0))] := hl
  refine lv_iconst (v := 0) hx hb dX3_trustedBuilds_0 (by decide) ?_
  refine lv_istore_n (lv' := [(1, .int 0), (0, .ref (q 0))]) hx hb dX3_trustedBuilds_1 rfl hl (by decide) rfl (fun ls hl => ?_)
  refine lv_iconst (v := 0) hx hb dX3_trustedBuilds_2 (by decide) ?_
  refine lv_istore_n (lv' := [(2, .int 0), (1, .int 0), (0, .ref (q 0))]) hx hb dX3_trustedBuilds_3 rfl hl (by decide) rfl (fun ls hl => ?_)
  suffices KL4 : ∀ (n9 k : Nat), k + n9 = nb → ∀ (H : Heap) (locs : List Loc), IH D cy h0 (wX cy q A S) s H → va_S (nof) s.heap H locs → ∀ ls : Array Slot, lv_has ls 3 [(2, .int (nI k)), (1, .int (tbF A k)), (0, .ref (q 0))] → W p l e (headSpec wsX3_trustedBuilds (rmO 5 86)).room s m ([.ref (q 0)]).toArray below meth c H locs 0 0 (MQ below (roI (tbF A nb)) ([.ref (q 0)]).toArray s 0 0 nof) (F0 m 4 ls []) by
    exact KL4 nb 0 (by omega) _ _ hI hS ls ((lv_sub hl [0, 1, 2] rfl))
  intro n9
  induction n9 with
  | zero =>
    intro k hk H locs hI hS ls hl
    have hk : nb = k := by omega
    subst hk
    refine lv_iload_n hx hb dX3_trustedBuilds_4 rfl (lv_at hl 0 rfl) ?_
    refine lv_aload_n hx hb dX3_trustedBuilds_5 rfl (lv_at hl 2 rfl) ?_
    refine r_get (C := RX3) (T := TX3) (N := 7) (k := 1) (q0 := 0) (v := .ref (q 2)) hx hb hts hi3 hown hI rfl rfl (by decide) (hts (.fieldLink RX3 19 "Buildlots" "builds" "LBuildlots$Builds;") (List.mem_of_getElem? (i := 1) rfl)) rfl rfl dX3_trustedBuilds_6 ?_
    refine r_getN (C := RX0) (T := TX0) (N := 10) (k := 9) (q0 := 2) (v := .int (S 5)) hx hb hts hi0 hown hI rfl rfl (by decide) (List.mem_of_getElem? (i := 0) rfl) rfl rfl dX3_trustedBuilds_9 ?_
    refine lv_icmp_ge (tgt := 45) hx hb dX3_trustedBuilds_12 (by decide) (fun c12_1 => ?_) (fun c12_1 => ?_)
    rotate_left
    · exact absurd (i_ge rfl hcb (Nat.le_refl _) (by omega)) c12_1
    refine lv_iload_n hx hb dX3_trustedBuilds_45 rfl (lv_at hl 1 rfl) ?_
    exact end_roi hx hb hr rfl hS dX3_trustedBuilds_46 hlk
  | succ n9 ih4 =>
    intro k hk H locs hI hS ls hl
    have hk4 : k < nb := by omega
    refine lv_iload_n hx hb dX3_trustedBuilds_4 rfl (lv_at hl 0 rfl) ?_
    refine lv_aload_n hx hb dX3_trustedBuilds_5 rfl (lv_at hl 2 rfl) ?_
    refine r_get (C := RX3) (T := TX3) (N := 7) (k := 1) (q0 := 0) (v := .ref (q 2)) hx hb hts hi3 hown hI rfl rfl (by decide) (hts (.fieldLink RX3 19 "Buildlots" "builds" "LBuildlots$Builds;") (List.mem_of_getElem? (i := 1) rfl)) rfl rfl dX3_trustedBuilds_6 ?_
    refine r_getN (C := RX0) (T := TX0) (N := 10) (k := 9) (q0 := 2) (v := .int (S 5)) hx hb hts hi0 hown hI rfl rfl (by decide) (List.mem_of_getElem? (i := 0) rfl) rfl rfl dX3_trustedBuilds_9 ?_
    refine lv_icmp_ge (tgt := 45) hx hb dX3_trustedBuilds_12 (by decide) (fun c12_2 => ?_) (fun c12_2 => ?_)
    · exact absurd c12_2 (i_nge rfl hcb (by omega) (by omega))
    refine lv_aload_n hx hb dX3_trustedBuilds_15 rfl (lv_at hl 2 rfl) ?_
    refine lv_aload_n hx hb dX3_trustedBuilds_16 rfl (lv_at hl 2 rfl) ?_
    refine r_get (C := RX3) (T := TX3) (N := 7) (k := 1) (q0 := 0) (v := .ref (q 2)) hx hb hts hi3 hown hI rfl rfl (by decide) (hts (.fieldLink RX3 19 "Buildlots" "builds" "LBuildlots$Builds;") (List.mem_of_getElem? (i := 1) rfl)) rfl rfl dX3_trustedBuilds_17 ?_
    refine r_getN (C := RX0) (T := TX0) (N := 10) (k := 5) (q0 := 2) (v := .ref (q 14)) hx hb hts hi0 hown hI rfl rfl (by decide) (List.mem_of_getElem? (i := 5) rfl) rfl rfl dX3_trustedBuilds_20 ?_
    refine lv_iload_n hx hb dX3_trustedBuilds_23 rfl (lv_at hl 0 rfl) ?_
    refine r_iald (q0 := 14) (j := k) (n := 24) (f := (A 10)) hx hb hI rfl rfl (by omega) (by decide) dX3_trustedBuilds_24 ?_
    refine lv_iload_n hx hb dX3_trustedBuilds_25 rfl (lv_at hl 0 rfl) ?_
    refine ro_i (va_runV (As := [.int (A 10 k), .int (nI k)]) (rest := []) ⟨hx, hb, hml, hown, hts⟩ (c_X3_suffices l D cy h0 q A S (A 10 k) (nI k) k (by omega) rfl (htn k (by omega))) (cwV 2 hts gX3_trustedBuilds_X3_suffices rfl rfl rfl (by decide +kernel) ⟨Nat.le_of_ble_eq_true rfl, Nat.le_of_ble_eq_true rfl⟩) (hI.preV (k0 := 0) rfl rfl) rfl rfl hl.1 rfl (lv_room (Nat.le_of_ble_eq_true rfl)) dX3_trustedBuilds_26 ⟨Nat.le_of_ble_eq_true rfl, Nat.le_of_ble_eq_true rfl⟩) hI hS (fun H locs hI hS => ?_)
    refine r_ifeq_b (tgt := 39) hx hb dX3_trustedBuilds_29 (by decide) (fun c29_3 => ?_) (fun c29_3 => ?_)
    · refine lv_iinc (v := nI (k + 1)) (lv' := [(2, .int (nI (k + 1))), (1, .int (tbF A k)), (0, .ref (q 0))]) hx hb dX3_trustedBuilds_39 hl (k := 0) rfl (nI_1 k) (by decide) rfl (fun ls hl => ?_)
      refine lv_goto (tgt := 4) hx hb dX3_trustedBuilds_42 (by decide) ?_
      rw [show (tbF A k) = (tbF A (k + 1)) from (by simp [tbF, c12_2, c29_3])] at hl
      exact ih4 (k + 1) (by omega) _ _ hI hS ls (lv_sub hl [0, 1, 2] rfl)
    · refine lv_iload_n hx hb dX3_trustedBuilds_32 rfl (lv_at hl 1 rfl) ?_
      refine lv_iload_n hx hb dX3_trustedBuilds_33 rfl (lv_at hl 0 rfl) ?_
      refine ro_i (va_runS (As := [.int (nI k)]) (rest := [.int (tbF A k)]) ⟨hx, hb, hml, hown, hts⟩ (c_X3_only l (nI k)) (va_cwS 1 hts gX3_trustedBuilds_X3_only rfl rfl rfl (by decide +kernel) ⟨Nat.le_of_ble_eq_true rfl, Nat.le_of_ble_eq_true rfl⟩) preT rfl rfl hl.1 rfl (lv_room (Nat.le_of_ble_eq_true rfl)) dX3_trustedBuilds_34 ⟨Nat.le_of_ble_eq_true rfl, Nat.le_of_ble_eq_true rfl⟩) hI hS (fun H locs hI hS => ?_)
      refine lv_ior hx hb dX3_trustedBuilds_37 ?_
      refine lv_istore_n (lv' := [(1, .int ((tbF A k) ||| (ly (nI k)))), (2, .int (nI k)), (0, .ref (q 0))]) hx hb dX3_trustedBuilds_38 rfl hl (by decide) rfl (fun ls hl => ?_)
      refine lv_iinc (v := nI (k + 1)) (lv' := [(2, .int (nI (k + 1))), (1, .int ((tbF A k) ||| (ly (nI k)))), (0, .ref (q 0))]) hx hb dX3_trustedBuilds_39 hl (k := 1) rfl (nI_1 k) (by decide) rfl (fun ls hl => ?_)
      refine lv_goto (tgt := 4) hx hb dX3_trustedBuilds_42 (by decide) ?_
      rw [show ((tbF A k) ||| (ly (nI k))) = (tbF A (k + 1)) from (by simp [tbF, c12_2, c29_3])] at hl
      exact ih4 (k + 1) (by omega) _ _ hI hS ls (lv_sub hl [0, 1, 2] rfl)

set_option maxHeartbeats 4000000 in
set_option maxRecDepth 100000 in
theorem c_X3_hasExpired (l : Launch) (D : va_G) (cy : Nat → ClassId) (h0 : Nat) (q : Nat → Nat) (A : Nat → Nat → Int32) (S : Nat → Int32) (x : Int32) (j : Nat) (hj : j < 3) (hk : x = nI j) : Met l yX3_hasExpired wsX3_hasExpired (rmO 1 0) (va_Pc [.ref (q 0), .int x] (pI D cy h0 (wX cy q A S))) (roI (bI (expB A S j))) 0 0 nof := by
  refine Met.ofW (cc := cX3_hasExpired) (maxL := 3) (ret := (some .boolean)) (by decide) rfl ?_
  intro p e s m args below meth c s₁ B hml hv
  obtain ⟨rfl, hI⟩ := hv
  have hx := B.exec
  have hb := B.bytes
  have hr := B.returns
  have hts := atoms_spec (ws := wsX3_hasExpired) B.pre
  have hown : s.vm.findClass RX3 = some m.cls := findClass_of_methodNamed B.named
  have hlk := B.notSynchronized
  have hI : IH D cy h0 (wX cy q A S) s s.heap := hI
  have hG := hI.1
  have hS : va_S nof s.heap s.heap [] := va_S.rf
  have hi2 : ∀ w ∈ wsX20, w ∈ wsX3_hasExpired := by decide +kernel
  have hi3 : ∀ w ∈ wsX30, w ∈ wsX3_hasExpired := by decide +kernel
  have hl := lv_entry ([.ref (q 0), .int x]) (n := 3) (Nat.le_of_ble_eq_true rfl)
  rw [lg_entry_eq]
  generalize (lg_sl ([.ref (q 0), .int x]) ++ List.replicate (3 - (lg_sl ([.ref (q 0), .int x])).length) Slot.unset).toArray = ls at hl ⊢
  have hl : lv_has ls 3 [(0, .ref (q 0)), (1, .int x)] := hl
  refine lv_aload_n hx hb dX3_hasExpired_0 rfl (lv_at hl 0 rfl) ?_
  refine r_get (C := RX3) (T := TX3) (N := 7) (k := 2) (q0 := 0) (v := .ref (q 3)) hx hb hts hi3 hown hI rfl rfl (by decide) (hts (.fieldLink RX3 26 "Buildlots" "mirrors" "LBuildlots$Mirrors;") (List.mem_of_getElem? (i := 1) rfl)) rfl rfl dX3_hasExpired_1 ?_
  refine r_getN (C := RX2) (T := TX2) (N := 3) (k := 0) (q0 := 3) (v := .ref (q 17)) hx hb hts hi2 hown hI rfl rfl (by decide) (List.mem_of_getElem? (i := 13) rfl) rfl rfl dX3_hasExpired_4 ?_
  refine lv_iload_n hx hb dX3_hasExpired_7 rfl (lv_at hl 1 rfl) ?_
  refine r_iald (q0 := 17) (j := j) (n := 3) (f := (A 13)) hx hb hI rfl hk hj (by decide) dX3_hasExpired_8 ?_
  refine lv_istore_n (lv' := [(2, .int (A 13 j)), (0, .ref (q 0)), (1, .int x)]) hx hb dX3_hasExpired_9 rfl hl (by decide) rfl (fun ls hl => ?_)
  refine lv_iload_n hx hb dX3_hasExpired_10 rfl (lv_at hl 0 rfl) ?_
  refine lv_iconst (v := (-1)) hx hb dX3_hasExpired_11 (by decide) ?_
  refine lv_icmp_eq (tgt := 28) hx hb dX3_hasExpired_12 (by decide) (fun c12_1 => ?_) (fun c12_1 => ?_)
  · refine lv_iconst (v := 1) hx hb dX3_hasExpired_28 (by decide) ?_
    refine lv_goto (tgt := 33) hx hb dX3_hasExpired_29 (by decide) ?_
    exact end_roz hx hb hr rfl (by simp [expB, bI, c12_1, ]) hS dX3_hasExpired_33 hlk
  · refine lv_aload_n hx hb dX3_hasExpired_15 rfl (lv_at hl 1 rfl) ?_
    refine r_get (C := RX3) (T := TX3) (N := 7) (k := 6) (q0 := 0) (v := .int (S 1)) hx hb hts hi3 hown hI rfl rfl (by decide) (hts (.fieldLink RX3 41 "Buildlots" "today" "I") (List.mem_of_getElem? (i := 2) rfl)) rfl rfl dX3_hasExpired_16 ?_
    refine lv_iload_n hx hb dX3_hasExpired_19 rfl (lv_at hl 0 rfl) ?_
    refine lv_isub hx hb dX3_hasExpired_20 ?_
    refine lv_aload_n hx hb dX3_hasExpired_21 rfl (lv_at hl 1 rfl) ?_
    refine r_get (C := RX3) (T := TX3) (N := 7) (k := 5) (q0 := 0) (v := .int (S 0)) hx hb hts hi3 hown hI rfl rfl (by decide) (hts (.fieldLink RX3 37 "Buildlots" "expiry" "I") (List.mem_of_getElem? (i := 3) rfl)) rfl rfl dX3_hasExpired_22 ?_
    refine lv_icmp_le (tgt := 32) hx hb dX3_hasExpired_25 (by decide) (fun c25_2 => ?_) (fun c25_2 => ?_)
    · refine lv_iconst (v := 0) hx hb dX3_hasExpired_32 (by decide) ?_
      exact end_roz hx hb hr rfl (by simp [expB, bI, c12_1, c25_2, ]) hS dX3_hasExpired_33 hlk
    · refine lv_iconst (v := 1) hx hb dX3_hasExpired_28 (by decide) ?_
      refine lv_goto (tgt := 33) hx hb dX3_hasExpired_29 (by decide) ?_
      exact end_roz hx hb hr rfl (by simp [expB, bI, c12_1, c25_2, ]) hS dX3_hasExpired_33 hlk

set_option maxHeartbeats 4000000 in
set_option maxRecDepth 100000 in
theorem c_J6_bitCount_0f7a4 (l : Launch) (x : Int32) : Met l yJ6_bitCount_0f7a4 wsJ6_bitCount_0f7a4 (rmO 1 0) (va_Pc [.int x] (fun _ => True)) (roI (bcF x)) 0 0 nof := by
  refine Met.ofW (cc := cJ6_bitCount_0f7a4) (maxL := 1) (ret := (some .int)) (by decide) rfl ?_
  intro p e s m args below meth c s₁ B hml hv
  obtain ⟨rfl, hI⟩ := hv
  have hx := B.exec
  have hb := B.bytes
  have hr := B.returns
  have hts := atoms_spec (ws := wsJ6_bitCount_0f7a4) B.pre
  have hown : s.vm.findClass RJ6 = some m.cls := findClass_of_methodNamed B.named
  have hlk := B.notSynchronized
  have hS : va_S nof s.heap s.heap [] := va_S.rf
  have hl := lv_entry ([.int x]) (n := 1) (Nat.le_of_ble_eq_true rfl)
  rw [lg_entry_eq]
  generalize (lg_sl ([.int x]) ++ List.replicate (1 - (lg_sl ([.int x])).length) Slot.unset).toArray = ls at hl ⊢
  have hl : lv_has ls 1 [(0, .int x)] := hl
  refine lv_iload_n hx hb dJ6_bitCount_0f7a4_0 rfl (lv_at hl 0 rfl) ?_
  refine lv_iload_n hx hb dJ6_bitCount_0f7a4_1 rfl (lv_at hl 0 rfl) ?_
  refine lv_iconst (v := 1) hx hb dJ6_bitCount_0f7a4_2 (by decide) ?_
  refine lv_iushr hx hb dJ6_bitCount_0f7a4_3 rfl ?_
  refine lv_ldcw (v := 1431655765) hx hb hown (hts (.constant RJ6 265 (1431655765)) (List.mem_of_getElem? (i := 1) rfl)) dJ6_bitCount_0f7a4_4 ?_
  refine lv_iand hx hb dJ6_bitCount_0f7a4_7 ?_
  refine lv_isub hx hb dJ6_bitCount_0f7a4_8 ?_
  rw [show (x - (((x.toUInt32 >>> ((1 : Int32).toUInt32 &&& Int32.toUInt32 31)).toInt32) &&& 1431655765)) = bc1 x from rfl]
  refine lv_istore_n (lv' := [(0, .int (bc1 x))]) hx hb dJ6_bitCount_0f7a4_9 rfl hl (by decide) rfl (fun ls hl => ?_)
  refine lv_iload_n hx hb dJ6_bitCount_0f7a4_10 rfl (lv_at hl 0 rfl) ?_
  refine lv_ldcw (v := 858993459) hx hb hown (hts (.constant RJ6 266 (858993459)) (List.mem_of_getElem? (i := 2) rfl)) dJ6_bitCount_0f7a4_11 ?_
  refine lv_iand hx hb dJ6_bitCount_0f7a4_14 ?_
  refine lv_iload_n hx hb dJ6_bitCount_0f7a4_15 rfl (lv_at hl 0 rfl) ?_
  refine lv_iconst (v := 2) hx hb dJ6_bitCount_0f7a4_16 (by decide) ?_
  refine lv_iushr hx hb dJ6_bitCount_0f7a4_17 rfl ?_
  refine lv_ldcw (v := 858993459) hx hb hown (hts (.constant RJ6 266 (858993459)) (List.mem_of_getElem? (i := 2) rfl)) dJ6_bitCount_0f7a4_18 ?_
  refine lv_iand hx hb dJ6_bitCount_0f7a4_21 ?_
  refine lv_iadd hx hb dJ6_bitCount_0f7a4_22 ?_
  rw [show (((bc1 x) &&& 858993459) + ((((bc1 x).toUInt32 >>> ((2 : Int32).toUInt32 &&& Int32.toUInt32 31)).toInt32) &&& 858993459)) = bc2 (bc1 x) from rfl]
  refine lv_istore_n (lv' := [(0, .int (bc2 (bc1 x)))]) hx hb dJ6_bitCount_0f7a4_23 rfl hl (by decide) rfl (fun ls hl => ?_)
  refine lv_iload_n hx hb dJ6_bitCount_0f7a4_24 rfl (lv_at hl 0 rfl) ?_
  refine lv_iload_n hx hb dJ6_bitCount_0f7a4_25 rfl (lv_at hl 0 rfl) ?_
  refine lv_iconst (v := 4) hx hb dJ6_bitCount_0f7a4_26 (by decide) ?_
  refine lv_iushr hx hb dJ6_bitCount_0f7a4_27 rfl ?_
  refine lv_iadd hx hb dJ6_bitCount_0f7a4_28 ?_
  refine lv_ldcw (v := 252645135) hx hb hown (hts (.constant RJ6 267 (252645135)) (List.mem_of_getElem? (i := 3) rfl)) dJ6_bitCount_0f7a4_29 ?_
  refine lv_iand hx hb dJ6_bitCount_0f7a4_32 ?_
  rw [show (((bc2 (bc1 x)) + (((bc2 (bc1 x)).toUInt32 >>> ((4 : Int32).toUInt32 &&& Int32.toUInt32 31)).toInt32)) &&& 252645135) = bc3 (bc2 (bc1 x)) from rfl]
  refine lv_istore_n (lv' := [(0, .int (bc3 (bc2 (bc1 x))))]) hx hb dJ6_bitCount_0f7a4_33 rfl hl (by decide) rfl (fun ls hl => ?_)
  refine lv_iload_n hx hb dJ6_bitCount_0f7a4_34 rfl (lv_at hl 0 rfl) ?_
  refine lv_iload_n hx hb dJ6_bitCount_0f7a4_35 rfl (lv_at hl 0 rfl) ?_
  refine lv_bipush (v := 8) hx hb dJ6_bitCount_0f7a4_36 (by decide) ?_
  refine lv_iushr hx hb dJ6_bitCount_0f7a4_38 rfl ?_
  refine lv_iadd hx hb dJ6_bitCount_0f7a4_39 ?_
  rw [show ((bc3 (bc2 (bc1 x))) + (((bc3 (bc2 (bc1 x))).toUInt32 >>> ((8 : Int32).toUInt32 &&& Int32.toUInt32 31)).toInt32)) = bc4 (bc3 (bc2 (bc1 x))) from rfl]
  refine lv_istore_n (lv' := [(0, .int (bc4 (bc3 (bc2 (bc1 x)))))]) hx hb dJ6_bitCount_0f7a4_40 rfl hl (by decide) rfl (fun ls hl => ?_)
  refine lv_iload_n hx hb dJ6_bitCount_0f7a4_41 rfl (lv_at hl 0 rfl) ?_
  refine lv_iload_n hx hb dJ6_bitCount_0f7a4_42 rfl (lv_at hl 0 rfl) ?_
  refine lv_bipush (v := 16) hx hb dJ6_bitCount_0f7a4_43 (by decide) ?_
  refine lv_iushr hx hb dJ6_bitCount_0f7a4_45 rfl ?_
  refine lv_iadd hx hb dJ6_bitCount_0f7a4_46 ?_
  rw [show ((bc4 (bc3 (bc2 (bc1 x)))) + (((bc4 (bc3 (bc2 (bc1 x)))).toUInt32 >>> ((16 : Int32).toUInt32 &&& Int32.toUInt32 31)).toInt32)) = bc5 (bc4 (bc3 (bc2 (bc1 x)))) from rfl]
  refine lv_istore_n (lv' := [(0, .int (bc5 (bc4 (bc3 (bc2 (bc1 x))))))]) hx hb dJ6_bitCount_0f7a4_47 rfl hl (by decide) rfl (fun ls hl => ?_)
  refine lv_iload_n hx hb dJ6_bitCount_0f7a4_48 rfl (lv_at hl 0 rfl) ?_
  refine lv_bipush (v := 63) hx hb dJ6_bitCount_0f7a4_49 (by decide) ?_
  refine lv_iand hx hb dJ6_bitCount_0f7a4_51 ?_
  exact end_roi hx hb hr rfl hS dJ6_bitCount_0f7a4_52 hlk
end
section
/-! Builds' and Mirrors' methods, Keys.append. Rows written by wip/whole/gen/part15.py. -/
def cF (f : Nat → Int32) (name : Int32) : Nat → Int32
  | 0 => 0
  | k + 1 => if f k = name then cF f name k + 1 else cF f name k
def wtF (g : Nat → Int32) (x : Int32) : Nat → Int32
  | 0 => x
  | k + 1 => if hold x (nI k) then wtF g x k ||| g k else wtF g x k
def rcF (g : Nat → Int32) (x : Int32) : Nat → Int32
  | 0 => x
  | k + 1 => if g k &&& x = 0 then rcF g x k else rcF g x k ||| ly (nI k)
def nwF (f : Nat → Int32) (name x : Int32) : Nat → Int32
  | 0 => -1
  | k + 1 => if f k = name then (if hold x (nI k) then nI k else nwF f name x k) else nwF f name x k
/-- the vouchers' row with the first k builds' reckoned anew -/
def kvF (A : Nat → Nat → Int32) (S : Nat → Int32) (day : Int32) (nk k : Nat) : Nat → Int32 := fun j => if j < k then sgF (A 2) (A 9 j &&& liveF A S day nk) nk else A 10 j
theorem uA_uA (A : Nat → Nat → Int32) (k : Nat) (f g : Nat → Int32) : uA (uA A k f) k g = uA A k g := by
  funext i; by_cases h : i = k <;> simp [uA, h]
theorem kv_step (A : Nat → Nat → Int32) (S : Nat → Int32) (day : Int32) (nk k : Nat) : upd (kvF A S day nk k) k (sgF (A 2) (A 9 k &&& liveF A S day nk) nk) = kvF A S day nk (k + 1) := by
  funext j
  by_cases h : j = k
  · subst h; simp [upd, kvF]
  · by_cases h2 : j < k
    · simp [upd, kvF, h, h2, Nat.lt_succ_of_lt h2]
    · have h3 : ¬ j < k + 1 := by omega
      simp [upd, kvF, h, h2, h3]
theorem kv_0 (A : Nat → Nat → Int32) (S : Nat → Int32) (day : Int32) (nk : Nat) : uA A 10 (kvF A S day nk 0) = A := by
  funext i j; by_cases h : i = 10 <;> simp [uA, kvF, h]
theorem wX_A {cy : Nat → ClassId} {q : Nat → Nat} {A A' : Nat → Nat → Int32} {S S' : Nat → Int32} (h : A = A') (h' : S = S') : wX cy q A S = wX cy q A' S' := by rw [h, h']

set_option maxHeartbeats 4000000 in
set_option maxRecDepth 100000 in
theorem c_X1_append (l : Launch) (D : va_G) (cy : Nat → ClassId) (h0 : Nat) (q : Nat → Nat) (A : Nat → Nat → Int32) (S : Nat → Int32) (signer : Int32) (first : Int32) (last : Int32) (nk : Nat) (hnk : nk ≤ 8) (hck : S 3 = nI nk) (hlt : nk < 8) : Met l yX1_append wsX1_append (rmO 1 0) (va_Pc [.ref (q 1), .int signer, .int first, .int last] (pI D cy h0 (wX cy q A S))) (rwI (S 3) D cy h0 (wX cy q (uA (uA (uA A 2 (upd (A 2) nk signer)) 3 (upd (A 3) nk first)) 4 (upd (A 4) nk last)) (uS S 3 (S 3 + 1))) (qA 19 q)) 0 0 (qA 19 q) := by
  refine Met.ofW (cc := cX1_append) (maxL := 5) (ret := (some .int)) (by decide) rfl ?_
  intro p e s m args below meth c s₁ B hml hv
  obtain ⟨rfl, hI⟩ := hv
  have hx := B.exec
  have hb := B.bytes
  have hr := B.returns
  have hts := atoms_spec (ws := wsX1_append) B.pre
  have hown : s.vm.findClass RX1 = some m.cls := findClass_of_methodNamed B.named
  have hlk := B.notSynchronized
  have hI : IH D cy h0 (wX cy q A S) s s.heap := hI
  have hG := hI.1
  have hqA := hA_X hI
  have hh0 : h0 ≤ s.heap.size := hI.1.2.2.2
  have hS : va_S nof s.heap s.heap [] := va_S.rf
  have hi1 : ∀ w ∈ wsX10, w ∈ wsX1_append := by decide +kernel
  have hl := lv_entry ([.ref (q 1), .int signer, .int first, .int last]) (n := 5) (Nat.le_of_ble_eq_true rfl)
  rw [lg_entry_eq]
  generalize (lg_sl ([.ref (q 1), .int signer, .int first, .int last]) ++ List.replicate (5 - (lg_sl ([.ref (q 1), .int signer, .int first, .int last])).length) Slot.unset).toArray = ls at hl ⊢
  have hl : lv_has ls 5 [(0, .ref (q 1)), (1, .int signer), (2, .int first), (3, .int last)] := hl
  refine lv_aload_n hx hb dX1_append_0 rfl (lv_at hl 0 rfl) ?_
  refine r_get (C := RX1) (T := TX1) (N := 5) (k := 4) (q0 := 1) (v := .int (S 3)) hx hb hts hi1 hown hI rfl rfl (by decide) (hts (.fieldLink RX1 21 "Buildlots$Keys" "count" "I") (List.mem_of_getElem? (i := 1) rfl)) rfl rfl dX1_append_1 ?_
  refine lv_istore (lv' := [(4, .int (S 3)), (0, .ref (q 1)), (1, .int signer), (2, .int first), (3, .int last)]) hx hb dX1_append_4 hl (by decide) rfl (fun ls hl => ?_)
  refine lv_aload_n hx hb dX1_append_6 rfl (lv_at hl 1 rfl) ?_
  refine r_get (C := RX1) (T := TX1) (N := 5) (k := 0) (q0 := 1) (v := .ref (q 6)) hx hb hts hi1 hown hI rfl rfl (by decide) (hts (.fieldLink RX1 9 "Buildlots$Keys" "signers" "[I") (List.mem_of_getElem? (i := 2) rfl)) rfl rfl dX1_append_7 ?_
  refine lv_iload hx hb dX1_append_10 (lv_at hl 0 rfl) ?_
  refine lv_iload_n hx hb dX1_append_12 rfl (lv_at hl 2 rfl) ?_
  have hS := hS.mono (B := qA 19 q) (fun _ h => h.elim)
  refine r_iast (w' := wX cy q (uA A 2 (upd (A 2) nk signer)) S) (q0 := 6) (j := nk) (n := 8) (f := (A 2)) hx hb hI hS hqA hh0 (qA_X hI) rfl hck hlt (by decide) dX1_append_13 rfl (fun H locs hI hS => ?_)
  refine lv_aload_n hx hb dX1_append_14 rfl (lv_at hl 1 rfl) ?_
  refine r_get (C := RX1) (T := TX1) (N := 5) (k := 1) (q0 := 1) (v := .ref (q 7)) hx hb hts hi1 hown hI rfl rfl (by decide) (hts (.fieldLink RX1 15 "Buildlots$Keys" "firsts" "[I") (List.mem_of_getElem? (i := 3) rfl)) rfl rfl dX1_append_15 ?_
  refine lv_iload hx hb dX1_append_18 (lv_at hl 0 rfl) ?_
  refine lv_iload_n hx hb dX1_append_20 rfl (lv_at hl 3 rfl) ?_
  refine r_iast (w' := wX cy q (uA (uA A 2 (upd (A 2) nk signer)) 3 (upd (A 3) nk first)) S) (q0 := 7) (j := nk) (n := 8) (f := (A 3)) hx hb hI hS hqA hh0 (qA_X hI) rfl hck hlt (by decide) dX1_append_21 rfl (fun H locs hI hS => ?_)
  refine lv_aload_n hx hb dX1_append_22 rfl (lv_at hl 1 rfl) ?_
  refine r_get (C := RX1) (T := TX1) (N := 5) (k := 2) (q0 := 1) (v := .ref (q 8)) hx hb hts hi1 hown hI rfl rfl (by decide) (hts (.fieldLink RX1 18 "Buildlots$Keys" "lasts" "[I") (List.mem_of_getElem? (i := 4) rfl)) rfl rfl dX1_append_23 ?_
  refine lv_iload hx hb dX1_append_26 (lv_at hl 0 rfl) ?_
  refine lv_iload_n hx hb dX1_append_28 rfl (lv_at hl 4 rfl) ?_
  refine r_iast (w' := wX cy q (uA (uA (uA A 2 (upd (A 2) nk signer)) 3 (upd (A 3) nk first)) 4 (upd (A 4) nk last)) S) (q0 := 8) (j := nk) (n := 8) (f := (A 4)) hx hb hI hS hqA hh0 (qA_X hI) rfl hck hlt (by decide) dX1_append_29 rfl (fun H locs hI hS => ?_)
  refine lv_aload_n hx hb dX1_append_30 rfl (lv_at hl 1 rfl) ?_
  refine lv_dup hx hb dX1_append_31 rfl ?_
  refine r_get (C := RX1) (T := TX1) (N := 5) (k := 4) (q0 := 1) (v := .int (S 3)) hx hb hts hi1 hown hI rfl rfl (by decide) (hts (.fieldLink RX1 21 "Buildlots$Keys" "count" "I") (List.mem_of_getElem? (i := 1) rfl)) rfl rfl dX1_append_32 ?_
  refine lv_iconst (v := 1) hx hb dX1_append_35 (by decide) ?_
  refine lv_iadd hx hb dX1_append_36 ?_
  refine r_put (w' := wX cy q (uA (uA (uA A 2 (upd (A 2) nk signer)) 3 (upd (A 3) nk first)) 4 (upd (A 4) nk last)) (uS S 3 ((S 3) + 1))) (C := RX1) (T := TX1) (N := 5) (k := 4) (q0 := 1) (ty := .int) (v := .int ((S 3) + 1)) hx hb hts hi1 tyX1_ok nmX1 hown hI hS hqA hh0 (qA_X hI) rfl rfl (by decide) (hts (.fieldLink RX1 21 "Buildlots$Keys" "count" "I") (List.mem_of_getElem? (i := 1) rfl)) rfl rfl (by decide +kernel) rfl rfl (Nat.le_of_ble_eq_true rfl) dX1_append_37 rfl (fun H locs hI hS => ?_)
  refine lv_iload hx hb dX1_append_40 (lv_at hl 0 rfl) ?_
  rw [show wX cy q (uA (uA (uA A 2 (upd (A 2) nk signer)) 3 (upd (A 3) nk first)) 4 (upd (A 4) nk last)) (uS S 3 ((S 3) + 1)) = wX cy q (uA (uA (uA A 2 (upd (A 2) nk signer)) 3 (upd (A 3) nk first)) 4 (upd (A 4) nk last)) (uS S 3 (S 3 + 1)) from rfl] at hI
  exact end_rwi hx hb hr rfl hI hS dX1_append_42 hlk

set_option maxHeartbeats 4000000 in
set_option maxRecDepth 100000 in
theorem c_X0_countOf (l : Launch) (D : va_G) (cy : Nat → ClassId) (h0 : Nat) (q : Nat → Nat) (A : Nat → Nat → Int32) (S : Nat → Int32) (name : Int32) (nb : Nat) (hnb : nb ≤ 24) (hcb : S 5 = nI nb) : Met l yX0_countOf wsX0_countOf (rmO 1 0) (va_Pc [.ref (q 2), .int name] (pI D cy h0 (wX cy q A S))) (roI (cF (A 5) name nb)) 0 0 nof := by
  refine Met.ofW (cc := cX0_countOf) (maxL := 4) (ret := (some .int)) (by decide) rfl ?_
  intro p e s m args below meth c s₁ B hml hv
  obtain ⟨rfl, hI⟩ := hv
  have hx := B.exec
  have hb := B.bytes
  have hr := B.returns
  have hts := atoms_spec (ws := wsX0_countOf) B.pre
  have hown : s.vm.findClass RX0 = some m.cls := findClass_of_methodNamed B.named
  have hlk := B.notSynchronized
  have hI : IH D cy h0 (wX cy q A S) s s.heap := hI
  have hG := hI.1
  have hS : va_S nof s.heap s.heap [] := va_S.rf
  have hi0 : ∀ w ∈ wsX00, w ∈ wsX0_countOf := by decide +kernel
  have hl := lv_entry ([.ref (q 2), .int name]) (n := 4) (Nat.le_of_ble_eq_true rfl)
  rw [lg_entry_eq]
  generalize (lg_sl ([.ref (q 2), .int name]) ++ List.replicate (4 - (lg_sl ([.ref (q 2), .int name])).length) Slot.unset).toArray = ls at hl ⊢
  have hl : lv_has ls 4 [(0, .ref (q 2)), (1, .int name)] := hl
  refine lv_iconst (v := 0) hx hb dX0_countOf_0 (by decide) ?_
  refine lv_istore_n (lv' := [(2, .int 0), (0, .ref (q 2)), (1, .int name)]) hx hb dX0_countOf_1 rfl hl (by decide) rfl (fun ls hl => ?_)
  refine lv_iconst (v := 0) hx hb dX0_countOf_2 (by decide) ?_
  refine lv_istore_n (lv' := [(3, .int 0), (2, .int 0), (0, .ref (q 2)), (1, .int name)]) hx hb dX0_countOf_3 rfl hl (by decide) rfl (fun ls hl => ?_)
  suffices KL4 : ∀ (n9 k : Nat), k + n9 = nb → ∀ (H : Heap) (locs : List Loc), IH D cy h0 (wX cy q A S) s H → va_S (nof) s.heap H locs → ∀ ls : Array Slot, lv_has ls 4 [(3, .int (nI k)), (2, .int (cF (A 5) name k)), (0, .ref (q 2)), (1, .int name)] → W p l e (headSpec wsX0_countOf (rmO 1 0)).room s m ([.ref (q 2), .int name]).toArray below meth c H locs 0 0 (MQ below (roI (cF (A 5) name nb)) ([.ref (q 2), .int name]).toArray s 0 0 nof) (F0 m 4 ls []) by
    exact KL4 nb 0 (by omega) _ _ hI hS ls ((lv_sub hl [0, 1, 2, 3] rfl))
  intro n9
  induction n9 with
  | zero =>
    intro k hk H locs hI hS ls hl
    have hk : nb = k := by omega
    subst hk
    refine lv_iload_n hx hb dX0_countOf_4 rfl (lv_at hl 0 rfl) ?_
    refine lv_aload_n hx hb dX0_countOf_5 rfl (lv_at hl 2 rfl) ?_
    refine r_get (C := RX0) (T := TX0) (N := 10) (k := 9) (q0 := 2) (v := .int (S 5)) hx hb hts hi0 hown hI rfl rfl (by decide) (hts (.fieldLink RX0 36 "Buildlots$Builds" "count" "I") (List.mem_of_getElem? (i := 1) rfl)) rfl rfl dX0_countOf_6 ?_
    refine lv_icmp_ge (tgt := 31) hx hb dX0_countOf_9 (by decide) (fun c9_1 => ?_) (fun c9_1 => ?_)
    rotate_left
    · exact absurd (i_ge rfl hcb (Nat.le_refl _) (by omega)) c9_1
    refine lv_iload_n hx hb dX0_countOf_31 rfl (lv_at hl 1 rfl) ?_
    exact end_roi hx hb hr rfl hS dX0_countOf_32 hlk
  | succ n9 ih4 =>
    intro k hk H locs hI hS ls hl
    have hk4 : k < nb := by omega
    refine lv_iload_n hx hb dX0_countOf_4 rfl (lv_at hl 0 rfl) ?_
    refine lv_aload_n hx hb dX0_countOf_5 rfl (lv_at hl 2 rfl) ?_
    refine r_get (C := RX0) (T := TX0) (N := 10) (k := 9) (q0 := 2) (v := .int (S 5)) hx hb hts hi0 hown hI rfl rfl (by decide) (hts (.fieldLink RX0 36 "Buildlots$Builds" "count" "I") (List.mem_of_getElem? (i := 1) rfl)) rfl rfl dX0_countOf_6 ?_
    refine lv_icmp_ge (tgt := 31) hx hb dX0_countOf_9 (by decide) (fun c9_2 => ?_) (fun c9_2 => ?_)
    · exact absurd c9_2 (i_nge rfl hcb (by omega) (by omega))
    refine lv_aload_n hx hb dX0_countOf_12 rfl (lv_at hl 2 rfl) ?_
    refine r_get (C := RX0) (T := TX0) (N := 10) (k := 0) (q0 := 2) (v := .ref (q 9)) hx hb hts hi0 hown hI rfl rfl (by decide) (hts (.fieldLink RX0 9 "Buildlots$Builds" "names" "[I") (List.mem_of_getElem? (i := 2) rfl)) rfl rfl dX0_countOf_13 ?_
    refine lv_iload_n hx hb dX0_countOf_16 rfl (lv_at hl 0 rfl) ?_
    refine r_iald (q0 := 9) (j := k) (n := 24) (f := (A 5)) hx hb hI rfl rfl (by omega) (by decide) dX0_countOf_17 ?_
    refine lv_iload_n hx hb dX0_countOf_18 rfl (lv_at hl 3 rfl) ?_
    refine lv_icmp_ne (tgt := 25) hx hb dX0_countOf_19 (by decide) (fun c19_3 => ?_) (fun c19_3 => ?_)
    · refine lv_iinc (v := nI (k + 1)) (lv' := [(3, .int (nI (k + 1))), (2, .int (cF (A 5) name k)), (0, .ref (q 2)), (1, .int name)]) hx hb dX0_countOf_25 hl (k := 0) rfl (nI_1 k) (by decide) rfl (fun ls hl => ?_)
      refine lv_goto (tgt := 4) hx hb dX0_countOf_28 (by decide) ?_
      rw [show (cF (A 5) name k) = (cF (A 5) name (k + 1)) from (by simp [cF, c9_2, c19_3])] at hl
      exact ih4 (k + 1) (by omega) _ _ hI hS ls (lv_sub hl [0, 1, 2, 3] rfl)
    · refine lv_iinc (v := (cF (A 5) name k) + 1) (lv' := [(2, .int ((cF (A 5) name k) + 1)), (3, .int (nI k)), (0, .ref (q 2)), (1, .int name)]) hx hb dX0_countOf_22 hl (k := 1) rfl rfl (by decide) rfl (fun ls hl => ?_)
      refine lv_iinc (v := nI (k + 1)) (lv' := [(3, .int (nI (k + 1))), (2, .int ((cF (A 5) name k) + 1)), (0, .ref (q 2)), (1, .int name)]) hx hb dX0_countOf_25 hl (k := 1) rfl (nI_1 k) (by decide) rfl (fun ls hl => ?_)
      refine lv_goto (tgt := 4) hx hb dX0_countOf_28 (by decide) ?_
      rw [show ((cF (A 5) name k) + 1) = (cF (A 5) name (k + 1)) from (by simp [cF, c9_2, c19_3])] at hl
      exact ih4 (k + 1) (by omega) _ _ hI hS ls (lv_sub hl [0, 1, 2, 3] rfl)

set_option maxHeartbeats 4000000 in
set_option maxRecDepth 100000 in
theorem c_X0_withTheirSources (l : Launch) (D : va_G) (cy : Nat → ClassId) (h0 : Nat) (q : Nat → Nat) (A : Nat → Nat → Int32) (S : Nat → Int32) (x : Int32) (nb : Nat) (hnb : nb ≤ 24) (hcb : S 5 = nI nb) : Met l yX0_withTheirSources wsX0_withTheirSources (rmO 3 41) (va_Pc [.ref (q 2), .int x] (pI D cy h0 (wX cy q A S))) (roI (wtF (A 7) x nb)) 0 0 nof := by
  refine Met.ofW (cc := cX0_withTheirSources) (maxL := 4) (ret := (some .int)) (by decide) rfl ?_
  intro p e s m args below meth c s₁ B hml hv
  obtain ⟨rfl, hI⟩ := hv
  have hx := B.exec
  have hb := B.bytes
  have hr := B.returns
  have hts := atoms_spec (ws := wsX0_withTheirSources) B.pre
  have hown : s.vm.findClass RX0 = some m.cls := findClass_of_methodNamed B.named
  have hlk := B.notSynchronized
  have hI : IH D cy h0 (wX cy q A S) s s.heap := hI
  have hG := hI.1
  have hS : va_S nof s.heap s.heap [] := va_S.rf
  have hi0 : ∀ w ∈ wsX00, w ∈ wsX0_withTheirSources := by decide +kernel
  have hl := lv_entry ([.ref (q 2), .int x]) (n := 4) (Nat.le_of_ble_eq_true rfl)
  rw [lg_entry_eq]
  generalize (lg_sl ([.ref (q 2), .int x]) ++ List.replicate (4 - (lg_sl ([.ref (q 2), .int x])).length) Slot.unset).toArray = ls at hl ⊢
  have hl : lv_has ls 4 [(0, .ref (q 2)), (1, .int x)] := hl
  refine lv_iload_n hx hb dX0_withTheirSources_0 rfl (lv_at hl 1 rfl) ?_
  refine lv_istore_n (lv' := [(2, .int x), (0, .ref (q 2)), (1, .int x)]) hx hb dX0_withTheirSources_1 rfl hl (by decide) rfl (fun ls hl => ?_)
  refine lv_iconst (v := 0) hx hb dX0_withTheirSources_2 (by decide) ?_
  refine lv_istore_n (lv' := [(3, .int 0), (2, .int x), (0, .ref (q 2)), (1, .int x)]) hx hb dX0_withTheirSources_3 rfl hl (by decide) rfl (fun ls hl => ?_)
  suffices KL4 : ∀ (n9 k : Nat), k + n9 = nb → ∀ (H : Heap) (locs : List Loc), IH D cy h0 (wX cy q A S) s H → va_S (nof) s.heap H locs → ∀ ls : Array Slot, lv_has ls 4 [(3, .int (nI k)), (2, .int (wtF (A 7) x k)), (0, .ref (q 2)), (1, .int x)] → W p l e (headSpec wsX0_withTheirSources (rmO 3 41)).room s m ([.ref (q 2), .int x]).toArray below meth c H locs 0 0 (MQ below (roI (wtF (A 7) x nb)) ([.ref (q 2), .int x]).toArray s 0 0 nof) (F0 m 4 ls []) by
    exact KL4 nb 0 (by omega) _ _ hI hS ls ((lv_sub hl [0, 1, 2, 3] rfl))
  intro n9
  induction n9 with
  | zero =>
    intro k hk H locs hI hS ls hl
    have hk : nb = k := by omega
    subst hk
    refine lv_iload_n hx hb dX0_withTheirSources_4 rfl (lv_at hl 0 rfl) ?_
    refine lv_aload_n hx hb dX0_withTheirSources_5 rfl (lv_at hl 2 rfl) ?_
    refine r_get (C := RX0) (T := TX0) (N := 10) (k := 9) (q0 := 2) (v := .int (S 5)) hx hb hts hi0 hown hI rfl rfl (by decide) (hts (.fieldLink RX0 36 "Buildlots$Builds" "count" "I") (List.mem_of_getElem? (i := 1) rfl)) rfl rfl dX0_withTheirSources_6 ?_
    refine lv_icmp_ge (tgt := 35) hx hb dX0_withTheirSources_9 (by decide) (fun c9_1 => ?_) (fun c9_1 => ?_)
    rotate_left
    · exact absurd (i_ge rfl hcb (Nat.le_refl _) (by omega)) c9_1
    refine lv_iload_n hx hb dX0_withTheirSources_35 rfl (lv_at hl 1 rfl) ?_
    exact end_roi hx hb hr rfl hS dX0_withTheirSources_36 hlk
  | succ n9 ih4 =>
    intro k hk H locs hI hS ls hl
    have hk4 : k < nb := by omega
    refine lv_iload_n hx hb dX0_withTheirSources_4 rfl (lv_at hl 0 rfl) ?_
    refine lv_aload_n hx hb dX0_withTheirSources_5 rfl (lv_at hl 2 rfl) ?_
    refine r_get (C := RX0) (T := TX0) (N := 10) (k := 9) (q0 := 2) (v := .int (S 5)) hx hb hts hi0 hown hI rfl rfl (by decide) (hts (.fieldLink RX0 36 "Buildlots$Builds" "count" "I") (List.mem_of_getElem? (i := 1) rfl)) rfl rfl dX0_withTheirSources_6 ?_
    refine lv_icmp_ge (tgt := 35) hx hb dX0_withTheirSources_9 (by decide) (fun c9_2 => ?_) (fun c9_2 => ?_)
    · exact absurd c9_2 (i_nge rfl hcb (by omega) (by omega))
    refine lv_iload_n hx hb dX0_withTheirSources_12 rfl (lv_at hl 3 rfl) ?_
    refine lv_iload_n hx hb dX0_withTheirSources_13 rfl (lv_at hl 0 rfl) ?_
    refine ro_i (va_runSN (As := [.int x, .int (nI k)]) (rest := []) ⟨hx, hb, hml, hown, hts⟩ (c_X3_holds l x (nI k)) ⟨va_cnB (host := RX3) 2 hts gX0_withTheirSources_X3_holds_n47 rfl rfl rfl (hG.1.2.1 (RX0, 47, yX3_holds) (List.mem_of_getElem? (i := 14) rfl)) (hts (.initialized RX3) (List.mem_of_getElem? (i := 4) rfl)) (by decide +kernel) ⟨Nat.le_of_ble_eq_true rfl, Nat.le_of_ble_eq_true rfl⟩, (hts (.static yX3_holds) (List.mem_of_getElem? (i := 3) rfl)), trivial⟩ preT rfl rfl hl.1 rfl (lv_room (Nat.le_of_ble_eq_true rfl)) dX0_withTheirSources_14 ⟨Nat.le_of_ble_eq_true rfl, Nat.le_of_ble_eq_true rfl⟩) hI hS (fun H locs hI hS => ?_)
    refine r_ifeq_b (tgt := 29) hx hb dX0_withTheirSources_17 (by decide) (fun c17_3 => ?_) (fun c17_3 => ?_)
    · refine lv_iinc (v := nI (k + 1)) (lv' := [(3, .int (nI (k + 1))), (2, .int (wtF (A 7) x k)), (0, .ref (q 2)), (1, .int x)]) hx hb dX0_withTheirSources_29 hl (k := 0) rfl (nI_1 k) (by decide) rfl (fun ls hl => ?_)
      refine lv_goto (tgt := 4) hx hb dX0_withTheirSources_32 (by decide) ?_
      rw [show (wtF (A 7) x k) = (wtF (A 7) x (k + 1)) from (by simp [wtF, c9_2, c17_3])] at hl
      exact ih4 (k + 1) (by omega) _ _ hI hS ls (lv_sub hl [0, 1, 2, 3] rfl)
    · refine lv_iload_n hx hb dX0_withTheirSources_20 rfl (lv_at hl 1 rfl) ?_
      refine lv_aload_n hx hb dX0_withTheirSources_21 rfl (lv_at hl 2 rfl) ?_
      refine r_get (C := RX0) (T := TX0) (N := 10) (k := 2) (q0 := 2) (v := .ref (q 11)) hx hb hts hi0 hown hI rfl rfl (by decide) (hts (.fieldLink RX0 18 "Buildlots$Builds" "sources" "[I") (List.mem_of_getElem? (i := 2) rfl)) rfl rfl dX0_withTheirSources_22 ?_
      refine lv_iload_n hx hb dX0_withTheirSources_25 rfl (lv_at hl 0 rfl) ?_
      refine r_iald (q0 := 11) (j := k) (n := 24) (f := (A 7)) hx hb hI rfl rfl (by omega) (by decide) dX0_withTheirSources_26 ?_
      refine lv_ior hx hb dX0_withTheirSources_27 ?_
      refine lv_istore_n (lv' := [(2, .int ((wtF (A 7) x k) ||| (A 7 k))), (3, .int (nI k)), (0, .ref (q 2)), (1, .int x)]) hx hb dX0_withTheirSources_28 rfl hl (by decide) rfl (fun ls hl => ?_)
      refine lv_iinc (v := nI (k + 1)) (lv' := [(3, .int (nI (k + 1))), (2, .int ((wtF (A 7) x k) ||| (A 7 k))), (0, .ref (q 2)), (1, .int x)]) hx hb dX0_withTheirSources_29 hl (k := 1) rfl (nI_1 k) (by decide) rfl (fun ls hl => ?_)
      refine lv_goto (tgt := 4) hx hb dX0_withTheirSources_32 (by decide) ?_
      rw [show ((wtF (A 7) x k) ||| (A 7 k)) = (wtF (A 7) x (k + 1)) from (by simp [wtF, c9_2, c17_3])] at hl
      exact ih4 (k + 1) (by omega) _ _ hI hS ls (lv_sub hl [0, 1, 2, 3] rfl)

set_option maxHeartbeats 4000000 in
set_option maxRecDepth 100000 in
theorem c_X0_all (l : Launch) (D : va_G) (cy : Nat → ClassId) (h0 : Nat) (q : Nat → Nat) (A : Nat → Nat → Int32) (S : Nat → Int32) : Met l yX0_all wsX0_all (rmO 2 20) (va_Pc [.ref (q 2)] (pI D cy h0 (wX cy q A S))) (roI (ly (S 5) - 1)) 0 0 nof := by
  refine Met.ofW (cc := cX0_all) (maxL := 1) (ret := (some .int)) (by decide) rfl ?_
  intro p e s m args below meth c s₁ B hml hv
  obtain ⟨rfl, hI⟩ := hv
  have hx := B.exec
  have hb := B.bytes
  have hr := B.returns
  have hts := atoms_spec (ws := wsX0_all) B.pre
  have hown : s.vm.findClass RX0 = some m.cls := findClass_of_methodNamed B.named
  have hlk := B.notSynchronized
  have hI : IH D cy h0 (wX cy q A S) s s.heap := hI
  have hG := hI.1
  have hS : va_S nof s.heap s.heap [] := va_S.rf
  have hi0 : ∀ w ∈ wsX00, w ∈ wsX0_all := by decide +kernel
  have hl := lv_entry ([.ref (q 2)]) (n := 1) (Nat.le_of_ble_eq_true rfl)
  rw [lg_entry_eq]
  generalize (lg_sl ([.ref (q 2)]) ++ List.replicate (1 - (lg_sl ([.ref (q 2)])).length) Slot.unset).toArray = ls at hl ⊢
  have hl : lv_has ls 1 [(0, .ref (q 2))] := hl
  refine lv_aload_n hx hb dX0_all_0 rfl (lv_at hl 0 rfl) ?_
  refine r_get (C := RX0) (T := TX0) (N := 10) (k := 9) (q0 := 2) (v := .int (S 5)) hx hb hts hi0 hown hI rfl rfl (by decide) (hts (.fieldLink RX0 36 "Buildlots$Builds" "count" "I") (List.mem_of_getElem? (i := 1) rfl)) rfl rfl dX0_all_1 ?_
  refine ro_i (va_runSN (As := [.int (S 5)]) (rest := []) ⟨hx, hb, hml, hown, hts⟩ (c_X3_only l (S 5)) ⟨va_cnB (host := RX3) 1 hts gX0_all_X3_only_n51 rfl rfl rfl (hG.1.2.1 (RX0, 51, yX3_only) (List.mem_of_getElem? (i := 11) rfl)) (hts (.initialized RX3) (List.mem_of_getElem? (i := 3) rfl)) (by decide +kernel) ⟨Nat.le_of_ble_eq_true rfl, Nat.le_of_ble_eq_true rfl⟩, (hts (.static yX3_only) (List.mem_of_getElem? (i := 2) rfl)), trivial⟩ preT rfl rfl hl.1 rfl (lv_room (Nat.le_of_ble_eq_true rfl)) dX0_all_4 ⟨Nat.le_of_ble_eq_true rfl, Nat.le_of_ble_eq_true rfl⟩) hI hS (fun H locs hI hS => ?_)
  refine lv_iconst (v := 1) hx hb dX0_all_7 (by decide) ?_
  refine lv_isub hx hb dX0_all_8 ?_
  exact end_roi hx hb hr rfl hS dX0_all_9 hlk

set_option maxHeartbeats 4000000 in
set_option maxRecDepth 100000 in
theorem c_X0_recalled (l : Launch) (D : va_G) (cy : Nat → ClassId) (h0 : Nat) (q : Nat → Nat) (A : Nat → Nat → Int32) (S : Nat → Int32) (nb : Nat) (hnb : nb ≤ 24) (hcb : S 5 = nI nb) : Met l yX0_recalled wsX0_recalled (rmO 2 20) (va_Pc [.ref (q 2)] (pI D cy h0 (wX cy q A S))) (roI (rcF (A 7) (S 4) nb)) 0 0 nof := by
  refine Met.ofW (cc := cX0_recalled) (maxL := 3) (ret := (some .int)) (by decide) rfl ?_
  intro p e s m args below meth c s₁ B hml hv
  obtain ⟨rfl, hI⟩ := hv
  have hx := B.exec
  have hb := B.bytes
  have hr := B.returns
  have hts := atoms_spec (ws := wsX0_recalled) B.pre
  have hown : s.vm.findClass RX0 = some m.cls := findClass_of_methodNamed B.named
  have hlk := B.notSynchronized
  have hI : IH D cy h0 (wX cy q A S) s s.heap := hI
  have hG := hI.1
  have hS : va_S nof s.heap s.heap [] := va_S.rf
  have hi0 : ∀ w ∈ wsX00, w ∈ wsX0_recalled := by decide +kernel
  have hl := lv_entry ([.ref (q 2)]) (n := 3) (Nat.le_of_ble_eq_true rfl)
  rw [lg_entry_eq]
  generalize (lg_sl ([.ref (q 2)]) ++ List.replicate (3 - (lg_sl ([.ref (q 2)])).length) Slot.unset).toArray = ls at hl ⊢
  have hl : lv_has ls 3 [(0, .ref (q 2))] := hl
  refine lv_aload_n hx hb dX0_recalled_0 rfl (lv_at hl 0 rfl) ?_
  refine r_get (C := RX0) (T := TX0) (N := 10) (k := 8) (q0 := 2) (v := .int (S 4)) hx hb hts hi0 hown hI rfl rfl (by decide) (hts (.fieldLink RX0 54 "Buildlots$Builds" "marked" "I") (List.mem_of_getElem? (i := 1) rfl)) rfl rfl dX0_recalled_1 ?_
  refine lv_istore_n (lv' := [(1, .int (S 4)), (0, .ref (q 2))]) hx hb dX0_recalled_4 rfl hl (by decide) rfl (fun ls hl => ?_)
  refine lv_iconst (v := 0) hx hb dX0_recalled_5 (by decide) ?_
  refine lv_istore_n (lv' := [(2, .int 0), (1, .int (S 4)), (0, .ref (q 2))]) hx hb dX0_recalled_6 rfl hl (by decide) rfl (fun ls hl => ?_)
  suffices KL7 : ∀ (n9 k : Nat), k + n9 = nb → ∀ (H : Heap) (locs : List Loc), IH D cy h0 (wX cy q A S) s H → va_S (nof) s.heap H locs → ∀ ls : Array Slot, lv_has ls 3 [(2, .int (nI k)), (1, .int (rcF (A 7) (S 4) k)), (0, .ref (q 2))] → W p l e (headSpec wsX0_recalled (rmO 2 20)).room s m ([.ref (q 2)]).toArray below meth c H locs 0 0 (MQ below (roI (rcF (A 7) (S 4) nb)) ([.ref (q 2)]).toArray s 0 0 nof) (F0 m 7 ls []) by
    exact KL7 nb 0 (by omega) _ _ hI hS ls ((lv_sub hl [0, 1, 2] rfl))
  intro n9
  induction n9 with
  | zero =>
    intro k hk H locs hI hS ls hl
    have hk : nb = k := by omega
    subst hk
    refine lv_iload_n hx hb dX0_recalled_7 rfl (lv_at hl 0 rfl) ?_
    refine lv_aload_n hx hb dX0_recalled_8 rfl (lv_at hl 2 rfl) ?_
    refine r_get (C := RX0) (T := TX0) (N := 10) (k := 9) (q0 := 2) (v := .int (S 5)) hx hb hts hi0 hown hI rfl rfl (by decide) (hts (.fieldLink RX0 36 "Buildlots$Builds" "count" "I") (List.mem_of_getElem? (i := 2) rfl)) rfl rfl dX0_recalled_9 ?_
    refine lv_icmp_ge (tgt := 42) hx hb dX0_recalled_12 (by decide) (fun c12_1 => ?_) (fun c12_1 => ?_)
    rotate_left
    · exact absurd (i_ge rfl hcb (Nat.le_refl _) (by omega)) c12_1
    refine lv_iload_n hx hb dX0_recalled_42 rfl (lv_at hl 1 rfl) ?_
    exact end_roi hx hb hr rfl hS dX0_recalled_43 hlk
  | succ n9 ih7 =>
    intro k hk H locs hI hS ls hl
    have hk7 : k < nb := by omega
    refine lv_iload_n hx hb dX0_recalled_7 rfl (lv_at hl 0 rfl) ?_
    refine lv_aload_n hx hb dX0_recalled_8 rfl (lv_at hl 2 rfl) ?_
    refine r_get (C := RX0) (T := TX0) (N := 10) (k := 9) (q0 := 2) (v := .int (S 5)) hx hb hts hi0 hown hI rfl rfl (by decide) (hts (.fieldLink RX0 36 "Buildlots$Builds" "count" "I") (List.mem_of_getElem? (i := 2) rfl)) rfl rfl dX0_recalled_9 ?_
    refine lv_icmp_ge (tgt := 42) hx hb dX0_recalled_12 (by decide) (fun c12_2 => ?_) (fun c12_2 => ?_)
    · exact absurd c12_2 (i_nge rfl hcb (by omega) (by omega))
    refine lv_aload_n hx hb dX0_recalled_15 rfl (lv_at hl 2 rfl) ?_
    refine r_get (C := RX0) (T := TX0) (N := 10) (k := 2) (q0 := 2) (v := .ref (q 11)) hx hb hts hi0 hown hI rfl rfl (by decide) (hts (.fieldLink RX0 18 "Buildlots$Builds" "sources" "[I") (List.mem_of_getElem? (i := 3) rfl)) rfl rfl dX0_recalled_16 ?_
    refine lv_iload_n hx hb dX0_recalled_19 rfl (lv_at hl 0 rfl) ?_
    refine r_iald (q0 := 11) (j := k) (n := 24) (f := (A 7)) hx hb hI rfl rfl (by omega) (by decide) dX0_recalled_20 ?_
    refine lv_aload_n hx hb dX0_recalled_21 rfl (lv_at hl 2 rfl) ?_
    refine r_get (C := RX0) (T := TX0) (N := 10) (k := 8) (q0 := 2) (v := .int (S 4)) hx hb hts hi0 hown hI rfl rfl (by decide) (hts (.fieldLink RX0 54 "Buildlots$Builds" "marked" "I") (List.mem_of_getElem? (i := 1) rfl)) rfl rfl dX0_recalled_22 ?_
    refine lv_iand hx hb dX0_recalled_25 ?_
    refine lv_if_eq (tgt := 36) hx hb dX0_recalled_26 (by decide) (fun c26_3 => ?_) (fun c26_3 => ?_)
    · refine lv_iinc (v := nI (k + 1)) (lv' := [(2, .int (nI (k + 1))), (1, .int (rcF (A 7) (S 4) k)), (0, .ref (q 2))]) hx hb dX0_recalled_36 hl (k := 0) rfl (nI_1 k) (by decide) rfl (fun ls hl => ?_)
      refine lv_goto (tgt := 7) hx hb dX0_recalled_39 (by decide) ?_
      rw [show (rcF (A 7) (S 4) k) = (rcF (A 7) (S 4) (k + 1)) from (by simp [rcF, c12_2, c26_3])] at hl
      exact ih7 (k + 1) (by omega) _ _ hI hS ls (lv_sub hl [0, 1, 2] rfl)
    · refine lv_iload_n hx hb dX0_recalled_29 rfl (lv_at hl 1 rfl) ?_
      refine lv_iload_n hx hb dX0_recalled_30 rfl (lv_at hl 0 rfl) ?_
      refine ro_i (va_runSN (As := [.int (nI k)]) (rest := [.int (rcF (A 7) (S 4) k)]) ⟨hx, hb, hml, hown, hts⟩ (c_X3_only l (nI k)) ⟨va_cnB (host := RX3) 1 hts gX0_recalled_X3_only_n51 rfl rfl rfl (hG.1.2.1 (RX0, 51, yX3_only) (List.mem_of_getElem? (i := 11) rfl)) (hts (.initialized RX3) (List.mem_of_getElem? (i := 5) rfl)) (by decide +kernel) ⟨Nat.le_of_ble_eq_true rfl, Nat.le_of_ble_eq_true rfl⟩, (hts (.static yX3_only) (List.mem_of_getElem? (i := 4) rfl)), trivial⟩ preT rfl rfl hl.1 rfl (lv_room (Nat.le_of_ble_eq_true rfl)) dX0_recalled_31 ⟨Nat.le_of_ble_eq_true rfl, Nat.le_of_ble_eq_true rfl⟩) hI hS (fun H locs hI hS => ?_)
      refine lv_ior hx hb dX0_recalled_34 ?_
      refine lv_istore_n (lv' := [(1, .int ((rcF (A 7) (S 4) k) ||| (ly (nI k)))), (2, .int (nI k)), (0, .ref (q 2))]) hx hb dX0_recalled_35 rfl hl (by decide) rfl (fun ls hl => ?_)
      refine lv_iinc (v := nI (k + 1)) (lv' := [(2, .int (nI (k + 1))), (1, .int ((rcF (A 7) (S 4) k) ||| (ly (nI k)))), (0, .ref (q 2))]) hx hb dX0_recalled_36 hl (k := 1) rfl (nI_1 k) (by decide) rfl (fun ls hl => ?_)
      refine lv_goto (tgt := 7) hx hb dX0_recalled_39 (by decide) ?_
      rw [show ((rcF (A 7) (S 4) k) ||| (ly (nI k))) = (rcF (A 7) (S 4) (k + 1)) from (by simp [rcF, c12_2, c26_3])] at hl
      exact ih7 (k + 1) (by omega) _ _ hI hS ls (lv_sub hl [0, 1, 2] rfl)

set_option maxHeartbeats 4000000 in
set_option maxRecDepth 100000 in
theorem c_X0_newestOf (l : Launch) (D : va_G) (cy : Nat → ClassId) (h0 : Nat) (q : Nat → Nat) (A : Nat → Nat → Int32) (S : Nat → Int32) (name : Int32) (x : Int32) (nb : Nat) (hnb : nb ≤ 24) (hcb : S 5 = nI nb) : Met l yX0_newestOf wsX0_newestOf (rmO 3 41) (va_Pc [.ref (q 2), .int name, .int x] (pI D cy h0 (wX cy q A S))) (roI (nwF (A 5) name x nb)) 0 0 nof := by
  refine Met.ofW (cc := cX0_newestOf) (maxL := 5) (ret := (some .int)) (by decide) rfl ?_
  intro p e s m args below meth c s₁ B hml hv
  obtain ⟨rfl, hI⟩ := hv
  have hx := B.exec
  have hb := B.bytes
  have hr := B.returns
  have hts := atoms_spec (ws := wsX0_newestOf) B.pre
  have hown : s.vm.findClass RX0 = some m.cls := findClass_of_methodNamed B.named
  have hlk := B.notSynchronized
  have hI : IH D cy h0 (wX cy q A S) s s.heap := hI
  have hG := hI.1
  have hS : va_S nof s.heap s.heap [] := va_S.rf
  have hi0 : ∀ w ∈ wsX00, w ∈ wsX0_newestOf := by decide +kernel
  have hl := lv_entry ([.ref (q 2), .int name, .int x]) (n := 5) (Nat.le_of_ble_eq_true rfl)
  rw [lg_entry_eq]
  generalize (lg_sl ([.ref (q 2), .int name, .int x]) ++ List.replicate (5 - (lg_sl ([.ref (q 2), .int name, .int x])).length) Slot.unset).toArray = ls at hl ⊢
  have hl : lv_has ls 5 [(0, .ref (q 2)), (1, .int name), (2, .int x)] := hl
  refine lv_iconst (v := (-1)) hx hb dX0_newestOf_0 (by decide) ?_
  refine lv_istore_n (lv' := [(3, .int (-1)), (0, .ref (q 2)), (1, .int name), (2, .int x)]) hx hb dX0_newestOf_1 rfl hl (by decide) rfl (fun ls hl => ?_)
  refine lv_iconst (v := 0) hx hb dX0_newestOf_2 (by decide) ?_
  refine lv_istore (lv' := [(4, .int 0), (3, .int (-1)), (0, .ref (q 2)), (1, .int name), (2, .int x)]) hx hb dX0_newestOf_3 hl (by decide) rfl (fun ls hl => ?_)
  suffices KL5 : ∀ (n9 k : Nat), k + n9 = nb → ∀ (H : Heap) (locs : List Loc), IH D cy h0 (wX cy q A S) s H → va_S (nof) s.heap H locs → ∀ ls : Array Slot, lv_has ls 5 [(4, .int (nI k)), (3, .int (nwF (A 5) name x k)), (0, .ref (q 2)), (1, .int name), (2, .int x)] → W p l e (headSpec wsX0_newestOf (rmO 3 41)).room s m ([.ref (q 2), .int name, .int x]).toArray below meth c H locs 0 0 (MQ below (roI (nwF (A 5) name x nb)) ([.ref (q 2), .int name, .int x]).toArray s 0 0 nof) (F0 m 5 ls []) by
    exact KL5 nb 0 (by omega) _ _ hI hS ls ((lv_sub hl [0, 1, 2, 3, 4] rfl))
  intro n9
  induction n9 with
  | zero =>
    intro k hk H locs hI hS ls hl
    have hk : nb = k := by omega
    subst hk
    refine lv_iload hx hb dX0_newestOf_5 (lv_at hl 0 rfl) ?_
    refine lv_aload_n hx hb dX0_newestOf_7 rfl (lv_at hl 2 rfl) ?_
    refine r_get (C := RX0) (T := TX0) (N := 10) (k := 9) (q0 := 2) (v := .int (S 5)) hx hb hts hi0 hown hI rfl rfl (by decide) (hts (.fieldLink RX0 36 "Buildlots$Builds" "count" "I") (List.mem_of_getElem? (i := 1) rfl)) rfl rfl dX0_newestOf_8 ?_
    refine lv_icmp_ge (tgt := 43) hx hb dX0_newestOf_11 (by decide) (fun c11_1 => ?_) (fun c11_1 => ?_)
    rotate_left
    · exact absurd (i_ge rfl hcb (Nat.le_refl _) (by omega)) c11_1
    refine lv_iload_n hx hb dX0_newestOf_43 rfl (lv_at hl 1 rfl) ?_
    exact end_roi hx hb hr rfl hS dX0_newestOf_44 hlk
  | succ n9 ih5 =>
    intro k hk H locs hI hS ls hl
    have hk5 : k < nb := by omega
    refine lv_iload hx hb dX0_newestOf_5 (lv_at hl 0 rfl) ?_
    refine lv_aload_n hx hb dX0_newestOf_7 rfl (lv_at hl 2 rfl) ?_
    refine r_get (C := RX0) (T := TX0) (N := 10) (k := 9) (q0 := 2) (v := .int (S 5)) hx hb hts hi0 hown hI rfl rfl (by decide) (hts (.fieldLink RX0 36 "Buildlots$Builds" "count" "I") (List.mem_of_getElem? (i := 1) rfl)) rfl rfl dX0_newestOf_8 ?_
    refine lv_icmp_ge (tgt := 43) hx hb dX0_newestOf_11 (by decide) (fun c11_2 => ?_) (fun c11_2 => ?_)
    · exact absurd c11_2 (i_nge rfl hcb (by omega) (by omega))
    refine lv_aload_n hx hb dX0_newestOf_14 rfl (lv_at hl 2 rfl) ?_
    refine r_get (C := RX0) (T := TX0) (N := 10) (k := 0) (q0 := 2) (v := .ref (q 9)) hx hb hts hi0 hown hI rfl rfl (by decide) (hts (.fieldLink RX0 9 "Buildlots$Builds" "names" "[I") (List.mem_of_getElem? (i := 2) rfl)) rfl rfl dX0_newestOf_15 ?_
    refine lv_iload hx hb dX0_newestOf_18 (lv_at hl 0 rfl) ?_
    refine r_iald (q0 := 9) (j := k) (n := 24) (f := (A 5)) hx hb hI rfl rfl (by omega) (by decide) dX0_newestOf_20 ?_
    refine lv_iload_n hx hb dX0_newestOf_21 rfl (lv_at hl 3 rfl) ?_
    refine lv_icmp_ne (tgt := 37) hx hb dX0_newestOf_22 (by decide) (fun c22_3 => ?_) (fun c22_3 => ?_)
    · refine lv_iinc (v := nI (k + 1)) (lv' := [(4, .int (nI (k + 1))), (3, .int (nwF (A 5) name x k)), (0, .ref (q 2)), (1, .int name), (2, .int x)]) hx hb dX0_newestOf_37 hl (k := 0) rfl (nI_1 k) (by decide) rfl (fun ls hl => ?_)
      refine lv_goto (tgt := 5) hx hb dX0_newestOf_40 (by decide) ?_
      rw [show (nwF (A 5) name x k) = (nwF (A 5) name x (k + 1)) from (by simp [nwF, c11_2, c22_3])] at hl
      exact ih5 (k + 1) (by omega) _ _ hI hS ls (lv_sub hl [0, 1, 2, 3, 4] rfl)
    · refine lv_iload_n hx hb dX0_newestOf_25 rfl (lv_at hl 4 rfl) ?_
      refine lv_iload hx hb dX0_newestOf_26 (lv_at hl 0 rfl) ?_
      refine ro_i (va_runSN (As := [.int x, .int (nI k)]) (rest := []) ⟨hx, hb, hml, hown, hts⟩ (c_X3_holds l x (nI k)) ⟨va_cnB (host := RX3) 2 hts gX0_newestOf_X3_holds_n47 rfl rfl rfl (hG.1.2.1 (RX0, 47, yX3_holds) (List.mem_of_getElem? (i := 14) rfl)) (hts (.initialized RX3) (List.mem_of_getElem? (i := 4) rfl)) (by decide +kernel) ⟨Nat.le_of_ble_eq_true rfl, Nat.le_of_ble_eq_true rfl⟩, (hts (.static yX3_holds) (List.mem_of_getElem? (i := 3) rfl)), trivial⟩ preT rfl rfl hl.1 rfl (lv_room (Nat.le_of_ble_eq_true rfl)) dX0_newestOf_28 ⟨Nat.le_of_ble_eq_true rfl, Nat.le_of_ble_eq_true rfl⟩) hI hS (fun H locs hI hS => ?_)
      refine r_ifeq_b (tgt := 37) hx hb dX0_newestOf_31 (by decide) (fun c31_4 => ?_) (fun c31_4 => ?_)
      · refine lv_iinc (v := nI (k + 1)) (lv' := [(4, .int (nI (k + 1))), (3, .int (nwF (A 5) name x k)), (0, .ref (q 2)), (1, .int name), (2, .int x)]) hx hb dX0_newestOf_37 hl (k := 0) rfl (nI_1 k) (by decide) rfl (fun ls hl => ?_)
        refine lv_goto (tgt := 5) hx hb dX0_newestOf_40 (by decide) ?_
        rw [show (nwF (A 5) name x k) = (nwF (A 5) name x (k + 1)) from (by simp [nwF, c11_2, c22_3, c31_4])] at hl
        exact ih5 (k + 1) (by omega) _ _ hI hS ls (lv_sub hl [0, 1, 2, 3, 4] rfl)
      · refine lv_iload hx hb dX0_newestOf_34 (lv_at hl 0 rfl) ?_
        refine lv_istore_n (lv' := [(3, .int (nI k)), (4, .int (nI k)), (0, .ref (q 2)), (1, .int name), (2, .int x)]) hx hb dX0_newestOf_36 rfl hl (by decide) rfl (fun ls hl => ?_)
        refine lv_iinc (v := nI (k + 1)) (lv' := [(4, .int (nI (k + 1))), (3, .int (nI k)), (0, .ref (q 2)), (1, .int name), (2, .int x)]) hx hb dX0_newestOf_37 hl (k := 1) rfl (nI_1 k) (by decide) rfl (fun ls hl => ?_)
        refine lv_goto (tgt := 5) hx hb dX0_newestOf_40 (by decide) ?_
        rw [show (nI k) = (nwF (A 5) name x (k + 1)) from (by simp [nwF, c11_2, c22_3, c31_4])] at hl
        exact ih5 (k + 1) (by omega) _ _ hI hS ls (lv_sub hl [0, 1, 2, 3, 4] rfl)

set_option maxHeartbeats 4000000 in
set_option maxRecDepth 100000 in
theorem c_X0_append (l : Launch) (D : va_G) (cy : Nat → ClassId) (h0 : Nat) (q : Nat → Nat) (A : Nat → Nat → Int32) (S : Nat → Int32) (name : Int32) (x : Int32) (res : Int32) (nb : Nat) (hnb : nb ≤ 24) (hcb : S 5 = nI nb) (hlt : nb < 24) : Met l yX0_append wsX0_append (rmO 4 64) (va_Pc [.ref (q 2), .int name, .int x, .int res] (pI D cy h0 (wX cy q A S))) (rwI (S 5) D cy h0 (wX cy q (uA (uA (uA (uA A 5 (upd (A 5) nb name)) 6 (upd (A 6) nb (1 + cF (upd (A 5) nb name) name nb))) 7 (upd (A 7) nb (wtF (A 7) x nb))) 8 (upd (A 8) nb res)) (uS S 5 (S 5 + 1))) (qA 19 q)) 0 0 (qA 19 q) := by
  refine Met.ofW (cc := cX0_append) (maxL := 5) (ret := (some .int)) (by decide) rfl ?_
  intro p e s m args below meth c s₁ B hml hv
  obtain ⟨rfl, hI⟩ := hv
  have hx := B.exec
  have hb := B.bytes
  have hr := B.returns
  have hts := atoms_spec (ws := wsX0_append) B.pre
  have hown : s.vm.findClass RX0 = some m.cls := findClass_of_methodNamed B.named
  have hlk := B.notSynchronized
  have hI : IH D cy h0 (wX cy q A S) s s.heap := hI
  have hG := hI.1
  have hqA := hA_X hI
  have hh0 : h0 ≤ s.heap.size := hI.1.2.2.2
  have hS : va_S nof s.heap s.heap [] := va_S.rf
  have hi0 : ∀ w ∈ wsX00, w ∈ wsX0_append := by decide +kernel
  have hl := lv_entry ([.ref (q 2), .int name, .int x, .int res]) (n := 5) (Nat.le_of_ble_eq_true rfl)
  rw [lg_entry_eq]
  generalize (lg_sl ([.ref (q 2), .int name, .int x, .int res]) ++ List.replicate (5 - (lg_sl ([.ref (q 2), .int name, .int x, .int res])).length) Slot.unset).toArray = ls at hl ⊢
  have hl : lv_has ls 5 [(0, .ref (q 2)), (1, .int name), (2, .int x), (3, .int res)] := hl
  refine lv_aload_n hx hb dX0_append_0 rfl (lv_at hl 0 rfl) ?_
  refine r_get (C := RX0) (T := TX0) (N := 10) (k := 9) (q0 := 2) (v := .int (S 5)) hx hb hts hi0 hown hI rfl rfl (by decide) (hts (.fieldLink RX0 36 "Buildlots$Builds" "count" "I") (List.mem_of_getElem? (i := 1) rfl)) rfl rfl dX0_append_1 ?_
  refine lv_istore (lv' := [(4, .int (S 5)), (0, .ref (q 2)), (1, .int name), (2, .int x), (3, .int res)]) hx hb dX0_append_4 hl (by decide) rfl (fun ls hl => ?_)
  refine lv_aload_n hx hb dX0_append_6 rfl (lv_at hl 1 rfl) ?_
  refine r_get (C := RX0) (T := TX0) (N := 10) (k := 0) (q0 := 2) (v := .ref (q 9)) hx hb hts hi0 hown hI rfl rfl (by decide) (hts (.fieldLink RX0 9 "Buildlots$Builds" "names" "[I") (List.mem_of_getElem? (i := 2) rfl)) rfl rfl dX0_append_7 ?_
  refine lv_iload hx hb dX0_append_10 (lv_at hl 0 rfl) ?_
  refine lv_iload_n hx hb dX0_append_12 rfl (lv_at hl 2 rfl) ?_
  have hS := hS.mono (B := qA 19 q) (fun _ h => h.elim)
  refine r_iast (w' := wX cy q (uA A 5 (upd (A 5) nb name)) S) (q0 := 9) (j := nb) (n := 24) (f := (A 5)) hx hb hI hS hqA hh0 (qA_X hI) rfl hcb (by omega) (by decide) dX0_append_13 rfl (fun H locs hI hS => ?_)
  refine lv_aload_n hx hb dX0_append_14 rfl (lv_at hl 1 rfl) ?_
  refine r_get (C := RX0) (T := TX0) (N := 10) (k := 1) (q0 := 2) (v := .ref (q 10)) hx hb hts hi0 hown hI rfl rfl (by decide) (hts (.fieldLink RX0 15 "Buildlots$Builds" "versions" "[I") (List.mem_of_getElem? (i := 3) rfl)) rfl rfl dX0_append_15 ?_
  refine lv_iload hx hb dX0_append_18 (lv_at hl 0 rfl) ?_
  refine lv_iconst (v := 1) hx hb dX0_append_20 (by decide) ?_
  refine lv_aload_n hx hb dX0_append_21 rfl (lv_at hl 1 rfl) ?_
  refine lv_iload_n hx hb dX0_append_22 rfl (lv_at hl 2 rfl) ?_
  refine ro_i (va_runV (As := [.int name]) (rest := [.int 1, .int (S 5), .ref (q 10)]) ⟨hx, hb, hml, hown, hts⟩ (c_X0_countOf l D cy h0 q (uA A 5 (upd (A 5) nb name)) S name nb hnb hcb) (cwV 1 hts gX0_append_X0_countOf rfl rfl rfl (by decide +kernel) ⟨Nat.le_of_ble_eq_true rfl, Nat.le_of_ble_eq_true rfl⟩) (hI.preV (k0 := 2) rfl rfl) rfl rfl hl.1 rfl (lv_room (Nat.le_of_ble_eq_true rfl)) dX0_append_23 ⟨Nat.le_of_ble_eq_true rfl, Nat.le_of_ble_eq_true rfl⟩) hI hS (fun H locs hI hS => ?_)
  refine lv_iadd hx hb dX0_append_26 ?_
  refine r_iast (w' := wX cy q (uA (uA A 5 (upd (A 5) nb name)) 6 (upd (A 6) nb (1 + (cF ((uA A 5 (upd (A 5) nb name)) 5) name nb)))) S) (q0 := 10) (j := nb) (n := 24) (f := (A 6)) hx hb hI hS hqA hh0 (qA_X hI) rfl hcb (by omega) (by decide) dX0_append_27 rfl (fun H locs hI hS => ?_)
  refine lv_aload_n hx hb dX0_append_28 rfl (lv_at hl 1 rfl) ?_
  refine r_get (C := RX0) (T := TX0) (N := 10) (k := 2) (q0 := 2) (v := .ref (q 11)) hx hb hts hi0 hown hI rfl rfl (by decide) (hts (.fieldLink RX0 18 "Buildlots$Builds" "sources" "[I") (List.mem_of_getElem? (i := 4) rfl)) rfl rfl dX0_append_29 ?_
  refine lv_iload hx hb dX0_append_32 (lv_at hl 0 rfl) ?_
  refine lv_aload_n hx hb dX0_append_34 rfl (lv_at hl 1 rfl) ?_
  refine lv_iload_n hx hb dX0_append_35 rfl (lv_at hl 3 rfl) ?_
  refine ro_i (va_runV (As := [.int x]) (rest := [.int (S 5), .ref (q 11)]) ⟨hx, hb, hml, hown, hts⟩ (c_X0_withTheirSources l D cy h0 q (uA (uA A 5 (upd (A 5) nb name)) 6 (upd (A 6) nb (1 + (cF ((uA A 5 (upd (A 5) nb name)) 5) name nb)))) S x nb hnb hcb) (cwV 1 hts gX0_append_X0_withTheirSources rfl rfl rfl (by decide +kernel) ⟨Nat.le_of_ble_eq_true rfl, Nat.le_of_ble_eq_true rfl⟩) (hI.preV (k0 := 2) rfl rfl) rfl rfl hl.1 rfl (lv_room (Nat.le_of_ble_eq_true rfl)) dX0_append_36 ⟨Nat.le_of_ble_eq_true rfl, Nat.le_of_ble_eq_true rfl⟩) hI hS (fun H locs hI hS => ?_)
  refine r_iast (w' := wX cy q (uA (uA (uA A 5 (upd (A 5) nb name)) 6 (upd (A 6) nb (1 + (cF ((uA A 5 (upd (A 5) nb name)) 5) name nb)))) 7 (upd (A 7) nb (wtF ((uA (uA A 5 (upd (A 5) nb name)) 6 (upd (A 6) nb (1 + (cF ((uA A 5 (upd (A 5) nb name)) 5) name nb)))) 7) x nb))) S) (q0 := 11) (j := nb) (n := 24) (f := (A 7)) hx hb hI hS hqA hh0 (qA_X hI) rfl hcb (by omega) (by decide) dX0_append_39 rfl (fun H locs hI hS => ?_)
  refine lv_aload_n hx hb dX0_append_40 rfl (lv_at hl 1 rfl) ?_
  refine r_get (C := RX0) (T := TX0) (N := 10) (k := 3) (q0 := 2) (v := .ref (q 12)) hx hb hts hi0 hown hI rfl rfl (by decide) (hts (.fieldLink RX0 21 "Buildlots$Builds" "results" "[I") (List.mem_of_getElem? (i := 5) rfl)) rfl rfl dX0_append_41 ?_
  refine lv_iload hx hb dX0_append_44 (lv_at hl 0 rfl) ?_
  refine lv_iload_n hx hb dX0_append_46 rfl (lv_at hl 4 rfl) ?_
  refine r_iast (w' := wX cy q (uA (uA (uA (uA A 5 (upd (A 5) nb name)) 6 (upd (A 6) nb (1 + (cF ((uA A 5 (upd (A 5) nb name)) 5) name nb)))) 7 (upd (A 7) nb (wtF ((uA (uA A 5 (upd (A 5) nb name)) 6 (upd (A 6) nb (1 + (cF ((uA A 5 (upd (A 5) nb name)) 5) name nb)))) 7) x nb))) 8 (upd (A 8) nb res)) S) (q0 := 12) (j := nb) (n := 24) (f := (A 8)) hx hb hI hS hqA hh0 (qA_X hI) rfl hcb (by omega) (by decide) dX0_append_47 rfl (fun H locs hI hS => ?_)
  refine lv_aload_n hx hb dX0_append_48 rfl (lv_at hl 1 rfl) ?_
  refine lv_dup hx hb dX0_append_49 rfl ?_
  refine r_get (C := RX0) (T := TX0) (N := 10) (k := 9) (q0 := 2) (v := .int (S 5)) hx hb hts hi0 hown hI rfl rfl (by decide) (hts (.fieldLink RX0 36 "Buildlots$Builds" "count" "I") (List.mem_of_getElem? (i := 1) rfl)) rfl rfl dX0_append_50 ?_
  refine lv_iconst (v := 1) hx hb dX0_append_53 (by decide) ?_
  refine lv_iadd hx hb dX0_append_54 ?_
  refine r_put (w' := wX cy q (uA (uA (uA (uA A 5 (upd (A 5) nb name)) 6 (upd (A 6) nb (1 + (cF ((uA A 5 (upd (A 5) nb name)) 5) name nb)))) 7 (upd (A 7) nb (wtF ((uA (uA A 5 (upd (A 5) nb name)) 6 (upd (A 6) nb (1 + (cF ((uA A 5 (upd (A 5) nb name)) 5) name nb)))) 7) x nb))) 8 (upd (A 8) nb res)) (uS S 5 ((S 5) + 1))) (C := RX0) (T := TX0) (N := 10) (k := 9) (q0 := 2) (ty := .int) (v := .int ((S 5) + 1)) hx hb hts hi0 tyX0_ok nmX0 hown hI hS hqA hh0 (qA_X hI) rfl rfl (by decide) (hts (.fieldLink RX0 36 "Buildlots$Builds" "count" "I") (List.mem_of_getElem? (i := 1) rfl)) rfl rfl (by decide +kernel) rfl rfl (Nat.le_of_ble_eq_true rfl) dX0_append_55 rfl (fun H locs hI hS => ?_)
  refine lv_iload hx hb dX0_append_58 (lv_at hl 0 rfl) ?_
  rw [show wX cy q (uA (uA (uA (uA A 5 (upd (A 5) nb name)) 6 (upd (A 6) nb (1 + (cF ((uA A 5 (upd (A 5) nb name)) 5) name nb)))) 7 (upd (A 7) nb (wtF ((uA (uA A 5 (upd (A 5) nb name)) 6 (upd (A 6) nb (1 + (cF ((uA A 5 (upd (A 5) nb name)) 5) name nb)))) 7) x nb))) 8 (upd (A 8) nb res)) (uS S 5 ((S 5) + 1)) = wX cy q (uA (uA (uA (uA A 5 (upd (A 5) nb name)) 6 (upd (A 6) nb (1 + cF (upd (A 5) nb name) name nb))) 7 (upd (A 7) nb (wtF (A 7) x nb))) 8 (upd (A 8) nb res)) (uS S 5 (S 5 + 1)) from rfl] at hI
  exact end_rwi hx hb hr rfl hI hS dX0_append_60 hlk

set_option maxHeartbeats 4000000 in
set_option maxRecDepth 100000 in
theorem c_X0_keepVouchers (l : Launch) (D : va_G) (cy : Nat → ClassId) (h0 : Nat) (q : Nat → Nat) (A : Nat → Nat → Int32) (S : Nat → Int32) (day : Int32) (nk : Nat) (hnk : nk ≤ 8) (hck : S 3 = nI nk) (nb : Nat) (hnb : nb ≤ 24) (hcb : S 5 = nI nb) : Met l yX0_keepVouchers wsX0_keepVouchers (rmO 5 86) (va_Pc [.ref (q 2), .ref (q 1), .int day] (pI D cy h0 (wX cy q A S))) (rwV D cy h0 (wX cy q (uA A 10 (kvF A S day nk nb)) S) (qA 19 q)) 0 0 (qA 19 q) := by
  refine Met.ofW (cc := cX0_keepVouchers) (maxL := 5) (ret := none) (by decide) rfl ?_
  intro p e s m args below meth c s₁ B hml hv
  obtain ⟨rfl, hI⟩ := hv
  have hx := B.exec
  have hb := B.bytes
  have hr := B.returns
  have hts := atoms_spec (ws := wsX0_keepVouchers) B.pre
  have hown : s.vm.findClass RX0 = some m.cls := findClass_of_methodNamed B.named
  have hlk := B.notSynchronized
  have hI : IH D cy h0 (wX cy q A S) s s.heap := hI
  have hG := hI.1
  have hqA := hA_X hI
  have hh0 : h0 ≤ s.heap.size := hI.1.2.2.2
  have hS : va_S nof s.heap s.heap [] := va_S.rf
  have hi0 : ∀ w ∈ wsX00, w ∈ wsX0_keepVouchers := by decide +kernel
  have hi1 : ∀ w ∈ wsX10, w ∈ wsX0_keepVouchers := by decide +kernel
  have hl := lv_entry ([.ref (q 2), .ref (q 1), .int day]) (n := 5) (Nat.le_of_ble_eq_true rfl)
  rw [lg_entry_eq]
  generalize (lg_sl ([.ref (q 2), .ref (q 1), .int day]) ++ List.replicate (5 - (lg_sl ([.ref (q 2), .ref (q 1), .int day])).length) Slot.unset).toArray = ls at hl ⊢
  have hl : lv_has ls 5 [(0, .ref (q 2)), (1, .ref (q 1)), (2, .int day)] := hl
  refine lv_aload_n hx hb dX0_keepVouchers_0 rfl (lv_at hl 1 rfl) ?_
  refine lv_iload_n hx hb dX0_keepVouchers_1 rfl (lv_at hl 2 rfl) ?_
  refine ro_i (va_runVN (As := [.int day]) (rest := []) ⟨hx, hb, hml, hown, hts⟩ (c_X1_live l D cy h0 q A S day nk hnk hck) ⟨va_cnB (host := RX3) 1 hts gX0_keepVouchers_X1_live_n57 rfl rfl rfl (hG.1.2.1 (RX0, 57, yX1_live) (List.mem_of_getElem? (i := 5) rfl)) (hts (.initialized RX1) (List.mem_of_getElem? (i := 5) rfl)) (by decide +kernel) ⟨Nat.le_of_ble_eq_true rfl, Nat.le_of_ble_eq_true rfl⟩, (hts (.instanceMethod yX1_live) (List.mem_of_getElem? (i := 4) rfl)), (hts (.selects RX1 yX1_live yX1_live) (List.mem_of_getElem? (i := 6) rfl))⟩ (hI.preV (k0 := 1) rfl rfl) rfl rfl hl.1 rfl (lv_room (Nat.le_of_ble_eq_true rfl)) dX0_keepVouchers_2 ⟨Nat.le_of_ble_eq_true rfl, Nat.le_of_ble_eq_true rfl⟩) hI hS (fun H locs hI hS => ?_)
  refine lv_istore_n (lv' := [(3, .int (liveF A S day nk)), (0, .ref (q 2)), (1, .ref (q 1)), (2, .int day)]) hx hb dX0_keepVouchers_5 rfl hl (by decide) rfl (fun ls hl => ?_)
  refine lv_iconst (v := 0) hx hb dX0_keepVouchers_6 (by decide) ?_
  refine lv_istore (lv' := [(4, .int 0), (3, .int (liveF A S day nk)), (0, .ref (q 2)), (1, .ref (q 1)), (2, .int day)]) hx hb dX0_keepVouchers_7 hl (by decide) rfl (fun ls hl => ?_)
  have hS := hS.mono (B := qA 19 q) (fun _ h => h.elim)
  suffices KL9 : ∀ (n9 k : Nat), k + n9 = nb → ∀ (H : Heap) (locs : List Loc), IH D cy h0 (wX cy q (uA A 10 (kvF A S day nk k)) S) s H → va_S (qA 19 q) s.heap H locs → ∀ ls : Array Slot, lv_has ls 5 [(4, .int (nI k)), (3, .int (liveF A S day nk)), (0, .ref (q 2)), (1, .ref (q 1)), (2, .int day)] → W p l e (headSpec wsX0_keepVouchers (rmO 5 86)).room s m ([.ref (q 2), .ref (q 1), .int day]).toArray below meth c H locs 0 0 (MQ below (rwV D cy h0 (wX cy q (uA A 10 (kvF A S day nk nb)) S) (qA 19 q)) ([.ref (q 2), .ref (q 1), .int day]).toArray s 0 0 (qA 19 q)) (F0 m 9 ls []) by
    rw [← kv_0 A S day nk] at hI
    exact KL9 nb 0 (by omega) _ _ hI hS ls ((lv_sub hl [0, 1, 2, 3, 4] rfl))
  intro n9
  induction n9 with
  | zero =>
    intro k hk H locs hI hS ls hl
    have hk : nb = k := by omega
    subst hk
    refine lv_iload hx hb dX0_keepVouchers_9 (lv_at hl 0 rfl) ?_
    refine lv_aload_n hx hb dX0_keepVouchers_11 rfl (lv_at hl 2 rfl) ?_
    refine r_get (C := RX0) (T := TX0) (N := 10) (k := 9) (q0 := 2) (v := .int (S 5)) hx hb hts hi0 hown hI rfl rfl (by decide) (hts (.fieldLink RX0 36 "Buildlots$Builds" "count" "I") (List.mem_of_getElem? (i := 1) rfl)) rfl rfl dX0_keepVouchers_12 ?_
    refine lv_icmp_ge (tgt := 44) hx hb dX0_keepVouchers_15 (by decide) (fun c15_1 => ?_) (fun c15_1 => ?_)
    rotate_left
    · exact absurd (i_ge rfl hcb (Nat.le_refl _) (by omega)) c15_1
    exact end_rwv hx hb hr hI hS dX0_keepVouchers_44 hlk
  | succ n9 ih9 =>
    intro k hk H locs hI hS ls hl
    have hk9 : k < nb := by omega
    refine lv_iload hx hb dX0_keepVouchers_9 (lv_at hl 0 rfl) ?_
    refine lv_aload_n hx hb dX0_keepVouchers_11 rfl (lv_at hl 2 rfl) ?_
    refine r_get (C := RX0) (T := TX0) (N := 10) (k := 9) (q0 := 2) (v := .int (S 5)) hx hb hts hi0 hown hI rfl rfl (by decide) (hts (.fieldLink RX0 36 "Buildlots$Builds" "count" "I") (List.mem_of_getElem? (i := 1) rfl)) rfl rfl dX0_keepVouchers_12 ?_
    refine lv_icmp_ge (tgt := 44) hx hb dX0_keepVouchers_15 (by decide) (fun c15_2 => ?_) (fun c15_2 => ?_)
    · exact absurd c15_2 (i_nge rfl hcb (by omega) (by omega))
    refine lv_aload_n hx hb dX0_keepVouchers_18 rfl (lv_at hl 2 rfl) ?_
    refine r_get (C := RX0) (T := TX0) (N := 10) (k := 5) (q0 := 2) (v := .ref (q 14)) hx hb hts hi0 hown hI rfl rfl (by decide) (hts (.fieldLink RX0 27 "Buildlots$Builds" "vouchers" "[I") (List.mem_of_getElem? (i := 2) rfl)) rfl rfl dX0_keepVouchers_19 ?_
    refine lv_iload hx hb dX0_keepVouchers_22 (lv_at hl 0 rfl) ?_
    refine lv_aload_n hx hb dX0_keepVouchers_24 rfl (lv_at hl 3 rfl) ?_
    refine lv_aload_n hx hb dX0_keepVouchers_25 rfl (lv_at hl 2 rfl) ?_
    refine r_get (C := RX0) (T := TX0) (N := 10) (k := 4) (q0 := 2) (v := .ref (q 13)) hx hb hts hi0 hown hI rfl rfl (by decide) (hts (.fieldLink RX0 24 "Buildlots$Builds" "attesters" "[I") (List.mem_of_getElem? (i := 3) rfl)) rfl rfl dX0_keepVouchers_26 ?_
    refine lv_iload hx hb dX0_keepVouchers_29 (lv_at hl 0 rfl) ?_
    refine r_iald (q0 := 13) (j := k) (n := 24) (f := (A 9)) hx hb hI rfl rfl (by omega) (by decide) dX0_keepVouchers_31 ?_
    refine lv_iload_n hx hb dX0_keepVouchers_32 rfl (lv_at hl 1 rfl) ?_
    refine lv_iand hx hb dX0_keepVouchers_33 ?_
    refine ro_i (va_runVN (As := [.int ((A 9 k) &&& (liveF A S day nk))]) (rest := [.int (nI k), .ref (q 14)]) ⟨hx, hb, hml, hown, hts⟩ (c_X1_signersOf l D cy h0 q (uA A 10 (kvF A S day nk k)) S ((A 9 k) &&& (liveF A S day nk)) nk hnk hck) ⟨va_cnB (host := RX3) 1 hts gX0_keepVouchers_X1_signersOf_n62 rfl rfl rfl (hG.1.2.1 (RX0, 62, yX1_signersOf) (List.mem_of_getElem? (i := 8) rfl)) (hts (.initialized RX1) (List.mem_of_getElem? (i := 5) rfl)) (by decide +kernel) ⟨Nat.le_of_ble_eq_true rfl, Nat.le_of_ble_eq_true rfl⟩, (hts (.instanceMethod yX1_signersOf) (List.mem_of_getElem? (i := 22) rfl)), (hts (.selects RX1 yX1_signersOf yX1_signersOf) (List.mem_of_getElem? (i := 23) rfl))⟩ (hI.preV (k0 := 1) rfl rfl) rfl rfl hl.1 rfl (lv_room (Nat.le_of_ble_eq_true rfl)) dX0_keepVouchers_34 ⟨Nat.le_of_ble_eq_true rfl, Nat.le_of_ble_eq_true rfl⟩) hI hS (fun H locs hI hS => ?_)
    refine r_iast (w' := wX cy q (uA (uA A 10 (kvF A S day nk k)) 10 (upd (kvF A S day nk k) k (sgF ((uA A 10 (kvF A S day nk k)) 2) ((A 9 k) &&& (liveF A S day nk)) nk))) S) (q0 := 14) (j := k) (n := 24) (f := (kvF A S day nk k)) hx hb hI hS hqA hh0 (qA_X hI) rfl rfl (by omega) (by decide) dX0_keepVouchers_37 rfl (fun H locs hI hS => ?_)
    rw [show wX cy q (uA (uA A 10 (kvF A S day nk k)) 10 (upd (kvF A S day nk k) k (sgF ((uA A 10 (kvF A S day nk k)) 2) ((A 9 k) &&& (liveF A S day nk)) nk))) S = wX cy q (uA A 10 (kvF A S day nk (k + 1))) S from (wX_A ((uA_uA _ _ _ _).trans (congrArg _ (kv_step A S day nk k))) rfl)] at hI
    refine lv_iinc (v := nI (k + 1)) (lv' := [(4, .int (nI (k + 1))), (3, .int (liveF A S day nk)), (0, .ref (q 2)), (1, .ref (q 1)), (2, .int day)]) hx hb dX0_keepVouchers_38 hl (k := 0) rfl (nI_1 k) (by decide) rfl (fun ls hl => ?_)
    refine lv_goto (tgt := 9) hx hb dX0_keepVouchers_41 (by decide) ?_
    exact ih9 (k + 1) (by omega) _ _ hI hS ls (lv_sub hl [0, 1, 2, 3, 4] rfl)

set_option maxHeartbeats 4000000 in
set_option maxRecDepth 100000 in
theorem c_X2_append (l : Launch) (D : va_G) (cy : Nat → ClassId) (h0 : Nat) (q : Nat → Nat) (A : Nat → Nat → Int32) (S : Nat → Int32) (nm : Nat) (hnm : nm ≤ 3) (hcm : S 6 = nI nm) (hlt : nm < 3) : Met l yX2_append wsX2_append (rmO 1 0) (va_Pc [.ref (q 3)] (pI D cy h0 (wX cy q A S))) (rwI (S 6) D cy h0 (wX cy q (uA (uA A 13 (upd (A 13) nm (-1))) 14 (upd (A 14) nm 0)) (uS S 6 (S 6 + 1))) (qA 19 q)) 0 0 (qA 19 q) := by
  refine Met.ofW (cc := cX2_append) (maxL := 2) (ret := (some .int)) (by decide) rfl ?_
  intro p e s m args below meth c s₁ B hml hv
  obtain ⟨rfl, hI⟩ := hv
  have hx := B.exec
  have hb := B.bytes
  have hr := B.returns
  have hts := atoms_spec (ws := wsX2_append) B.pre
  have hown : s.vm.findClass RX2 = some m.cls := findClass_of_methodNamed B.named
  have hlk := B.notSynchronized
  have hI : IH D cy h0 (wX cy q A S) s s.heap := hI
  have hG := hI.1
  have hqA := hA_X hI
  have hh0 : h0 ≤ s.heap.size := hI.1.2.2.2
  have hS : va_S nof s.heap s.heap [] := va_S.rf
  have hi2 : ∀ w ∈ wsX20, w ∈ wsX2_append := by decide +kernel
  have hl := lv_entry ([.ref (q 3)]) (n := 2) (Nat.le_of_ble_eq_true rfl)
  rw [lg_entry_eq]
  generalize (lg_sl ([.ref (q 3)]) ++ List.replicate (2 - (lg_sl ([.ref (q 3)])).length) Slot.unset).toArray = ls at hl ⊢
  have hl : lv_has ls 2 [(0, .ref (q 3))] := hl
  refine lv_aload_n hx hb dX2_append_0 rfl (lv_at hl 0 rfl) ?_
  refine r_get (C := RX2) (T := TX2) (N := 3) (k := 2) (q0 := 3) (v := .int (S 6)) hx hb hts hi2 hown hI rfl rfl (by decide) (hts (.fieldLink RX2 18 "Buildlots$Mirrors" "count" "I") (List.mem_of_getElem? (i := 1) rfl)) rfl rfl dX2_append_1 ?_
  refine lv_istore_n (lv' := [(1, .int (S 6)), (0, .ref (q 3))]) hx hb dX2_append_4 rfl hl (by decide) rfl (fun ls hl => ?_)
  refine lv_aload_n hx hb dX2_append_5 rfl (lv_at hl 1 rfl) ?_
  refine r_get (C := RX2) (T := TX2) (N := 3) (k := 0) (q0 := 3) (v := .ref (q 17)) hx hb hts hi2 hown hI rfl rfl (by decide) (hts (.fieldLink RX2 9 "Buildlots$Mirrors" "updatedOn" "[I") (List.mem_of_getElem? (i := 2) rfl)) rfl rfl dX2_append_6 ?_
  refine lv_iload_n hx hb dX2_append_9 rfl (lv_at hl 0 rfl) ?_
  refine lv_iconst (v := (-1)) hx hb dX2_append_10 (by decide) ?_
  have hS := hS.mono (B := qA 19 q) (fun _ h => h.elim)
  refine r_iast (w' := wX cy q (uA A 13 (upd (A 13) nm (-1))) S) (q0 := 17) (j := nm) (n := 3) (f := (A 13)) hx hb hI hS hqA hh0 (qA_X hI) rfl hcm hlt (by decide) dX2_append_11 rfl (fun H locs hI hS => ?_)
  refine lv_aload_n hx hb dX2_append_12 rfl (lv_at hl 1 rfl) ?_
  refine r_get (C := RX2) (T := TX2) (N := 3) (k := 1) (q0 := 3) (v := .ref (q 18)) hx hb hts hi2 hown hI rfl rfl (by decide) (hts (.fieldLink RX2 15 "Buildlots$Mirrors" "offered" "[I") (List.mem_of_getElem? (i := 3) rfl)) rfl rfl dX2_append_13 ?_
  refine lv_iload_n hx hb dX2_append_16 rfl (lv_at hl 0 rfl) ?_
  refine lv_iconst (v := 0) hx hb dX2_append_17 (by decide) ?_
  refine r_iast (w' := wX cy q (uA (uA A 13 (upd (A 13) nm (-1))) 14 (upd (A 14) nm 0)) S) (q0 := 18) (j := nm) (n := 3) (f := (A 14)) hx hb hI hS hqA hh0 (qA_X hI) rfl hcm hlt (by decide) dX2_append_18 rfl (fun H locs hI hS => ?_)
  refine lv_aload_n hx hb dX2_append_19 rfl (lv_at hl 1 rfl) ?_
  refine lv_dup hx hb dX2_append_20 rfl ?_
  refine r_get (C := RX2) (T := TX2) (N := 3) (k := 2) (q0 := 3) (v := .int (S 6)) hx hb hts hi2 hown hI rfl rfl (by decide) (hts (.fieldLink RX2 18 "Buildlots$Mirrors" "count" "I") (List.mem_of_getElem? (i := 1) rfl)) rfl rfl dX2_append_21 ?_
  refine lv_iconst (v := 1) hx hb dX2_append_24 (by decide) ?_
  refine lv_iadd hx hb dX2_append_25 ?_
  refine r_put (w' := wX cy q (uA (uA A 13 (upd (A 13) nm (-1))) 14 (upd (A 14) nm 0)) (uS S 6 ((S 6) + 1))) (C := RX2) (T := TX2) (N := 3) (k := 2) (q0 := 3) (ty := .int) (v := .int ((S 6) + 1)) hx hb hts hi2 tyX2_ok nmX2 hown hI hS hqA hh0 (qA_X hI) rfl rfl (by decide) (hts (.fieldLink RX2 18 "Buildlots$Mirrors" "count" "I") (List.mem_of_getElem? (i := 1) rfl)) rfl rfl (by decide +kernel) rfl rfl (Nat.le_of_ble_eq_true rfl) dX2_append_26 rfl (fun H locs hI hS => ?_)
  refine lv_iload_n hx hb dX2_append_29 rfl (lv_at hl 0 rfl) ?_
  rw [show wX cy q (uA (uA A 13 (upd (A 13) nm (-1))) 14 (upd (A 14) nm 0)) (uS S 6 ((S 6) + 1)) = wX cy q (uA (uA A 13 (upd (A 13) nm (-1))) 14 (upd (A 14) nm 0)) (uS S 6 (S 6 + 1)) from rfl] at hI
  exact end_rwi hx hb hr rfl hI hS dX2_append_30 hlk
end
