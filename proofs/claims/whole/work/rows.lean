section
-- ===== PART A: goes FIRST, ahead of the names: the tables' words, and 'selects' of the private methods out of them =====
/-- a private method of a class that the tables say can be made, by its rows of tables_1 -/
def lw_okq (q : MethodName × Nat) : Prop := (q.1.cls ≠ "java/lang/invoke/MethodHandle" ∧ q.1.cls ≠ "java/lang/invoke/VarHandle") ∧ Cond.instantiable q.1.cls q.2 ∈ tables_1 ∧ Cond.privateMethod q.1 ∈ tables_1 ∧ Cond.instanceMethod q.1 ∈ tables_1
theorem lw_p0 : lw_okq (⟨"IslandParser", "readWordAt", "(I)I"⟩, 6) := ⟨⟨by decide +kernel, by decide +kernel⟩, List.mem_of_getElem? (i := 16) (by decide +kernel), List.mem_of_getElem? (i := 215) (by decide +kernel), List.mem_of_getElem? (i := 216) (by decide +kernel)⟩
theorem lw_p1 : lw_okq (⟨"IslandParser", "takesWord", "(III)Z"⟩, 6) := ⟨⟨by decide +kernel, by decide +kernel⟩, List.mem_of_getElem? (i := 16) (by decide +kernel), List.mem_of_getElem? (i := 224) (by decide +kernel), List.mem_of_getElem? (i := 225) (by decide +kernel)⟩
theorem lw_p2 : lw_okq (⟨"IslandParser$Kinds", "kindsWith", "([II)I"⟩, 5) := ⟨⟨by decide +kernel, by decide +kernel⟩, List.mem_of_getElem? (i := 45) (by decide +kernel), List.mem_of_getElem? (i := 256) (by decide +kernel), List.mem_of_getElem? (i := 257) (by decide +kernel)⟩
theorem lw_p3 : lw_okq (⟨"IslandParser", "takesOuterClosing", "(III)Z"⟩, 6) := ⟨⟨by decide +kernel, by decide +kernel⟩, List.mem_of_getElem? (i := 16) (by decide +kernel), List.mem_of_getElem? (i := 275) (by decide +kernel), List.mem_of_getElem? (i := 276) (by decide +kernel)⟩
theorem lw_p4 : lw_okq (⟨"IslandParser", "islandsInsideClosedBy", "(I)I"⟩, 6) := ⟨⟨by decide +kernel, by decide +kernel⟩, List.mem_of_getElem? (i := 16) (by decide +kernel), List.mem_of_getElem? (i := 279) (by decide +kernel), List.mem_of_getElem? (i := 280) (by decide +kernel)⟩
theorem lw_p5 : lw_okq (⟨"IslandParser", "giveUp", "(III)V"⟩, 6) := ⟨⟨by decide +kernel, by decide +kernel⟩, List.mem_of_getElem? (i := 16) (by decide +kernel), List.mem_of_getElem? (i := 284) (by decide +kernel), List.mem_of_getElem? (i := 285) (by decide +kernel)⟩
theorem lw_p6 : lw_okq (⟨"IslandParser$Marks", "findAt", "(LIslandParser$Text;LIslandParser$Kinds;I)I"⟩, 5) := ⟨⟨by decide +kernel, by decide +kernel⟩, List.mem_of_getElem? (i := 125) (by decide +kernel), List.mem_of_getElem? (i := 297) (by decide +kernel), List.mem_of_getElem? (i := 298) (by decide +kernel)⟩
theorem lw_p7 : lw_okq (⟨"IslandParser$BestReader", "fillStretchesTo", "(IILIslandParser$Marks;LIslandParser$Kinds;)V"⟩, 2) := ⟨⟨by decide +kernel, by decide +kernel⟩, List.mem_of_getElem? (i := 154) (by decide +kernel), List.mem_of_getElem? (i := 312) (by decide +kernel), List.mem_of_getElem? (i := 313) (by decide +kernel)⟩
theorem lw_p8 : lw_okq (⟨"IslandParser$BestReader", "keep", "(IIII)V"⟩, 2) := ⟨⟨by decide +kernel, by decide +kernel⟩, List.mem_of_getElem? (i := 154) (by decide +kernel), List.mem_of_getElem? (i := 317) (by decide +kernel), List.mem_of_getElem? (i := 318) (by decide +kernel)⟩
theorem lw_p9 : lw_okq (⟨"IslandParser$BestReader", "fewest", "(III)I"⟩, 2) := ⟨⟨by decide +kernel, by decide +kernel⟩, List.mem_of_getElem? (i := 154) (by decide +kernel), List.mem_of_getElem? (i := 323) (by decide +kernel), List.mem_of_getElem? (i := 324) (by decide +kernel)⟩
theorem lw_p10 : lw_okq (⟨"IslandParser$BestReader", "fewestIfOpening", "(IIIILIslandParser$Marks;LIslandParser$Kinds;)I"⟩, 2) := ⟨⟨by decide +kernel, by decide +kernel⟩, List.mem_of_getElem? (i := 154) (by decide +kernel), List.mem_of_getElem? (i := 327) (by decide +kernel), List.mem_of_getElem? (i := 328) (by decide +kernel)⟩
theorem lw_p11 : lw_okq (⟨"IslandParser$BestReader", "fewestBetween", "(IIILIslandParser$Kinds;)I"⟩, 2) := ⟨⟨by decide +kernel, by decide +kernel⟩, List.mem_of_getElem? (i := 154) (by decide +kernel), List.mem_of_getElem? (i := 331) (by decide +kernel), List.mem_of_getElem? (i := 332) (by decide +kernel)⟩
theorem lw_p12 : lw_okq (⟨"IslandParser$BestReader", "fewestInside", "(IIILIslandParser$Kinds;)I"⟩, 2) := ⟨⟨by decide +kernel, by decide +kernel⟩, List.mem_of_getElem? (i := 154) (by decide +kernel), List.mem_of_getElem? (i := 335) (by decide +kernel), List.mem_of_getElem? (i := 336) (by decide +kernel)⟩
theorem lw_p13 : lw_okq (⟨"IslandParser$BestReader", "beginAt", "(IILIslandParser$Marks;LIslandParser$Kinds;LIslandParser$Islands;)V"⟩, 2) := ⟨⟨by decide +kernel, by decide +kernel⟩, List.mem_of_getElem? (i := 154) (by decide +kernel), List.mem_of_getElem? (i := 349) (by decide +kernel), List.mem_of_getElem? (i := 350) (by decide +kernel)⟩
theorem lw_p14 : lw_okq (⟨"IslandParser$BestReader", "bestPartner", "(IIIILIslandParser$Marks;LIslandParser$Kinds;)I"⟩, 2) := ⟨⟨by decide +kernel, by decide +kernel⟩, List.mem_of_getElem? (i := 154) (by decide +kernel), List.mem_of_getElem? (i := 354) (by decide +kernel), List.mem_of_getElem? (i := 355) (by decide +kernel)⟩
theorem lw_p15 : lw_okq (⟨"IslandParser", "withIslands", "(J)J"⟩, 6) := ⟨⟨by decide +kernel, by decide +kernel⟩, List.mem_of_getElem? (i := 16) (by decide +kernel), List.mem_of_getElem? (i := 377) (by decide +kernel), List.mem_of_getElem? (i := 378) (by decide +kernel)⟩
def lw_privs_1 : List (MethodName × Nat) := [(⟨"IslandParser", "readWordAt", "(I)I"⟩, 6), (⟨"IslandParser", "takesWord", "(III)Z"⟩, 6), (⟨"IslandParser$Kinds", "kindsWith", "([II)I"⟩, 5), (⟨"IslandParser", "takesOuterClosing", "(III)Z"⟩, 6), (⟨"IslandParser", "islandsInsideClosedBy", "(I)I"⟩, 6), (⟨"IslandParser", "giveUp", "(III)V"⟩, 6), (⟨"IslandParser$Marks", "findAt", "(LIslandParser$Text;LIslandParser$Kinds;I)I"⟩, 5), (⟨"IslandParser$BestReader", "fillStretchesTo", "(IILIslandParser$Marks;LIslandParser$Kinds;)V"⟩, 2), (⟨"IslandParser$BestReader", "keep", "(IIII)V"⟩, 2), (⟨"IslandParser$BestReader", "fewest", "(III)I"⟩, 2), (⟨"IslandParser$BestReader", "fewestIfOpening", "(IIIILIslandParser$Marks;LIslandParser$Kinds;)I"⟩, 2), (⟨"IslandParser$BestReader", "fewestBetween", "(IIILIslandParser$Kinds;)I"⟩, 2), (⟨"IslandParser$BestReader", "fewestInside", "(IIILIslandParser$Kinds;)I"⟩, 2), (⟨"IslandParser$BestReader", "beginAt", "(IILIslandParser$Marks;LIslandParser$Kinds;LIslandParser$Islands;)V"⟩, 2), (⟨"IslandParser$BestReader", "bestPartner", "(IIIILIslandParser$Marks;LIslandParser$Kinds;)I"⟩, 2), (⟨"IslandParser", "withIslands", "(J)J"⟩, 6)]
theorem lw_r1 : ∀ q ∈ lw_privs_1, lw_okq q := List.forall_mem_cons.mpr ⟨lw_p0, List.forall_mem_cons.mpr ⟨lw_p1, List.forall_mem_cons.mpr ⟨lw_p2, List.forall_mem_cons.mpr ⟨lw_p3, List.forall_mem_cons.mpr ⟨lw_p4, List.forall_mem_cons.mpr ⟨lw_p5, List.forall_mem_cons.mpr ⟨lw_p6, List.forall_mem_cons.mpr ⟨lw_p7, List.forall_mem_cons.mpr ⟨lw_p8, List.forall_mem_cons.mpr ⟨lw_p9, List.forall_mem_cons.mpr ⟨lw_p10, List.forall_mem_cons.mpr ⟨lw_p11, List.forall_mem_cons.mpr ⟨lw_p12, List.forall_mem_cons.mpr ⟨lw_p13, List.forall_mem_cons.mpr ⟨lw_p14, List.forall_mem_cons.mpr ⟨lw_p15, fun _ h => absurd h List.not_mem_nil⟩⟩⟩⟩⟩⟩⟩⟩⟩⟩⟩⟩⟩⟩⟩⟩
theorem lw_p16 : lw_okq (⟨"java/lang/Throwable", "fillInStackTrace", "(I)Ljava/lang/Throwable;"⟩, 6) := ⟨⟨by decide +kernel, by decide +kernel⟩, List.mem_of_getElem? (i := 431) (by decide +kernel), List.mem_of_getElem? (i := 429) (by decide +kernel), List.mem_of_getElem? (i := 430) (by decide +kernel)⟩
theorem lw_p17 : lw_okq (⟨"IslandParser", "needPlace", "(I)V"⟩, 6) := ⟨⟨by decide +kernel, by decide +kernel⟩, List.mem_of_getElem? (i := 16) (by decide +kernel), List.mem_of_getElem? (i := 497) (by decide +kernel), List.mem_of_getElem? (i := 498) (by decide +kernel)⟩
theorem lw_p18 : lw_okq (⟨"IslandParser", "needKind", "(I)V"⟩, 6) := ⟨⟨by decide +kernel, by decide +kernel⟩, List.mem_of_getElem? (i := 16) (by decide +kernel), List.mem_of_getElem? (i := 541) (by decide +kernel), List.mem_of_getElem? (i := 542) (by decide +kernel)⟩
theorem lw_p19 : lw_okq (⟨"IslandParser", "needReading", "()V"⟩, 6) := ⟨⟨by decide +kernel, by decide +kernel⟩, List.mem_of_getElem? (i := 16) (by decide +kernel), List.mem_of_getElem? (i := 574) (by decide +kernel), List.mem_of_getElem? (i := 575) (by decide +kernel)⟩
theorem lw_p20 : lw_okq (⟨"IslandParser", "needIsland", "(I)V"⟩, 6) := ⟨⟨by decide +kernel, by decide +kernel⟩, List.mem_of_getElem? (i := 16) (by decide +kernel), List.mem_of_getElem? (i := 586) (by decide +kernel), List.mem_of_getElem? (i := 587) (by decide +kernel)⟩
theorem lw_p21 : lw_okq (⟨"IslandParserModel", "no", "(I)I"⟩, 24) := ⟨⟨by decide +kernel, by decide +kernel⟩, List.mem_of_getElem? (i := 677) (by decide +kernel), List.mem_of_getElem? (i := 772) (by decide +kernel), List.mem_of_getElem? (i := 773) (by decide +kernel)⟩
theorem lw_p22 : lw_okq (⟨"IslandParserModel", "isComplete", "(I)Z"⟩, 24) := ⟨⟨by decide +kernel, by decide +kernel⟩, List.mem_of_getElem? (i := 677) (by decide +kernel), List.mem_of_getElem? (i := 800) (by decide +kernel), List.mem_of_getElem? (i := 801) (by decide +kernel)⟩
theorem lw_p23 : lw_okq (⟨"IslandParserModel", "step", "(I)I"⟩, 24) := ⟨⟨by decide +kernel, by decide +kernel⟩, List.mem_of_getElem? (i := 677) (by decide +kernel), List.mem_of_getElem? (i := 816) (by decide +kernel), List.mem_of_getElem? (i := 817) (by decide +kernel)⟩
theorem lw_p24 : lw_okq (⟨"IslandParserModel", "stands", "(II)Z"⟩, 24) := ⟨⟨by decide +kernel, by decide +kernel⟩, List.mem_of_getElem? (i := 677) (by decide +kernel), List.mem_of_getElem? (i := 820) (by decide +kernel), List.mem_of_getElem? (i := 821) (by decide +kernel)⟩
theorem lw_p25 : lw_okq (⟨"IslandParserModel", "canStand", "(II)Z"⟩, 24) := ⟨⟨by decide +kernel, by decide +kernel⟩, List.mem_of_getElem? (i := 677) (by decide +kernel), List.mem_of_getElem? (i := 824) (by decide +kernel), List.mem_of_getElem? (i := 825) (by decide +kernel)⟩
theorem lw_p26 : lw_okq (⟨"IslandParserModel", "finish", "(II)V"⟩, 24) := ⟨⟨by decide +kernel, by decide +kernel⟩, List.mem_of_getElem? (i := 677) (by decide +kernel), List.mem_of_getElem? (i := 828) (by decide +kernel), List.mem_of_getElem? (i := 829) (by decide +kernel)⟩
theorem lw_p27 : lw_okq (⟨"IslandParserModel", "begin", "(II)V"⟩, 24) := ⟨⟨by decide +kernel, by decide +kernel⟩, List.mem_of_getElem? (i := 677) (by decide +kernel), List.mem_of_getElem? (i := 832) (by decide +kernel), List.mem_of_getElem? (i := 833) (by decide +kernel)⟩
theorem lw_p28 : lw_okq (⟨"IslandParserModel", "findMarks", "()V"⟩, 24) := ⟨⟨by decide +kernel, by decide +kernel⟩, List.mem_of_getElem? (i := 677) (by decide +kernel), List.mem_of_getElem? (i := 840) (by decide +kernel), List.mem_of_getElem? (i := 841) (by decide +kernel)⟩
theorem lw_p29 : lw_okq (⟨"IslandParserModel", "count", "()V"⟩, 24) := ⟨⟨by decide +kernel, by decide +kernel⟩, List.mem_of_getElem? (i := 677) (by decide +kernel), List.mem_of_getElem? (i := 847) (by decide +kernel), List.mem_of_getElem? (i := 848) (by decide +kernel)⟩
theorem lw_p30 : lw_okq (⟨"IslandParserModel", "at", "(III)I"⟩, 24) := ⟨⟨by decide +kernel, by decide +kernel⟩, List.mem_of_getElem? (i := 677) (by decide +kernel), List.mem_of_getElem? (i := 851) (by decide +kernel), List.mem_of_getElem? (i := 852) (by decide +kernel)⟩
theorem lw_p31 : lw_okq (⟨"IslandParserModel", "canPair", "(IIII)Z"⟩, 24) := ⟨⟨by decide +kernel, by decide +kernel⟩, List.mem_of_getElem? (i := 677) (by decide +kernel), List.mem_of_getElem? (i := 855) (by decide +kernel), List.mem_of_getElem? (i := 856) (by decide +kernel)⟩
def lw_privs_2 : List (MethodName × Nat) := [(⟨"java/lang/Throwable", "fillInStackTrace", "(I)Ljava/lang/Throwable;"⟩, 6), (⟨"IslandParser", "needPlace", "(I)V"⟩, 6), (⟨"IslandParser", "needKind", "(I)V"⟩, 6), (⟨"IslandParser", "needReading", "()V"⟩, 6), (⟨"IslandParser", "needIsland", "(I)V"⟩, 6), (⟨"IslandParserModel", "no", "(I)I"⟩, 24), (⟨"IslandParserModel", "isComplete", "(I)Z"⟩, 24), (⟨"IslandParserModel", "step", "(I)I"⟩, 24), (⟨"IslandParserModel", "stands", "(II)Z"⟩, 24), (⟨"IslandParserModel", "canStand", "(II)Z"⟩, 24), (⟨"IslandParserModel", "finish", "(II)V"⟩, 24), (⟨"IslandParserModel", "begin", "(II)V"⟩, 24), (⟨"IslandParserModel", "findMarks", "()V"⟩, 24), (⟨"IslandParserModel", "count", "()V"⟩, 24), (⟨"IslandParserModel", "at", "(III)I"⟩, 24), (⟨"IslandParserModel", "canPair", "(IIII)Z"⟩, 24)]
theorem lw_r2 : ∀ q ∈ lw_privs_2, lw_okq q := List.forall_mem_cons.mpr ⟨lw_p16, List.forall_mem_cons.mpr ⟨lw_p17, List.forall_mem_cons.mpr ⟨lw_p18, List.forall_mem_cons.mpr ⟨lw_p19, List.forall_mem_cons.mpr ⟨lw_p20, List.forall_mem_cons.mpr ⟨lw_p21, List.forall_mem_cons.mpr ⟨lw_p22, List.forall_mem_cons.mpr ⟨lw_p23, List.forall_mem_cons.mpr ⟨lw_p24, List.forall_mem_cons.mpr ⟨lw_p25, List.forall_mem_cons.mpr ⟨lw_p26, List.forall_mem_cons.mpr ⟨lw_p27, List.forall_mem_cons.mpr ⟨lw_p28, List.forall_mem_cons.mpr ⟨lw_p29, List.forall_mem_cons.mpr ⟨lw_p30, List.forall_mem_cons.mpr ⟨lw_p31, fun _ h => absurd h List.not_mem_nil⟩⟩⟩⟩⟩⟩⟩⟩⟩⟩⟩⟩⟩⟩⟩⟩
theorem lw_p32 : lw_okq (⟨"IslandParserModel", "isWord", "(II)Z"⟩, 24) := ⟨⟨by decide +kernel, by decide +kernel⟩, List.mem_of_getElem? (i := 677) (by decide +kernel), List.mem_of_getElem? (i := 859) (by decide +kernel), List.mem_of_getElem? (i := 860) (by decide +kernel)⟩
theorem lw_p33 : lw_okq (⟨"IslandParserModel", "paired", "(IIIII)I"⟩, 24) := ⟨⟨by decide +kernel, by decide +kernel⟩, List.mem_of_getElem? (i := 677) (by decide +kernel), List.mem_of_getElem? (i := 863) (by decide +kernel), List.mem_of_getElem? (i := 864) (by decide +kernel)⟩
theorem lw_p34 : lw_okq (⟨"IslandParserModel", "take", "(IIII)V"⟩, 24) := ⟨⟨by decide +kernel, by decide +kernel⟩, List.mem_of_getElem? (i := 677) (by decide +kernel), List.mem_of_getElem? (i := 868) (by decide +kernel), List.mem_of_getElem? (i := 869) (by decide +kernel)⟩
theorem lw_p35 : lw_okq (⟨"IslandParserModel", "asks", "(II)Z"⟩, 24) := ⟨⟨by decide +kernel, by decide +kernel⟩, List.mem_of_getElem? (i := 677) (by decide +kernel), List.mem_of_getElem? (i := 888) (by decide +kernel), List.mem_of_getElem? (i := 889) (by decide +kernel)⟩
theorem lw_p36 : lw_okq (⟨"IslandParserModel", "around", "(I)I"⟩, 24) := ⟨⟨by decide +kernel, by decide +kernel⟩, List.mem_of_getElem? (i := 677) (by decide +kernel), List.mem_of_getElem? (i := 924) (by decide +kernel), List.mem_of_getElem? (i := 925) (by decide +kernel)⟩
theorem lw_p37 : lw_okq (⟨"IslandParserModel", "outside", "()I"⟩, 24) := ⟨⟨by decide +kernel, by decide +kernel⟩, List.mem_of_getElem? (i := 677) (by decide +kernel), List.mem_of_getElem? (i := 936) (by decide +kernel), List.mem_of_getElem? (i := 937) (by decide +kernel)⟩
def lw_privs_3 : List (MethodName × Nat) := [(⟨"IslandParserModel", "isWord", "(II)Z"⟩, 24), (⟨"IslandParserModel", "paired", "(IIIII)I"⟩, 24), (⟨"IslandParserModel", "take", "(IIII)V"⟩, 24), (⟨"IslandParserModel", "asks", "(II)Z"⟩, 24), (⟨"IslandParserModel", "around", "(I)I"⟩, 24), (⟨"IslandParserModel", "outside", "()I"⟩, 24)]
theorem lw_r3 : ∀ q ∈ lw_privs_3, lw_okq q := List.forall_mem_cons.mpr ⟨lw_p32, List.forall_mem_cons.mpr ⟨lw_p33, List.forall_mem_cons.mpr ⟨lw_p34, List.forall_mem_cons.mpr ⟨lw_p35, List.forall_mem_cons.mpr ⟨lw_p36, List.forall_mem_cons.mpr ⟨lw_p37, fun _ h => absurd h List.not_mem_nil⟩⟩⟩⟩⟩⟩
def lw_privs : List (MethodName × Nat) := lw_privs_1 ++ (lw_privs_2 ++ (lw_privs_3))
def lw_tbl : List Cond := k2_sels lw_privs ++ tables_1
theorem lw_privs_ok : ∀ q ∈ lw_privs, lw_okq q := by
  show ∀ q ∈ lw_privs_1 ++ (lw_privs_2 ++ (lw_privs_3)), lw_okq q
  exact List.forall_mem_append.mpr ⟨lw_r1, List.forall_mem_append.mpr ⟨lw_r2, lw_r3⟩⟩
/-- the streams that the claim lets the run draw from -/
abbrev lw_cs : List Choice := [Jvm.Choice.named "NaN.bits"]
theorem lw_bits : nanBits ∈ lw_cs := by first | decide | exact List.mem_cons_self | simp [lw_cs, nanBits]
end
section
/-! ===== BEGIN words of one list among another's, by their places ===== -/
theorem goodIn_r {big : List Cond} (ws : List Cond) (ps : List Nat) (hp : ws = ps.filterMap (fun i => big[i]?)) (h : ws.all goodWord = true) : GoodIn big ws := by
  intro w hw
  have h1 := List.all_eq_true.mp h w hw
  rw [hp] at hw
  obtain ⟨i, -, hi⟩ := List.mem_filterMap.mp hw
  have hm : w ∈ big := by first | exact List.mem_of_getElem? hi | exact List.getElem?_mem hi
  exact ⟨hm, good_of_word h1⟩
theorem goodIn_app {big a b : List Cond} (ha : GoodIn big a) (hb : GoodIn big b) : GoodIn big (a ++ b) := fun w h => (List.mem_append.mp h).elim (ha w) (hb w)
theorem goodIn_ca {big a b : List Cond} {c : Cond} (ha : GoodIn big (c :: a)) (hb : GoodIn big b) : GoodIn big (c :: (a ++ b)) := fun w h => (List.mem_cons.mp h).elim (fun e => ha w (List.mem_cons.mpr (Or.inl e))) (fun h => (List.mem_append.mp h).elim (fun h => ha w (List.mem_cons.mpr (Or.inr h))) (hb w))
theorem goodIn_sub {big ws : List Cond} (hm : ∀ w ∈ ws, w ∈ big) (h : ws.all goodWord = true) : GoodIn big ws := fun w hw => ⟨hm w hw, good_of_word (List.all_eq_true.mp h w hw)⟩
/-! ===== END ===== -/

/-! ===== BEGIN exceptions that leave a method, and their catching by the caller (launches without stack traces) ===== -/
section VXA
/-! The laws vx_back, vx_callV, vx_callS, vx_callSW, vx_throw0, vx_throwS follow proofs of the library, with one case more: JvmDerived/Free/Laws.lean (Back.of_free), Shelf42/LK1.lean (callV, callS), Shelf/KitTraced.lean (throwNew0V, throwNewS). -/
/-- where a method has thrown q: the class by its name, the cell, what was written, the world -/
def vx_T (XC : String → State → State → Prop) (st : State) (q : Addr) (t : State) (mc ms : Nat) (free : Addr → Prop) : Prop :=
  ∃ (E : String) (ce : Cell) (L : List Loc), XC E st t ∧ t.heap[q]? = some ce ∧ ce.vm = .none ∧ st.vm.findClass E = some ce.cls ∧ st.WarmedH t.vm ∧ st.sameButNew ({ t with vm := st.vm } : State) L mc ms ∧ ∀ z ∈ L, free z.base
def vx_Q (Qc : Array Value → State → Outcome → State → Prop) (XC : String → State → State → Prop) (mc ms : Nat) (free : Addr → Prop) : Array Value → State → Outcome → State → Prop := fun a st o t =>
  (Qc a st o t ∧ ∃ L, FrameEnd st o t L mc ms ∧ ∀ q ∈ L, free q.base) ∨ ∃ q, o = .threw q ∧ vx_T XC st q t mc ms free
/-- a callee that returns or throws -/
def vx_Met (l : Launch) (y : MethodName) (ws : List Cond) (rm : Room) (Pc : Array Value → State → Prop) (Qc : Array Value → State → Outcome → State → Prop) (XC : String → State → State → Prop) (mc ms : Nat) (free : Addr → Prop) : Prop :=
  MetFree l y (headSpec ws rm) Pc (fun _ _ _ _ _ => True) (vx_Q Qc XC mc ms free)
def vx_Post (XC : String → State → State → Prop) (mc ms : Nat) (free : Addr → Prop) : Pt → Array Value → Addr → Pt → Prop := fun A a q B =>
  ∃ (g : JFrame) (mk : MethodId) (t : State) (L : List Loc) (E : String) (ce : Cell), B.U.heap = t.heap ∧ B.U.vm = t.vm ∧ XC E (A.U.calling g mk a) t ∧ t.heap[q]? = some ce ∧ ce.vm = .none ∧ A.U.vm.findClass E = some ce.cls ∧ B.locs = A.locs ++ L ∧ (∀ z ∈ L, free z.base) ∧ B.cells = A.cells + mc ∧ B.slots = A.slots + ms
def vx_Back (l : Launch) (R : Room) (p : Program) (e : Env) (below : List Frame) (s : State) (sargs : Array Value) (y : MethodName) (len W9 : Nat)
    (Pre : Pt → Array Value → Prop) (Post : Pt → Array Value → Option Value → Pt → Prop) (PostX : Pt → Array Value → Addr → Pt → Prop) : Prop :=
  ∀ (m : MethodId) (meth : Method) (c : Code) (A : Pt) (g : JFrame) (ig : Instr) (mk : MethodId) (a : Array Value),
    Stand p l e R s m sargs below meth c A.U A.locs A.cells A.slots → g.method = m → g.locals.size = c.maxLocals → decode c.code g.pc = .ok (ig, len) →
    2 * g.monitorRoom + (g.stack.map fun v => v.category).sum ≤ W9 → A.U.methodNamed? y = some mk → Pre A a →
    (∃ (v : Option Value) (B : Pt), Stand p l e R s m sargs below meth c B.U B.locs B.cells B.slots ∧ Post A a v B ∧
      Steps p.tables e below (doInvoke e (A.U.setTop g) [] mk a).1 (B.U.setTop { g with pc := g.pc + len, stack := v.toList ++ g.stack })) ∨
    (∃ (q : Addr) (B : Pt), Stand p l e R s m sargs below meth c B.U B.locs B.cells B.slots ∧ PostX A a q B ∧
      Steps p.tables e below (doInvoke e (A.U.setTop g) [] mk a).1 ((B.U.setTop g).pushFrame (.throwing q)))
section Payer
variable {l : Launch} {R : Room} {p : Program} {e : Env} {below : List Frame} {s : State} {sargs : Array Value} {y : MethodName} {len W9 : Nat}
theorem vx_back {ws : List Cond} {rm : Room} {Pc : Array Value → State → Prop} {Qc : Array Value → State → Outcome → State → Prop} {XC : String → State → State → Prop} {mc ms : Nat} {free : Addr → Prop} {bytes : ByteArray} {maxL : Nat} {ret : Option FieldType}
    (hM : vx_Met l y ws rm Pc Qc XC mc ms free) (hblind : FrameBlind Pc) (hrc : rm.cells = mc) (hrs : rm.slots = ms)
    (hframes : rm.frames + 1 ≤ R.frames) (hlocals : W9 + (maxL + 11) + rm.locals ≤ R.locals)
    (hws : ∀ w ∈ ws, ∀ a' U, s.WarmedH U.vm → w.before a' U = true) (hcode : Cond.code y bytes maxL ret ∈ ws) (hinit : ∀ a' U, s.WarmedH U.vm → (Cond.initialized y.cls).before a' U = true) :
    vx_Back l R p e below s sargs y len W9 (PreOf R mc ms Pc) (PostOf Qc mc ms free) (vx_Post XC mc ms free) := by
  intro m meth c A g ig mk a X hg hsize hdg hW hn hp
  have h1 : (headSpec ws rm).pre.before a A.U = true := atoms_intro fun w hw => hws w hw _ _ X.warmed
  have h2 : (Cond.code y bytes maxL ret).before a A.U = true := hws _ hcode _ _ X.warmed
  have h3 : (Cond.initialized y.cls).before a A.U = true := hinit _ _ X.warmed
  have h4 : A.cells + (headSpec ws rm).room.cells ≤ R.cells := by rw [show (headSpec ws rm).room.cells = mc from hrc]; exact hp.1
  have h5 : A.slots + (headSpec ws rm).room.slots ≤ R.slots := by rw [show (headSpec ws rm).room.slots = ms from hrs]; exact hp.2.1
  have hPc : Pc a (A.U.calling g mk a) := hblind _ _ _ _ hp.2.2
  obtain ⟨U, Ls, c0, s0⟩ := A
  dsimp only [Pt.U, Pt.locs, Pt.cells, Pt.slots] at h1 h2 h3 h4 h5 X hn hPc ⊢
  obtain ⟨methY, cY, hmY, hcY, -, hlY, -, -, -, -⟩ := Cond.code_spec hn h2
  obtain ⟨kY, hkY, -⟩ := className_of_methodNamed hn
  have hinitY : kY.init = .initialized := Cond.initialized_spec (findClass_of_methodNamed hn) hkY h3
  have h : At U g.method c below := by rw [hg]; exact X.here
  have hlocals9 : W9 + (maxL + 11) + (headSpec ws rm).room.locals ≤ R.locals := hlocals
  have happ : (headSpec ws rm).appliesLoose y e.platform (U.calling g mk a) = true :=
    Spec.appliesLoose_calling (g := g) h hdg hn hkY hinitY
      (X.room_calling (g := g) (R' := (headSpec ws rm).room) hsize hmY hcY hframes (by rw [hlY]; omega) h4 h5) h1
  obtain ⟨mid, hmid⟩ := h.above
  have hfr : (U.setTop g).frames = (.java g :: mid) ++ below := by rw [State.frames_setTop' g h.top, hmid]; rfl
  obtain ⟨o, s₂, hsteps, -, hend, hq⟩ := Steps.callFree hM p X.admits X.cas X.clock (acts := []) hfr happ hPc trivial
  have hq' : vx_Q Qc XC mc ms free a (U.calling g mk a) o s₂ := hq
  rw [State.frames_setTop' g h.top] at hend
  obtain ⟨g₀, hg0⟩ := Option.isSome_iff_exists.mp h.top
  obtain ⟨r, hr⟩ := State.topJava?_eq_some.mp hg0
  have hr' : (({ U with heap := s₂.heap, slotsUsed := s₂.slotsUsed } : State).setVm s₂.vm).frames = .java g₀ :: r := hr
  rcases hq' with ⟨hqc, L, hfe, hL⟩ | ⟨q, rfl, E, ce, L, hx, hce, hcv, hcl, hW₂, hsm, hL⟩
  · obtain ⟨⟨v, rfl⟩, hW₂, e2, q2, q3, q4, q5, q6⟩ := id hfe
    have e3 : s₂ = ({ (U.calling g mk a).setFrames s₂.frames with heap := s₂.heap, slotsUsed := s₂.slotsUsed } : State).setVm s₂.vm := by
      have : s₂ = ({ s₂ with vm := (U.calling g mk a).vm } : State).setVm s₂.vm := rfl
      rw [e2] at this
      exact this
    obtain ⟨c₂, i₂, len₂, hc₂, hd₂, hf₂⟩ := hend
    have hW' : U.WarmedH s₂.vm := hW₂
    have hcc : c₂ = c := by
      have h1 : s₂.code? g.method = U.code? g.method := by
        rw [State.code?_eq, State.code?_eq, hW'.alike.method?]
      exact Option.some.inj (hc₂.symm.trans (h1.trans h.code))
    subst hcc
    have hlen : len₂ = len := by rw [hdg] at hd₂; cases hd₂; rfl
    subst hlen
    have hs₂ : s₂ = (({ U with heap := s₂.heap, slotsUsed := s₂.slotsUsed } : State).setVm s₂.vm).setTop { g with pc := g.pc + len₂, stack := v.toList ++ g.stack } := by
      refine e3.trans ?_
      rw [hf₂, State.calling_eq h.top, State.setFrames_setFrames, State.setTop_of_frames _ hr', hr]
      rfl
    have hsame : U.sameButNew ({ U with heap := s₂.heap, slotsUsed := s₂.slotsUsed } : State) L mc ms := by
      refine ⟨?_, q2, q3, q4, q5, q6⟩
      obtain ⟨t, ht, -⟩ := State.frames_cons hr
      show ({ U with heap := s₂.heap, slotsUsed := s₂.slotsUsed } : State) = { U.setFrames U.frames with heap := s₂.heap, slotsUsed := s₂.slotsUsed }
      rw [State.setFrames_self ht]
    subst hg
    refine Or.inl ⟨v, ⟨(({ U with heap := s₂.heap, slotsUsed := s₂.slotsUsed } : State).setVm s₂.vm), Ls ++ L, c0 + mc, s0 + ms⟩,
      ⟨X.admits, X.cas, X.clock, X.frames, X.room, X.hears, X.method, X.code, (X.here.setHeapUsed s₂.heap s₂.slotsUsed).setVm hW'.alike, X.tail, State.WarmedH.trans X.warmed hW', X.limits, X.bytes, X.same.trans (hsame.setVm s.vm)⟩,
      ⟨g, mk, s₂, L, rfl, rfl, hqc, rfl, hL, rfl, rfl⟩, ?_⟩
    show Steps p.tables e below _ ((({ U with heap := s₂.heap, slotsUsed := s₂.slotsUsed } : State).setVm s₂.vm).setTop { g with pc := g.pc + len₂, stack := v.toList ++ g.stack })
    rw [← hs₂]
    exact hsteps
  · obtain ⟨e2, q2, q3, q4, q5, q6⟩ := id hsm
    have e3 : s₂ = ({ (U.calling g mk a).setFrames s₂.frames with heap := s₂.heap, slotsUsed := s₂.slotsUsed } : State).setVm s₂.vm := by
      have : s₂ = ({ s₂ with vm := (U.calling g mk a).vm } : State).setVm s₂.vm := rfl
      rw [e2] at this
      exact this
    have hf₂ : s₂.frames = .throwing q :: .java g :: U.frames.tail := hend
    have hW' : U.WarmedH s₂.vm := hW₂
    have hs₂ : s₂ = ((({ U with heap := s₂.heap, slotsUsed := s₂.slotsUsed } : State).setVm s₂.vm).setTop g).pushFrame (.throwing q) := by
      refine e3.trans ?_
      rw [hf₂, State.calling_eq h.top, State.setFrames_setFrames, State.pushFrame, State.frames_setTop _ hr', State.setTop_of_frames _ hr', State.setFrames_setFrames, hr]
      rfl
    have hsame : U.sameButNew ({ U with heap := s₂.heap, slotsUsed := s₂.slotsUsed } : State) L mc ms := by
      refine ⟨?_, q2, q3, q4, q5, q6⟩
      obtain ⟨t, ht, -⟩ := State.frames_cons hr
      show ({ U with heap := s₂.heap, slotsUsed := s₂.slotsUsed } : State) = { U.setFrames U.frames with heap := s₂.heap, slotsUsed := s₂.slotsUsed }
      rw [State.setFrames_self ht]
    subst hg
    refine Or.inr ⟨q, ⟨(({ U with heap := s₂.heap, slotsUsed := s₂.slotsUsed } : State).setVm s₂.vm), Ls ++ L, c0 + mc, s0 + ms⟩,
      ⟨X.admits, X.cas, X.clock, X.frames, X.room, X.hears, X.method, X.code, (X.here.setHeapUsed s₂.heap s₂.slotsUsed).setVm hW'.alike, X.tail, State.WarmedH.trans X.warmed hW', X.limits, X.bytes, X.same.trans (hsame.setVm s.vm)⟩,
      ⟨g, mk, s₂, L, E, ce, rfl, rfl, hx, hce, hcv, hcl, rfl, hL, rfl, rfl⟩, ?_⟩
    show Steps p.tables e below _ (((({ U with heap := s₂.heap, slotsUsed := s₂.slotsUsed } : State).setVm s₂.vm).setTop g).pushFrame (.throwing q))
    rw [← hs₂]
    exact hsteps
end Payer
section Calls
variable {p : Program} {l : Launch} {e : Env} {R : Room} {s : State} {m : MethodId} {args : Array Value} {below : List Frame} {meth : Method} {c : Code} {T : State} {locs : List Loc} {cells slots : Nat}
theorem vx_callV (X : Stand p l e R s m args below meth c T locs cells slots) (hexec : p.tables.exec = Jvm.exec) {own C : String} {index : Nat} {y : MethodName} {bytes : ByteArray} {maxL : Nat} {ret : Option FieldType}
    (hown : s.vm.findClass own = some m.cls) (hlink : (Cond.methodLink own index y).before args s = true) (hinst : (Cond.instanceMethod y).before args s = true) (hsel : (Cond.selects C y y).before args s = true)
    (hcode : (Cond.code y bytes maxL ret).before args s = true) (hy : y.cls ≠ "java/lang/invoke/MethodHandle" ∧ y.cls ≠ "java/lang/invoke/VarHandle")
    {W9 : Nat} {Pre : Pt → Array Value → Prop} {Post : Pt → Array Value → Option Value → Pt → Prop} {PostX : Pt → Array Value → Addr → Pt → Prop} (hK : vx_Back l R p e below s args y 3 W9 Pre Post PostX)
    {b : Addr} {cellB : Cell} (hcell : T.heap[b]? = some cellB) (hobj : cellB.vm.isStatics = false) (hcls : s.vm.findClass C = some cellB.cls)
    {g : JFrame} (hg : g.method = m) (hsize : g.locals.size = c.maxLocals) {argsL rest : List Value} (hlen : ∀ sig, parseMethodDescriptor y.desc = some sig → argsL.length = sig.parameters.length)
    (hstack : g.stack = argsL.reverse ++ .ref b :: rest) (hW : 2 * g.monitorRoom + (rest.map fun v => v.category).sum ≤ W9) (hdg : decode c.code g.pc = .ok (.invokevirtual index, 3))
    (hpre : ∀ vm₁, s.WarmedH vm₁ → Pre ⟨T.setVm vm₁, locs, cells, slots⟩ (Value.ref b :: argsL).toArray) :
    (∃ (v : Option Value) (vm₁ : Vm) (B : Pt), s.WarmedH vm₁ ∧ Stand p l e R s m args below meth c B.U B.locs B.cells B.slots ∧ Post ⟨T.setVm vm₁, locs, cells, slots⟩ (Value.ref b :: argsL).toArray v B ∧
      ∀ target, Steps p.tables e below (B.U.setTop { g with pc := g.pc + 3, stack := v.toList ++ rest }) target → Steps p.tables e below (T.setTop g) target) ∨
    (∃ (q : Addr) (vm₁ : Vm) (B : Pt), s.WarmedH vm₁ ∧ Stand p l e R s m args below meth c B.U B.locs B.cells B.slots ∧ PostX ⟨T.setVm vm₁, locs, cells, slots⟩ (Value.ref b :: argsL).toArray q B ∧
      Steps p.tables e below (T.setTop g) ((B.U.setTop { g with stack := rest }).pushFrame (.throwing q))) := by
  obtain ⟨mk, methM, hnamed, hmethM, hstM, habM⟩ := Cond.instanceMethod_spec hinst
  obtain ⟨methM', cM, hmethM', -, -, -, -, -, -, hsigM⟩ := Cond.code_spec hnamed hcode
  cases hmethM.symm.trans hmethM'
  obtain ⟨c2, r2, m2, q1, q2, q3, q4, kP, hkP, hkPi⟩ := Cond.selects_spec hsel
  cases hcls.symm.trans q1
  cases (State.methodFound?_of_named hnamed hy).symm.trans q2
  cases hnamed.symm.trans q3
  have hselP : selectMethod e.platform s.vm cellB.cls mk = .method mk := by rw [Launch.admits_selectMethod X.admits]; exact q4
  obtain ⟨vm₁, X₁, hstep₁⟩ := X.invokevirtual hexec hown hlink hnamed hmethM hstM hkP hkPi hy (a := b) (cell := cellB) hcell
    (fun z h => by rw [h] at hobj; cases hobj) hselP hmethM habM hkP hkPi (g := g) hg (argsL := argsL) (rest := rest) (hlen _ hsigM) hstack hdg
  rcases hK m meth c ⟨T.setVm vm₁, locs, cells, slots⟩ { g with stack := rest } (.invokevirtual index) mk (Value.ref b :: argsL).toArray X₁ hg hsize hdg hW (X₁.named hnamed) (hpre vm₁ X₁.warmed) with ⟨v, B, X', hpost, hsteps⟩ | ⟨q, B, X', hpost, hsteps⟩
  · exact Or.inl ⟨v, vm₁, B, X₁.warmed, X', hpost, fun target h => hstep₁ _ fun acts => by rw [doInvoke_state]; exact hsteps.trans h⟩
  · exact Or.inr ⟨q, vm₁, B, X₁.warmed, X', hpost, hstep₁ _ fun acts => by rw [doInvoke_state]; exact hsteps⟩
theorem vx_callS (X : Stand p l e R s m args below meth c T locs cells slots) (hexec : p.tables.exec = Jvm.exec) {own : String} {index : Nat} {y : MethodName} {bytes : ByteArray} {maxL : Nat} {ret : Option FieldType}
    (hown : s.vm.findClass own = some m.cls) (hlink : (Cond.methodLink own index y).before args s = true) (hstat : (Cond.static y).before args s = true) (hinit : (Cond.initialized y.cls).before args s = true)
    (hcode : (Cond.code y bytes maxL ret).before args s = true) (hy : y.cls ≠ "java/lang/invoke/MethodHandle" ∧ y.cls ≠ "java/lang/invoke/VarHandle")
    {W9 : Nat} {Pre : Pt → Array Value → Prop} {Post : Pt → Array Value → Option Value → Pt → Prop} {PostX : Pt → Array Value → Addr → Pt → Prop} (hK : vx_Back l R p e below s args y 3 W9 Pre Post PostX)
    {g : JFrame} (hg : g.method = m) (hsize : g.locals.size = c.maxLocals) {argsL rest : List Value} (hlen : ∀ sig, parseMethodDescriptor y.desc = some sig → argsL.length = sig.parameters.length)
    (hstack : g.stack = argsL.reverse ++ rest) (hW : 2 * g.monitorRoom + (rest.map fun v => v.category).sum ≤ W9) (hdg : decode c.code g.pc = .ok (.invokestatic index, 3))
    (hpre : ∀ vm₁, s.WarmedH vm₁ → Pre ⟨T.setVm vm₁, locs, cells, slots⟩ argsL.toArray) :
    (∃ (v : Option Value) (vm₁ : Vm) (B : Pt), s.WarmedH vm₁ ∧ Stand p l e R s m args below meth c B.U B.locs B.cells B.slots ∧ Post ⟨T.setVm vm₁, locs, cells, slots⟩ argsL.toArray v B ∧
      ∀ target, Steps p.tables e below (B.U.setTop { g with pc := g.pc + 3, stack := v.toList ++ rest }) target → Steps p.tables e below (T.setTop g) target) ∨
    (∃ (q : Addr) (vm₁ : Vm) (B : Pt), s.WarmedH vm₁ ∧ Stand p l e R s m args below meth c B.U B.locs B.cells B.slots ∧ PostX ⟨T.setVm vm₁, locs, cells, slots⟩ argsL.toArray q B ∧
      Steps p.tables e below (T.setTop g) ((B.U.setTop { g with stack := rest }).pushFrame (.throwing q))) := by
  obtain ⟨mk, hnamed⟩ := Cond.code_named hcode
  obtain ⟨methM, cM, hmethM, -, -, -, -, -, -, hsigM⟩ := Cond.code_spec hnamed hcode
  have hstatic : methM.isStatic = true := Cond.static_spec hnamed hmethM hstat
  obtain ⟨kP, hkP, -⟩ := className_of_methodNamed hnamed
  have hinitP : kP.init = .initialized := Cond.initialized_spec (findClass_of_methodNamed hnamed) hkP hinit
  obtain ⟨vm₁, X₁, hstep₁⟩ := X.invokestatic hexec hown hlink hnamed hmethM hstatic hkP hinitP hy (g := g) hg (argsL := argsL) (rest := rest) (hlen _ hsigM) hstack hdg
  rcases hK m meth c ⟨T.setVm vm₁, locs, cells, slots⟩ { g with stack := rest } (.invokestatic index) mk argsL.toArray X₁ hg hsize hdg hW (X₁.named hnamed) (hpre vm₁ X₁.warmed) with ⟨v, B, X', hpost, hsteps⟩ | ⟨q, B, X', hpost, hsteps⟩
  · exact Or.inl ⟨v, vm₁, B, X₁.warmed, X', hpost, fun target h => hstep₁ _ fun acts => by rw [doInvoke_state]; exact hsteps.trans h⟩
  · exact Or.inr ⟨q, vm₁, B, X₁.warmed, X', hpost, hstep₁ _ fun acts => by rw [doInvoke_state]; exact hsteps⟩
end Calls
theorem vx_cls {s : State} {T : State} {vm₁ : Vm} {E : String} {k : ClassId} (hW : s.WarmedH vm₁) (h : (T.setVm vm₁).vm.findClass E = some k) : s.vm.findClass E = some k := by
  have h1 : vm₁.findClass E = some k := h
  rw [hW.alike.findClass] at h1
  exact h1
/-- the method's frame g, with q thrown over it -/
def vx_W (p : Program) (l : Launch) (e : Env) (R : Room) (s : State) (m : MethodId) (args : Array Value) (below : List Frame) (meth : Method) (c : Code) (H : Heap) (locs : List Loc) (cells slots : Nat) (Q : State → Prop) (g : JFrame) (q : Addr) : Prop :=
  ∀ T : State, T.heap = H → Stand p l e R s m args below meth c T locs cells slots → ∃ t, Steps p.tables e below ((T.setTop g).pushFrame (.throwing q)) t ∧ Q t
def vx_Run (p : Program) (l : Launch) (e : Env) (R : Room) (s : State) (m : MethodId) (args : Array Value) (below : List Frame) (meth : Method) (c : Code) (H : Heap) (locs : List Loc) (cells slots mc ms : Nat) (g : JFrame) (rest : List Value) (Qa : State → Outcome → State → Prop) (XC : String → State → State → Prop) (free : Addr → Prop) : Prop :=
  ∀ T : State, T.heap = H → Stand p l e R s m args below meth c T locs cells slots →
    (∃ (v : Option Value) (st₀ t T' : State) (L : List Loc), st₀.heap = H ∧ Stand p l e R s m args below meth c T' (locs ++ L) (cells + mc) (slots + ms) ∧ (∀ q ∈ L, free q.base) ∧ T'.heap = t.heap ∧ T'.vm = t.vm ∧ Qa st₀ (.returned v) t ∧
      Goes p e below T g T' { g with pc := g.pc + 3, stack := v.toList ++ rest }) ∨
    (∃ (q : Addr) (st₀ t T' : State) (L : List Loc) (E : String) (ce : Cell), st₀.heap = H ∧ Stand p l e R s m args below meth c T' (locs ++ L) (cells + mc) (slots + ms) ∧ (∀ z ∈ L, free z.base) ∧ T'.heap = t.heap ∧ T'.vm = t.vm ∧ XC E st₀ t ∧ t.heap[q]? = some ce ∧ ce.vm = .none ∧ s.vm.findClass E = some ce.cls ∧
      Steps p.tables e below (T.setTop g) ((T'.setTop { g with stack := rest }).pushFrame (.throwing q)))
def vx_X {S : Type} (px : S → Prop) (B : String → S → State → Prop) (A : Nat → Prop) : String → State → State → Prop := fun E st t => ∃ u : S, px u ∧ B E u t ∧ va_F A st t
section Runs
variable {p : Program} {l : Launch} {e : Env} {R : Room} {s : State} {m : MethodId} {args : Array Value} {below : List Frame} {meth : Method} {c : Code} {H : Heap} {locs : List Loc} {cells slots : Nat}
variable {y : MethodName} {bytes cc : ByteArray} {maxL nL mc ms n index : Nat} {ret : Option FieldType} {ws : List Cond} {rm : Room} {Pc : Array Value → State → Prop} {Qc : Array Value → State → Outcome → State → Prop} {XC : String → State → State → Prop} {free : Addr → Prop} {Ts : List Cond} {own C : String} {b : Addr} {As rest : List Value} {g : JFrame}
theorem vx_callBack (cb : CallB R s args own index y bytes maxL ret ws rm mc ms n) (hM : vx_Met l y ws rm Pc Qc XC mc ms free) (hbl : FrameBlind Pc) : vx_Back l R p e below s args y 3 8 (PreOf R mc ms Pc) (PostOf Qc mc ms free) (vx_Post XC mc ms free) := by
  obtain ⟨hrc, hrs, hfr, hlo, hws, hcw, -, hini, -⟩ := cb
  exact vx_back (bytes := bytes) (maxL := maxL) (ret := ret) hM hbl hrc hrs hfr hlo hws hcw (fun a' U hW => word_at hW (Or.inl (by first | rfl | simp [Cond.onTables, Cond.keeps, Cond.steady])) hini)
theorem vx_runV (S : CallFix p m c cc nL s args Ts own) (hM : vx_Met l y ws rm Pc Qc XC mc ms free) (cw : CallW R s args own C index y bytes maxL ret ws rm mc ms n) (hp : PreV s H C b Pc As)
    (hg : g.method = m) (hn : As.length = n) (hsize : g.locals.size = nL) (hstack : g.stack = As.reverse ++ .ref b :: rest) (hW : 2 * g.monitorRoom + (rest.map fun v => v.category).sum ≤ 8) (hdg : decode cc g.pc = .ok (.invokevirtual index, 3)) (hf : cells + mc ≤ R.cells ∧ slots + ms ≤ R.slots) :
    vx_Run p l e R s m args below meth c H locs cells slots mc ms g rest (Qc (Value.ref b :: As).toArray) XC free := by
  have hK : vx_Back l R p e below s args y 3 8 (PreOf R mc ms Pc) (PostOf Qc mc ms free) (vx_Post XC mc ms free) := vx_callBack cw.1 hM hp.1
  obtain ⟨⟨-, -, -, -, -, -, hcode, -, hy, hlen, hl⟩, hin, hse⟩ := cw
  obtain ⟨hx, hb, hml, ho, -⟩ := S
  obtain ⟨-, ⟨cellB, hcB, hoB, hclB⟩, hPc⟩ := hp
  intro T hT X
  rcases vx_callV X hx (C := C) (bytes := bytes) (maxL := maxL) (ret := ret) ho hl hin hse hcode hy hK (by rw [hT]; exact hcB) hoB hclB hg (hsize.trans hml.symm) (argsL := As) (rest := rest) (fun sig h => hn.trans (hlen sig h)) hstack hW (by rw [hb]; exact hdg)
    (fun vm₁ hW₁ => ⟨hf.1, hf.2, hPc (T.setVm vm₁) hT hW₁⟩) with ⟨v, vm₁, ⟨U', l2, c2, s2⟩, hW₁, X', ⟨g', mk, t, L, e1, e2, hq, h1, hL, h2, h3⟩, st⟩ | ⟨q, vm₁, ⟨U', l2, c2, s2⟩, hW₁, X', ⟨g', mk, t, L, E, ce, e1, e2, hq, hce, hcv, hcl, h1, hL, h2, h3⟩, st⟩
  · dsimp only [Pt.U, Pt.locs, Pt.cells, Pt.slots] at X' e1 e2 h1 h2 h3 st
    subst h1; subst h2; subst h3
    exact Or.inl ⟨v, (T.setVm vm₁).calling g' mk (Value.ref b :: As).toArray, t, U', L, hT, X', hL, e1, e2, hq, st⟩
  · dsimp only [Pt.U, Pt.locs, Pt.cells, Pt.slots] at X' e1 e2 h1 h2 h3 st hcl
    subst h1; subst h2; subst h3
    exact Or.inr ⟨q, (T.setVm vm₁).calling g' mk (Value.ref b :: As).toArray, t, U', L, E, ce, hT, X', hL, e1, e2, hq, hce, hcv, vx_cls hW₁ hcl, st⟩
theorem vx_runS (S : CallFix p m c cc nL s args Ts own) (hM : vx_Met l y ws rm Pc Qc XC mc ms free) (cw : CallB R s args own index y bytes maxL ret ws rm mc ms n ∧ (Cond.static y).before args s = true) (hp : PreS s H Pc As)
    (hg : g.method = m) (hn : As.length = n) (hsize : g.locals.size = nL) (hstack : g.stack = As.reverse ++ rest) (hW : 2 * g.monitorRoom + (rest.map fun v => v.category).sum ≤ 8) (hdg : decode cc g.pc = .ok (.invokestatic index, 3)) (hf : cells + mc ≤ R.cells ∧ slots + ms ≤ R.slots) :
    vx_Run p l e R s m args below meth c H locs cells slots mc ms g rest (Qc As.toArray) XC free := by
  have hK : vx_Back l R p e below s args y 3 8 (PreOf R mc ms Pc) (PostOf Qc mc ms free) (vx_Post XC mc ms free) := vx_callBack cw.1 hM hp.1
  obtain ⟨⟨-, -, -, -, -, -, hcode, hini, hy, hlen, hl⟩, hstt⟩ := cw
  obtain ⟨hx, hb, hml, ho, -⟩ := S
  intro T hT X
  rcases vx_callS X hx (bytes := bytes) (maxL := maxL) (ret := ret) ho hl hstt hini hcode hy hK hg (hsize.trans hml.symm) (argsL := As) (rest := rest) (fun sig h => hn.trans (hlen sig h)) hstack hW (by rw [hb]; exact hdg)
    (fun vm₁ hW₁ => ⟨hf.1, hf.2, hp.2 (T.setVm vm₁) hT hW₁⟩) with ⟨v, vm₁, ⟨U', l2, c2, s2⟩, hW₁, X', ⟨g', mk, t, L, e1, e2, hq, h1, hL, h2, h3⟩, st⟩ | ⟨q, vm₁, ⟨U', l2, c2, s2⟩, hW₁, X', ⟨g', mk, t, L, E, ce, e1, e2, hq, hce, hcv, hcl, h1, hL, h2, h3⟩, st⟩
  · dsimp only [Pt.U, Pt.locs, Pt.cells, Pt.slots] at X' e1 e2 h1 h2 h3 st
    subst h1; subst h2; subst h3
    exact Or.inl ⟨v, (T.setVm vm₁).calling g' mk As.toArray, t, U', L, hT, X', hL, e1, e2, hq, st⟩
  · dsimp only [Pt.U, Pt.locs, Pt.cells, Pt.slots] at X' e1 e2 h1 h2 h3 st hcl
    subst h1; subst h2; subst h3
    exact Or.inr ⟨q, (T.setVm vm₁).calling g' mk As.toArray, t, U', L, E, ce, hT, X', hL, e1, e2, hq, hce, hcv, vx_cls hW₁ hcl, st⟩
end Runs
section Rows
variable {p : Program} {l : Launch} {e : Env} {R : Room} {s : State} {m : MethodId} {args : Array Value} {below : List Frame} {meth : Method} {c : Code} {H : Heap} {locs : List Loc} {cells slots : Nat} {Q : State → Prop}
variable {mc ms : Nat} {free : Addr → Prop} {A0 A1 : Nat → Prop} {H0 : Heap} {a : Array Value} {pc : Nat} {ls : Array Slot} {st0 rest : List Value}
theorem vx_keep {st₀ t T' : State} {L : List Loc} (h0 : st₀.heap = H) (e1 : T'.heap = t.heap) (hS : va_S A0 H0 H locs) (hA : ∀ q, q < H.size → A1 q → A0 q) (hf : ∀ q, free q → A0 q) (hL : ∀ q ∈ L, free q.base) (hF : va_F A1 st₀ t) :
    H.size ≤ T'.heap.size ∧ (∀ q : Nat, q < H.size → ¬ A1 q → T'.heap[q]? = H[q]?) ∧ va_S A0 H0 T'.heap (locs ++ L) := by
  obtain ⟨hz, hk⟩ := hF
  rw [h0] at hz hk
  exact ⟨by rw [e1]; exact hz, fun q h1 h2 => by rw [e1]; exact hk q h1 h2,
    ⟨Nat.le_trans hS.1 (by rw [e1]; exact hz), fun q h1 h2 => by rw [e1, hk q (Nat.lt_of_lt_of_le h1 hS.1) (fun z => h2 (hA q (Nat.lt_of_lt_of_le h1 hS.1) z))]; exact hS.2.1 q h1 h2, fun q hq => by
      rcases List.mem_append.mp hq with h | h
      · exact hS.2.2 q h
      · exact hf _ (hL q h)⟩⟩
theorem vx_calli {S SX : Type} {post : Int32 → S → Prop} {px : SX → Prop} {B : S → State → Prop} {BX : String → SX → State → Prop} {AX : Nat → Prop} (hr : vx_Run p l e R s m args below meth c H locs cells slots mc ms (F0 m pc ls st0) rest (va_Qi post B A1 a) (vx_X px BX AX) free) (hS : va_S A0 H0 H locs) (hA : ∀ q, q < H.size → A1 q → A0 q) (hf : ∀ q, free q → A0 q) (hAX : ∀ q, q < H.size → AX q → A0 q)
    (kx : ∀ (E : String) (ce : Cell) (q9 : Addr) (u : SX) (t : State) (H1 : Heap) (locs1 : List Loc), t.heap = H1 → s.vm.Alike t.vm → px u → BX E u t → H.size ≤ H1.size → (∀ q : Nat, q < H.size → ¬ AX q → H1[q]? = H[q]?) → va_S A0 H0 H1 locs1 → H1[q9]? = some ce → ce.vm = .none → s.vm.findClass E = some ce.cls → vx_W p l e R s m args below meth c H1 locs1 (cells + mc) (slots + ms) Q (F0 m pc ls rest) q9)
    (kk : ∀ (r : Int32) (u : S) (t : State) (H1 : Heap) (locs1 : List Loc), t.heap = H1 → s.vm.Alike t.vm → post r u → B u t → H.size ≤ H1.size → (∀ q : Nat, q < H.size → ¬ A1 q → H1[q]? = H[q]?) → va_S A0 H0 H1 locs1 → W p l e R s m args below meth c H1 locs1 (cells + mc) (slots + ms) Q (F0 m (pc + 3) ls (.int r :: rest))) : W p l e R s m args below meth c H locs cells slots Q (F0 m pc ls st0) := by
  intro T hT X
  rcases hr T hT X with ⟨v, st₀, t, T', L, h0, X', hL, e1, e2, ⟨⟨r, u, hv, hp, hb⟩, hF⟩, st⟩ | ⟨q, st₀, t, T', L, E, ce, h0, X', hL, e1, e2, ⟨u, hp, hb, hF⟩, hce, hcv, hcl, st⟩
  · cases hv
    obtain ⟨k1, k2, k3⟩ := vx_keep h0 e1 hS hA hf hL hF
    obtain ⟨t2, a1, b1⟩ := kk r u t T'.heap (locs ++ L) e1.symm (by rw [← e2]; exact X'.warmed.alike) hp hb k1 k2 k3 T' rfl X'
    exact ⟨t2, st t2 a1, b1⟩
  · obtain ⟨k1, k2, k3⟩ := vx_keep h0 e1 hS hAX hf hL hF
    obtain ⟨t2, a1, b1⟩ := kx E ce q u t T'.heap (locs ++ L) e1.symm (by rw [← e2]; exact X'.warmed.alike) hp hb k1 k2 k3 (by rw [e1]; exact hce) hcv hcl T' rfl X'
    exact ⟨t2, st.trans a1, b1⟩
theorem vx_calll {S SX : Type} {post : Int64 → S → Prop} {px : SX → Prop} {B : S → State → Prop} {BX : String → SX → State → Prop} {AX : Nat → Prop} (hr : vx_Run p l e R s m args below meth c H locs cells slots mc ms (F0 m pc ls st0) rest (va_Ql post B A1 a) (vx_X px BX AX) free) (hS : va_S A0 H0 H locs) (hA : ∀ q, q < H.size → A1 q → A0 q) (hf : ∀ q, free q → A0 q) (hAX : ∀ q, q < H.size → AX q → A0 q)
    (kx : ∀ (E : String) (ce : Cell) (q9 : Addr) (u : SX) (t : State) (H1 : Heap) (locs1 : List Loc), t.heap = H1 → s.vm.Alike t.vm → px u → BX E u t → H.size ≤ H1.size → (∀ q : Nat, q < H.size → ¬ AX q → H1[q]? = H[q]?) → va_S A0 H0 H1 locs1 → H1[q9]? = some ce → ce.vm = .none → s.vm.findClass E = some ce.cls → vx_W p l e R s m args below meth c H1 locs1 (cells + mc) (slots + ms) Q (F0 m pc ls rest) q9)
    (kk : ∀ (r : Int64) (u : S) (t : State) (H1 : Heap) (locs1 : List Loc), t.heap = H1 → s.vm.Alike t.vm → post r u → B u t → H.size ≤ H1.size → (∀ q : Nat, q < H.size → ¬ A1 q → H1[q]? = H[q]?) → va_S A0 H0 H1 locs1 → W p l e R s m args below meth c H1 locs1 (cells + mc) (slots + ms) Q (F0 m (pc + 3) ls (.long r :: rest))) : W p l e R s m args below meth c H locs cells slots Q (F0 m pc ls st0) := by
  intro T hT X
  rcases hr T hT X with ⟨v, st₀, t, T', L, h0, X', hL, e1, e2, ⟨⟨r, u, hv, hp, hb⟩, hF⟩, st⟩ | ⟨q, st₀, t, T', L, E, ce, h0, X', hL, e1, e2, ⟨u, hp, hb, hF⟩, hce, hcv, hcl, st⟩
  · cases hv
    obtain ⟨k1, k2, k3⟩ := vx_keep h0 e1 hS hA hf hL hF
    obtain ⟨t2, a1, b1⟩ := kk r u t T'.heap (locs ++ L) e1.symm (by rw [← e2]; exact X'.warmed.alike) hp hb k1 k2 k3 T' rfl X'
    exact ⟨t2, st t2 a1, b1⟩
  · obtain ⟨k1, k2, k3⟩ := vx_keep h0 e1 hS hAX hf hL hF
    obtain ⟨t2, a1, b1⟩ := kx E ce q u t T'.heap (locs ++ L) e1.symm (by rw [← e2]; exact X'.warmed.alike) hp hb k1 k2 k3 (by rw [e1]; exact hce) hcv hcl T' rfl X'
    exact ⟨t2, st.trans a1, b1⟩
theorem vx_callf {S SX : Type} {post : UInt32 → S → Prop} {px : SX → Prop} {B : S → State → Prop} {BX : String → SX → State → Prop} {AX : Nat → Prop} (hr : vx_Run p l e R s m args below meth c H locs cells slots mc ms (F0 m pc ls st0) rest (va_Qf post B A1 a) (vx_X px BX AX) free) (hS : va_S A0 H0 H locs) (hA : ∀ q, q < H.size → A1 q → A0 q) (hf : ∀ q, free q → A0 q) (hAX : ∀ q, q < H.size → AX q → A0 q)
    (kx : ∀ (E : String) (ce : Cell) (q9 : Addr) (u : SX) (t : State) (H1 : Heap) (locs1 : List Loc), t.heap = H1 → s.vm.Alike t.vm → px u → BX E u t → H.size ≤ H1.size → (∀ q : Nat, q < H.size → ¬ AX q → H1[q]? = H[q]?) → va_S A0 H0 H1 locs1 → H1[q9]? = some ce → ce.vm = .none → s.vm.findClass E = some ce.cls → vx_W p l e R s m args below meth c H1 locs1 (cells + mc) (slots + ms) Q (F0 m pc ls rest) q9)
    (kk : ∀ (r : UInt32) (u : S) (t : State) (H1 : Heap) (locs1 : List Loc), t.heap = H1 → s.vm.Alike t.vm → post r u → B u t → H.size ≤ H1.size → (∀ q : Nat, q < H.size → ¬ A1 q → H1[q]? = H[q]?) → va_S A0 H0 H1 locs1 → W p l e R s m args below meth c H1 locs1 (cells + mc) (slots + ms) Q (F0 m (pc + 3) ls (.float r :: rest))) : W p l e R s m args below meth c H locs cells slots Q (F0 m pc ls st0) := by
  intro T hT X
  rcases hr T hT X with ⟨v, st₀, t, T', L, h0, X', hL, e1, e2, ⟨⟨r, u, hv, hp, hb⟩, hF⟩, st⟩ | ⟨q, st₀, t, T', L, E, ce, h0, X', hL, e1, e2, ⟨u, hp, hb, hF⟩, hce, hcv, hcl, st⟩
  · cases hv
    obtain ⟨k1, k2, k3⟩ := vx_keep h0 e1 hS hA hf hL hF
    obtain ⟨t2, a1, b1⟩ := kk r u t T'.heap (locs ++ L) e1.symm (by rw [← e2]; exact X'.warmed.alike) hp hb k1 k2 k3 T' rfl X'
    exact ⟨t2, st t2 a1, b1⟩
  · obtain ⟨k1, k2, k3⟩ := vx_keep h0 e1 hS hAX hf hL hF
    obtain ⟨t2, a1, b1⟩ := kx E ce q u t T'.heap (locs ++ L) e1.symm (by rw [← e2]; exact X'.warmed.alike) hp hb k1 k2 k3 (by rw [e1]; exact hce) hcv hcl T' rfl X'
    exact ⟨t2, st.trans a1, b1⟩
theorem vx_calld {S SX : Type} {post : UInt64 → S → Prop} {px : SX → Prop} {B : S → State → Prop} {BX : String → SX → State → Prop} {AX : Nat → Prop} (hr : vx_Run p l e R s m args below meth c H locs cells slots mc ms (F0 m pc ls st0) rest (va_Qd post B A1 a) (vx_X px BX AX) free) (hS : va_S A0 H0 H locs) (hA : ∀ q, q < H.size → A1 q → A0 q) (hf : ∀ q, free q → A0 q) (hAX : ∀ q, q < H.size → AX q → A0 q)
    (kx : ∀ (E : String) (ce : Cell) (q9 : Addr) (u : SX) (t : State) (H1 : Heap) (locs1 : List Loc), t.heap = H1 → s.vm.Alike t.vm → px u → BX E u t → H.size ≤ H1.size → (∀ q : Nat, q < H.size → ¬ AX q → H1[q]? = H[q]?) → va_S A0 H0 H1 locs1 → H1[q9]? = some ce → ce.vm = .none → s.vm.findClass E = some ce.cls → vx_W p l e R s m args below meth c H1 locs1 (cells + mc) (slots + ms) Q (F0 m pc ls rest) q9)
    (kk : ∀ (r : UInt64) (u : S) (t : State) (H1 : Heap) (locs1 : List Loc), t.heap = H1 → s.vm.Alike t.vm → post r u → B u t → H.size ≤ H1.size → (∀ q : Nat, q < H.size → ¬ A1 q → H1[q]? = H[q]?) → va_S A0 H0 H1 locs1 → W p l e R s m args below meth c H1 locs1 (cells + mc) (slots + ms) Q (F0 m (pc + 3) ls (.double r :: rest))) : W p l e R s m args below meth c H locs cells slots Q (F0 m pc ls st0) := by
  intro T hT X
  rcases hr T hT X with ⟨v, st₀, t, T', L, h0, X', hL, e1, e2, ⟨⟨r, u, hv, hp, hb⟩, hF⟩, st⟩ | ⟨q, st₀, t, T', L, E, ce, h0, X', hL, e1, e2, ⟨u, hp, hb, hF⟩, hce, hcv, hcl, st⟩
  · cases hv
    obtain ⟨k1, k2, k3⟩ := vx_keep h0 e1 hS hA hf hL hF
    obtain ⟨t2, a1, b1⟩ := kk r u t T'.heap (locs ++ L) e1.symm (by rw [← e2]; exact X'.warmed.alike) hp hb k1 k2 k3 T' rfl X'
    exact ⟨t2, st t2 a1, b1⟩
  · obtain ⟨k1, k2, k3⟩ := vx_keep h0 e1 hS hAX hf hL hF
    obtain ⟨t2, a1, b1⟩ := kx E ce q u t T'.heap (locs ++ L) e1.symm (by rw [← e2]; exact X'.warmed.alike) hp hb k1 k2 k3 (by rw [e1]; exact hce) hcv hcl T' rfl X'
    exact ⟨t2, st.trans a1, b1⟩
theorem vx_callv {S SX : Type} {post : S → Prop} {px : SX → Prop} {B : S → State → Prop} {BX : String → SX → State → Prop} {AX : Nat → Prop} (hr : vx_Run p l e R s m args below meth c H locs cells slots mc ms (F0 m pc ls st0) rest (va_Qv post B A1 a) (vx_X px BX AX) free) (hS : va_S A0 H0 H locs) (hA : ∀ q, q < H.size → A1 q → A0 q) (hf : ∀ q, free q → A0 q) (hAX : ∀ q, q < H.size → AX q → A0 q)
    (kx : ∀ (E : String) (ce : Cell) (q9 : Addr) (u : SX) (t : State) (H1 : Heap) (locs1 : List Loc), t.heap = H1 → s.vm.Alike t.vm → px u → BX E u t → H.size ≤ H1.size → (∀ q : Nat, q < H.size → ¬ AX q → H1[q]? = H[q]?) → va_S A0 H0 H1 locs1 → H1[q9]? = some ce → ce.vm = .none → s.vm.findClass E = some ce.cls → vx_W p l e R s m args below meth c H1 locs1 (cells + mc) (slots + ms) Q (F0 m pc ls rest) q9)
    (kk : ∀ (u : S) (t : State) (H1 : Heap) (locs1 : List Loc), t.heap = H1 → s.vm.Alike t.vm → post u → B u t → H.size ≤ H1.size → (∀ q : Nat, q < H.size → ¬ A1 q → H1[q]? = H[q]?) → va_S A0 H0 H1 locs1 → W p l e R s m args below meth c H1 locs1 (cells + mc) (slots + ms) Q (F0 m (pc + 3) ls (rest))) : W p l e R s m args below meth c H locs cells slots Q (F0 m pc ls st0) := by
  intro T hT X
  rcases hr T hT X with ⟨v, st₀, t, T', L, h0, X', hL, e1, e2, ⟨⟨u, hv, hp, hb⟩, hF⟩, st⟩ | ⟨q, st₀, t, T', L, E, ce, h0, X', hL, e1, e2, ⟨u, hp, hb, hF⟩, hce, hcv, hcl, st⟩
  · cases hv
    obtain ⟨k1, k2, k3⟩ := vx_keep h0 e1 hS hA hf hL hF
    obtain ⟨t2, a1, b1⟩ := kk u t T'.heap (locs ++ L) e1.symm (by rw [← e2]; exact X'.warmed.alike) hp hb k1 k2 k3 T' rfl X'
    exact ⟨t2, st t2 a1, b1⟩
  · obtain ⟨k1, k2, k3⟩ := vx_keep h0 e1 hS hAX hf hL hF
    obtain ⟨t2, a1, b1⟩ := kx E ce q u t T'.heap (locs ++ L) e1.symm (by rw [← e2]; exact X'.warmed.alike) hp hb k1 k2 k3 (by rw [e1]; exact hce) hcv hcl T' rfl X'
    exact ⟨t2, st.trans a1, b1⟩
/-- caught by the row x of this method's table; the rows ahead don't take it -/
theorem vx_catch {own name : String} {E : String} {ce : Cell} {q : Addr} (hown : s.vm.findClass own = some m.cls) (pre : List ExceptionTableEntry) (x : ExceptionTableEntry) (suf : List ExceptionTableEntry) (hsplit : c.exceptionTable.toList = pre ++ x :: suf)
    (hpass : ∀ z ∈ pre, covers z pc = false ∨ (z.catchType ≠ 0 ∧ ∃ nm : String, (Cond.classLink own z.catchType nm).before args s = true ∧ va_Nc E nm s)) (hx : covers x pc = true) (h0 : x.catchType ≠ 0)
    (hlink : (Cond.classLink own x.catchType name).before args s = true) (hcast : (Cond.castable E name).before args s = true) (hcell : H[q]? = some ce) (hv : ce.vm = .none) (hcl : s.vm.findClass E = some ce.cls)
    (kk : W p l e R s m args below meth c H locs cells slots Q (F0 m x.handlerPc ls [.ref q])) : vx_W p l e R s m args below meth c H locs cells slots Q (F0 m pc ls rest) q := by
  intro T hT X
  have hpl : e.platform.magicAccessors = ({} : Platform).magicAccessors := by rw [X.admits.platform]
  obtain ⟨c3, c4, hc3, hc4, hasg⟩ := Cond.castable_spec hcast
  cases Option.some.inj (hc3.symm.trans hcl)
  obtain ⟨c5, hc5, hcl5⟩ := Cond.classLink_spec hown hlink e.platform hpl
  cases Option.some.inj (hc4.symm.trans hc5)
  obtain ⟨vm', X', st⟩ := X.thenCaughtThrough q (g := F0 m pc ls rest) rfl (Steps.refl _) (by rw [hT]; exact hcell) (by rw [hv]; rfl) (by obtain ⟨k9, h9, -⟩ := Vm.findClass_spec hcl; exact ⟨k9, h9⟩) pre x suf hsplit
    (fun z hz => by
      rcases hpass z hz with h | ⟨hz0, nm, hl1, hn1⟩
      · exact Or.inl h
      · obtain ⟨c6, hc6, hcl6⟩ := Cond.classLink_spec hown hl1 e.platform hpl
        obtain ⟨a8, b8, h1, h2, h3⟩ := hn1
        cases Option.some.inj (h1.symm.trans hcl)
        cases Option.some.inj (h2.symm.trans hc6)
        exact Or.inr ⟨hz0, _, hcl6, h3⟩) hx (Or.inr ⟨h0, c4, hcl5, hasg⟩)
  obtain ⟨t, a1, b1⟩ := kk (T.setVm vm') hT X'
  exact ⟨t, st.trans a1, b1⟩
end Rows
section Ends
variable {p : Program} {l : Launch} {e : Env} {R : Room} {s : State} {m : MethodId} {args : Array Value} {below : List Frame} {meth : Method} {c : Code} {H : Heap} {locs : List Loc} {cells slots : Nat} {Q : State → Prop}
variable {mc ms : Nat} {free : Addr → Prop} {A0 A1 : Nat → Prop} {H0 : Heap} {a : Array Value} {ls : Array Slot} {st0 rest : List Value}
variable {Qc : Array Value → State → Outcome → State → Prop} {XC : String → State → State → Prop}
/-- what a body that may throw owes at its end -/
def vx_MQ (below : List Frame) (Qc : Array Value → State → Outcome → State → Prop) (XC : String → State → State → Prop) (a : Array Value) (s : State) (mc ms : Nat) (free : Addr → Prop) : State → Prop := fun t =>
  ∃ o, t.status = .running ∧ Ended t below o ∧ vx_Q Qc XC mc ms free a s o t
theorem vx_ret {g : JFrame} {mc ms : Nat} (k : W p l e R s m args below meth c H locs cells slots (MQ below Qc args s mc ms free) g) : W p l e R s m args below meth c H locs cells slots (vx_MQ below Qc XC args s mc ms free) g := by
  intro T hT X
  obtain ⟨t, a1, o, b1, b2, b3, b4⟩ := k T hT X
  exact ⟨t, a1, o, b1, b2, Or.inl ⟨b3, b4⟩⟩
/-- not caught here: it goes on to the caller -/
theorem vx_widen {g : JFrame} {q : Addr} {k n : Nat} (h1 : cells ≤ k) (h2 : slots ≤ n) (kk : vx_W p l e R s m args below meth c H locs k n Q g q) : vx_W p l e R s m args below meth c H locs cells slots Q g q := fun T hT X => kk T hT (stand_widen X h1 h2)
theorem vx_out {pc : Nat} {E : String} {ce : Cell} {q : Addr} {mc ms : Nat} (hout : ∀ x ∈ c.exceptionTable.toList, covers x pc = false) (hlocks : meth.locks = false) (hcell : H[q]? = some ce) (hv : ce.vm = .none) (hcl : s.vm.findClass E = some ce.cls)
    (hx : ∀ t : State, t.heap = H → s.vm.Alike t.vm → XC E s t) (hf : ∀ z ∈ locs, free z.base) (hc : cells ≤ mc) (hs : slots ≤ ms) :
    vx_W p l e R s m args below meth c H locs cells slots (vx_MQ below Qc XC args s mc ms free) (F0 m pc ls rest) q := by
  intro T hT X
  obtain ⟨st1, hrun, hend, hW, hsm⟩ := X.leaveThrown q (g := F0 m pc ls rest) rfl rfl rfl hout hlocks
  have hcell9 : (T.setFrames (.throwing q :: below)).heap[q]? = some ce := by
    show T.heap[q]? = some ce
    rw [hT]; exact hcell
  exact ⟨_, st1, .threw q, hrun, hend, Or.inr ⟨q, rfl, E, ce, locs, hx _ hT hW.alike, hcell9, hv, hcl, hW, hsm.mono hc hs, hf⟩⟩
theorem vx_frame {U : State} {k n : Nat} (h : s.sameButNew ({ U with vm := s.vm } : State) locs k n) : s.heap.size ≤ U.heap.size ∧ ∀ q : Nat, q < s.heap.size → (∀ z ∈ locs, z.base ≠ q) → U.heap[q]? = s.heap[q]? := by
  obtain ⟨-, h2, -, -, -, h6⟩ := h
  refine ⟨h2, fun q hq hz => ?_⟩
  obtain ⟨c9, e1, e2, e3, e4⟩ := h6 q _ (Array.getElem?_eq_getElem hq)
  have hs : c9.slots = (s.heap[q]).slots := Array.ext_getElem? fun i => e4 i fun hm => hz _ hm rfl
  have h9 : c9 = s.heap[q] := by
    rw [hs] at e2
    exact e2
  have e5 : U.heap[q]? = some c9 := e1
  rw [e5, h9, Array.getElem?_eq_getElem hq]
/-- the words of a throw but the four that speak of the heap -/
def vx_no (w : Cond) : Bool := decide (w ≠ .isRef (.static Bundle.tN "UNASSIGNED_STACK" Bundle.steD)) && decide (w ≠ .isRef (.static Bundle.tN "SUPPRESSED_SENTINEL" Bundle.listD)) && decide (w ≠ .laysStatic Bundle.tN "UNASSIGNED_STACK" Bundle.steD) && decide (w ≠ .laysStatic Bundle.tN "SUPPRESSED_SENTINEL" Bundle.listD)
def vx_at0 (own : String) (ic : Nat) (X : String) (names : List String) : List Cond := (Bundle.ownAtoms0 own ic X names).filter vx_no
def vx_atS (own : String) (ic : Nat) (X : String) (names : List String) : List Cond := (Bundle.ownAtoms own ic X names).filter vx_no
/-- a word that the tables alone decide, or a good one -/
def vx_ot (w : Cond) : Bool := w.onTables || goodWord w
theorem vx_ot_at {args a' : Array Value} {s U : State} {w : Cond} (hW : s.WarmedH U.vm) (hvm : s.vm = U.vm) (hg : vx_ot w = true) (h : w.before args s = true) : w.before a' U = true := by
  simp only [vx_ot, Bool.or_eq_true] at hg
  rcases hg with hg | hg
  · exact va_tabs hg hvm h
  · exact word_at hW (good_of_word hg) h
/-- a list's words: the good ones out of the method's own list, the others by premises of their own -/
theorem vx_hat {args : Array Value} {s : State} {L B : List Cond} (h1 : ∀ w ∈ L.filter goodWord, w.before args s = true) (h2 : ∀ w ∈ L.filter (fun w => !goodWord w), w ∈ B) (h3 : ∀ w ∈ B, w.before args s = true) : ∀ w ∈ L, w.before args s = true := by
  intro w hw
  by_cases g : goodWord w = true
  · exact h1 w (List.mem_filter.mpr ⟨hw, g⟩)
  · refine h3 w (h2 w (List.mem_filter.mpr ⟨hw, ?_⟩))
    show (!goodWord w) = true
    cases hgw : goodWord w
    · rfl
    · exact absurd hgw g
theorem vx_c {args : Array Value} {s : State} {w : Cond} {B : List Cond} (h : w.before args s = true) (t : ∀ w ∈ B, w.before args s = true) : ∀ w' ∈ w :: B, w'.before args s = true := fun w' h' => (List.mem_cons.mp h').elim (fun e => by rw [e]; exact h) (t w')
theorem vx_n {args : Array Value} {s : State} : ∀ w ∈ ([] : List Cond), w.before args s = true := fun _ h => nomatch h
theorem vx_own {args : Array Value} {s : State} {L : List Cond} (h1 : ∀ w ∈ L.filter vx_no, w.before args s = true)
    (hU : (Cond.isRef (.static Bundle.tN "UNASSIGNED_STACK" Bundle.steD)).before args s = true) (hN : (Cond.isRef (.static Bundle.tN "SUPPRESSED_SENTINEL" Bundle.listD)).before args s = true)
    (lU : (Cond.laysStatic Bundle.tN "UNASSIGNED_STACK" Bundle.steD).before args s = true) (lN : (Cond.laysStatic Bundle.tN "SUPPRESSED_SENTINEL" Bundle.listD).before args s = true) : ∀ w ∈ L, w.before args s = true := by
  intro w hw
  by_cases e1 : w = .isRef (.static Bundle.tN "UNASSIGNED_STACK" Bundle.steD)
  · rw [e1]; exact hU
  · by_cases e2 : w = .isRef (.static Bundle.tN "SUPPRESSED_SENTINEL" Bundle.listD)
    · rw [e2]; exact hN
    · by_cases e3 : w = .laysStatic Bundle.tN "UNASSIGNED_STACK" Bundle.steD
      · rw [e3]; exact lU
      · by_cases e4 : w = .laysStatic Bundle.tN "SUPPRESSED_SENTINEL" Bundle.listD
        · rw [e4]; exact lN
        · exact h1 w (List.mem_filter.mpr ⟨hw, by unfold vx_no; rw [decide_eq_true e1, decide_eq_true e2, decide_eq_true e3, decide_eq_true e4]; rfl⟩)
/-- where a static field lies, its class's statics cell in H -/
def vx_L (C n d : String) (A : Nat → Prop) (U : State) (H : Heap) : Prop := ∃ (c : ClassId) (k : Class) (i : Nat) (f : Field) (a : Nat) (cell : Cell), U.vm.findClass C = some c ∧ U.fieldFound? C n d = some (c, k, i, f) ∧ f.isStatic = true ∧ k.statics = some a ∧ H[a]? = some cell ∧ cell.vm.isStatics = true ∧ cell.cls = c ∧ f.slot < cell.slots.size ∧ k.staticTypes[f.slot]? = some f.type ∧ ¬ A a
theorem vx_L.moved {C n d : String} {A : Nat → Prop} {u U : State} {H : Heap} (hvm : u.vm.Alike U.vm) (h : vx_L C n d A u H) : vx_L C n d A U H := by
  obtain ⟨c, k, i, f, a, cell, h1, h2, h3, h4, h5, h6, h7, h8, h9, h10⟩ := h
  obtain ⟨k', hi', he⟩ := State.fieldFound?_setVm hvm h2
  exact ⟨c, k', i, f, a, cell, by rw [hvm.findClass]; exact h1, hi', h3, by rw [he]; exact h4, h5, h6, h7, h8, by rw [he]; exact h9, h10⟩
theorem vx_L.kept {C n d : String} {A : Nat → Prop} {U : State} {H H1 : Heap} (h : vx_L C n d A U H) (hq : ∀ a : Nat, a < H.size → ¬ A a → H1[a]? = H[a]?) : vx_L C n d A U H1 := by
  obtain ⟨c, k, i, f, a, cell, h1, h2, h3, h4, h5, h6, h7, h8, h9, h10⟩ := h
  exact ⟨c, k, i, f, a, cell, h1, h2, h3, h4, by rw [hq a (Array.getElem?_eq_some_iff.mp h5).1 h10]; exact h5, h6, h7, h8, h9, h10⟩
theorem vx_L.narrow {C n d : String} {A B : Nat → Prop} {U : State} {H : Heap} (h : vx_L C n d A U H) (hAB : ∀ q, B q → A q) : vx_L C n d B U H := by
  obtain ⟨c, k, i, f, a, cell, h1, h2, h3, h4, h5, h6, h7, h8, h9, h10⟩ := h
  exact ⟨c, k, i, f, a, cell, h1, h2, h3, h4, h5, h6, h7, h8, h9, fun z => h10 (hAB _ z)⟩
theorem vx_L.word {C n d : String} {A : Nat → Prop} {s : State} {args : Array Value} (h : vx_L C n d A s s.heap) : (Cond.laysStatic C n d).before args s = true := by
  obtain ⟨c, k, i, f, a, cell, h1, h2, h3, h4, h5, h6, h7, h8, h9, -⟩ := h
  show (Cond.laysStatic C n d).holds args s none s [] = true
  exact Cond.laysStatic_of h1 h2 h3 h4 h5 h6 h7 h8 h9
/-- .. and what it holds: null or some reference -/
def vx_Zq (C n d : String) (A : Nat → Prop) (U : State) (H : Heap) : Prop := va_Zq C n d A U H ∧ vx_L C n d A U H
theorem vx_Zq.moved {C n d : String} {A : Nat → Prop} {u U : State} {H : Heap} (hvm : u.vm.Alike U.vm) (h : vx_Zq C n d A u H) : vx_Zq C n d A U H := ⟨va_Zq.moved hvm h.1, vx_L.moved hvm h.2⟩
theorem vx_Zq.kept {C n d : String} {A : Nat → Prop} {U : State} {H H1 : Heap} (h : vx_Zq C n d A U H) (hq : ∀ a : Nat, a < H.size → ¬ A a → H1[a]? = H[a]?) : vx_Zq C n d A U H1 := ⟨va_Zq.kept h.1 hq, vx_L.kept h.2 hq⟩
theorem vx_Zq.narrow {C n d : String} {A B : Nat → Prop} {U : State} {H : Heap} (h : vx_Zq C n d A U H) (hAB : ∀ q, B q → A q) : vx_Zq C n d B U H := ⟨va_Zq.narrow h.1 hAB, vx_L.narrow h.2 hAB⟩
theorem vx_Zqof {args : Array Value} {s : State} {C n d : String} {A : Nat → Prop} (hl : (Cond.laysStatic C n d).before args s = true) (hini : (Cond.initialized C).before args s = true) (h : (Cond.isRef (.static C n d)).before args s = true) (hA : ∀ a : Nat, a < s.heap.size → ¬ A a) : vx_Zq C n d A s s.heap := by
  refine ⟨va_Zqof hl hini h hA, ?_⟩
  obtain ⟨c, k, i, f, a, cell, h1, h2, h3, h4, h5, h6, h7, h8, h9⟩ := Cond.laysStatic_spec hl
  exact ⟨c, k, i, f, a, cell, h1, h2, h3, h4, h5, h6, h7, h8, h9, hA a (Array.getElem?_eq_some_iff.mp h5).1⟩
theorem vx_isRef {C n d : String} {v : Value} {A : Nat → Prop} {s : State} {args : Array Value} (h : va_Z C n d v A s s.heap) (hv : v.isRef = true) : (Cond.isRef (.static C n d)).before args s = true := by
  obtain ⟨cf, kf, fi, f, a, cell, h1, h2, h3, h4, h5, h6, h7, -⟩ := h
  have he : (Term.static C n d).eval args s none [] s = some v := by
    simp [Term.eval, State.fieldNamed?, h1, h2, h4, h5, h6, h7]
  simp only [Cond.before, Cond.holds, Cond.value, he]
  cases v <;> simp_all [Value.isRef]
theorem vx_isRefq {C n d : String} {A : Nat → Prop} {s : State} {args : Array Value} (h : va_Zq C n d A s s.heap) : (Cond.isRef (.static C n d)).before args s = true := by
  rcases h with h | ⟨t, h⟩
  · exact vx_isRef h rfl
  · exact vx_isRef h rfl
/-- the same frame, seen from here: as if the method were called anew in this heap -/
theorem vx_rebase {T : State} (X : Stand p l e R s m args below meth c T locs cells slots) {R' : Room} (hf : R'.frames ≤ R.frames) (hl : R'.locals ≤ R.locals) (hc : cells + R'.cells ≤ R.cells) (hs : slots + R'.slots ≤ R.slots) :
    Stand p l e R' ((T.setVm s.vm).setFrames (.invoking m args :: below)) m args below meth c T [] 0 0 := by
  have htop : (T.setVm s.vm).topJava?.isSome := X.here.top
  have hF : ((T.setVm s.vm).setFrames (.invoking m args :: below)).frames = .invoking m args :: below := State.frames_setFrames _ (State.cur_lt_of_top htop)
  obtain ⟨g₀, hg0⟩ := Option.isSome_iff_exists.mp htop
  obtain ⟨r, hr⟩ := State.topJava?_eq_some.mp hg0
  have hl9 : e.platform.stackLimits (T.setVm s.vm).me = e.platform.stackLimits s.me := X.limits
  have hb9 : (T.setVm s.vm).me.stackBytes = s.me.stackBytes := X.bytes
  refine ⟨X.admits, X.cas, X.clock, hF, ?_, X.hears, X.method, X.code, X.here, X.tail, X.warmed, ?_, ?_, ?_⟩
  · have h := X.room
    have hU : ((T.setVm s.vm).setFrames (.invoking m args :: below)).localsInUse = s.localsInUse := by
      rw [State.localsInUse_invoking hF (meth := meth) (c := c) X.method X.code, State.localsInUse_invoking X.frames X.method X.code]
    simp only [State.hasRoom, Bool.and_eq_true, decide_eq_true_eq] at h ⊢
    obtain ⟨⟨⟨⟨h1, h2, h3, h4, h5, h6⟩, h7⟩, h8⟩, h9⟩ := h
    rw [X.frames, List.length_cons] at h2 h3
    have q1 := X.heapSize
    have q2 := X.used
    simp only [hF, hU, List.length_cons, State.stackLimits_setFrames, State.stackBytes_setFrames, hl9, hb9]
    refine ⟨⟨⟨⟨by omega, by omega, by omega, by omega, by omega, h6⟩, ?_⟩, ?_⟩, X.book⟩
    · show T.heap.size + R'.cells ≤ e.platform.maxCells
      omega
    · show T.slotsUsed + R'.slots ≤ e.platform.maxSlots
      omega
  · rw [State.stackLimits_setFrames]; rfl
  · rw [State.stackBytes_setFrames]; rfl
  · refine ⟨?_, Nat.le_refl _, Nat.le_refl _, ?_, ?_, fun a c9 h9 => ⟨c9, h9, rfl, rfl, fun _ _ => rfl⟩⟩
    · obtain ⟨t, ht, -⟩ := State.frames_cons hr
      show T.setVm s.vm = { ((T.setVm s.vm).setFrames (.invoking m args :: below)).setFrames (T.setVm s.vm).frames with heap := T.heap, slotsUsed := T.slotsUsed }
      rw [State.setFrames_setFrames, State.setFrames_self ht]
      rfl
    · show T.slotsUsed = T.slotsUsed + ((T.heap.toList.drop T.heap.size).map (·.slots.size)).sum
      rw [List.drop_eq_nil_of_le (Nat.le_of_eq Array.length_toList)]
      rfl
    · show ((T.heap.toList.drop T.heap.size).map (·.slots.size)).sum ≤ 0
      rw [List.drop_eq_nil_of_le (Nat.le_of_eq Array.length_toList)]
      exact Nat.le_refl _
/-- 'throw new E()': new; dup; invokespecial; athrow -/
theorem vx_throw0 {cc : ByteArray} {pc : Nat} (hexec : p.tables.exec = Jvm.exec) (hb : c.code = cc) (hl : l.stackTraces = false) {own cls : String} {names : List String} {ik ic mc ms : Nat} {A : Nat → Prop}
    (hown : s.vm.findClass own = some m.cls) (hcls : Bundle.fit cls = true) (hnames : ∀ n ∈ names, Bundle.fit n = true)
    (hk : (Cond.classLink own ik cls).before args s = true) (hini : (Cond.initialized cls).before args s = true) (hat : ∀ w ∈ vx_at0 own ic cls names, w.before args s = true)
    (hgood : ∀ w ∈ Cond.classLink own ik cls :: Cond.initialized cls :: vx_at0 own ic cls names, vx_ot w = true)
    (hU : vx_Zq Bundle.tN "UNASSIGNED_STACK" Bundle.steD A s s.heap) (hN : vx_Zq Bundle.tN "SUPPRESSED_SENTINEL" Bundle.listD A s s.heap) (hS : va_S A s.heap H locs) (hsize : ls.size = c.maxLocals)
    (d0 : decode cc pc = .ok (.new ik, 3)) (d3 : decode cc (pc + 3) = .ok (.dup, 1)) (d4 : decode cc (pc + 4) = .ok (.invokespecial ic, 3)) (d7 : decode cc (pc + 7) = .ok (.athrow, 1))
    (hout : ∀ x ∈ c.exceptionTable.toList, covers x (pc + 7) = false)
    (hRframes : names.length + 3 < R.frames) (hRlocals : (rest.map fun v => v.category).sum + (13 * (names.length + 1) + 42) ≤ R.locals) (hRcells : cells + 1 ≤ R.cells) (hRslots : slots + 6 ≤ R.slots) (hlocks : meth.locks = false)
    (hx : ∀ t : State, s.vm.Alike t.vm → H.size ≤ t.heap.size → (∀ q : Nat, q < H.size → t.heap[q]? = H[q]?) → XC cls s t)
    (hf : ∀ z ∈ locs, free z.base) (hc : cells + 1 ≤ mc) (hs : slots + 6 ≤ ms) :
    W p l e R s m args below meth c H locs cells slots (vx_MQ below Qc XC args s mc ms free) (F0 m pc ls rest) := by
  intro T hT X
  have htr : e.platform.stackTraces = false := (show e.platform.stackTraces = l.stackTraces by rw [X.admits.platform]).trans hl
  have Y := vx_rebase X (R' := { frames := R.frames, locals := R.locals, cells := 1, slots := 6 }) (Nat.le_refl _) (Nat.le_refl _) hRcells hRslots
  obtain ⟨s', hA⟩ : ∃ z, z = (T.setVm s.vm).setFrames (.invoking m args :: below) := ⟨_, rfl⟩
  rw [← hA] at Y
  have hvm : s'.vm = s.vm := by rw [hA]; rfl
  have hhp : s'.heap = H := by rw [hA]; exact hT
  have hW0 : s.WarmedH s'.vm := by rw [hvm]; exact State.WarmedH.refl s
  have hat' : ∀ w ∈ vx_at0 own ic cls names, w.before args s' = true := fun w hw => vx_ot_at hW0 hvm.symm (hgood w (List.mem_cons_of_mem _ (List.mem_cons_of_mem _ hw))) (hat w hw)
  have hk' : (Cond.classLink own ik cls).before args s' = true := vx_ot_at hW0 hvm.symm (hgood _ List.mem_cons_self) hk
  have hini' : (Cond.initialized cls).before args s' = true := vx_ot_at hW0 hvm.symm (hgood _ (List.mem_cons_of_mem _ List.mem_cons_self)) hini
  have hU' : vx_Zq Bundle.tN "UNASSIGNED_STACK" Bundle.steD A s' s'.heap := by rw [hhp]; exact vx_Zq.moved hW0.alike (hU.kept hS.2.1)
  have hN' : vx_Zq Bundle.tN "SUPPRESSED_SENTINEL" Bundle.listD A s' s'.heap := by rw [hhp]; exact vx_Zq.moved hW0.alike (hN.kept hS.2.1)
  have h : ∀ w ∈ Bundle.ownAtoms0 own ic cls names, w.before args s' = true := vx_own hat' (vx_isRefq hU'.1) (vx_isRefq hN'.1) hU'.2.word hN'.2.word
  have hown' : s'.vm.findClass own = some m.cls := by rw [hvm]; exact hown
  have hins : (Cond.instantiable cls 6).before args s' = true := h _ (by simp [Bundle.ownAtoms0])
  obtain ⟨vm₁, cX, kX, hfX, hkX, -, -, X₁, st1⟩ := Y.newCold hexec (own := own) (C := cls) (index := ik) (n := 6) hown' hk' hins hini'
    (g := F0 m pc ls rest) rfl (by rw [hb]; exact d0) (Nat.le_refl _) (Nat.le_refl _)
  generalize hT1 : (T.setVm vm₁).pushCell { cls := cX, slots := kX.instanceTypes.map defaultValue, vm := .none } = T1 at X₁ st1
  have hcat : (Value.ref T.heap.size).category = 1 := rfl
  have hcellA : T1.heap[T.heap.size]? = some (freshCell cX kX) := by rw [← hT1]; exact State.heap_pushCell_size _ _
  have d3' : decode c.code (pc + 3) = .ok (.dup, 1) := by rw [hb]; exact d3
  obtain ⟨U, hsteps, hrun, hend, hW, hsame, ce, hce, hO⟩ := X₁.ctorThrow0 hexec htr (own := own) (cls := cls) (names := names) (ic := ic) hown' hcls hnames h (fun x hx => nomatch hx) hfX hkX hcellA (by rw [hhp, hT]; exact Nat.le_refl _)
    (g := { method := m, pc := pc + 4, locals := ls, stack := .ref T.heap.size :: .ref T.heap.size :: rest, locked := none }) rfl hsize rfl rfl (rest := rest) rfl
    (by rw [hb]; exact d4) (by rw [hb]; exact d7) hout hRframes (by simp only [List.map_cons, List.sum_cons, hcat]; omega) hlocks
  obtain ⟨f1, f2⟩ := vx_frame hsame
  rw [hhp] at f1 f2
  have hWs : s.WarmedH U.vm := State.WarmedH.trans hW0 hW
  have hcl : s.vm.findClass cls = some ce.cls := by
    have h9 := hO.cls
    rw [hvm] at h9
    exact h9
  have hall : s.sameButNew ({ U with vm := s.vm } : State) locs mc ms := by
    subst hA
    obtain ⟨e1, e2⟩ := hsame
    rw [State.setFrames_setFrames] at e1
    have h2 : (T.setVm s.vm).sameButNew ({ U with vm := s.vm } : State) [] (0 + 1) (0 + 6) := ⟨e1, e2⟩
    have h3 := X.same.trans h2
    rw [List.append_nil] at h3
    exact h3.mono hc hs
  refine ⟨U, ?_, .threw T.heap.size, hrun, hend, Or.inr ⟨T.heap.size, rfl, cls, ce, locs, hx U hWs.alike f1 (fun q hq => f2 q hq (fun z hz => nomatch hz)), hce, hO.vm, hcl, hWs, hall, hf⟩⟩
  refine st1 _ ?_
  show Steps p.tables e below (T1.setTop { method := m, pc := pc + 3, locals := ls, stack := .ref T.heap.size :: rest, locked := none }) _
  jvm_step X₁.here [X₁.here.top, hexec, d3', Value.category]
  exact hsteps
/-- 'throw new E("text")': new; dup; ldc; invokespecial; athrow -/
theorem vx_throwS {cc : ByteArray} {pc : Nat} (hexec : p.tables.exec = Jvm.exec) (hb : c.code = cc) (hl : l.stackTraces = false) {own cls text : String} {names : List String} {ik is ic mc ms sa : Nat} {A : Nat → Prop}
    (hown : s.vm.findClass own = some m.cls) (hcls : Bundle.fit cls = true) (hnames : ∀ n ∈ names, Bundle.fit n = true)
    (hk : (Cond.classLink own ik cls).before args s = true) (hini : (Cond.initialized cls).before args s = true) (hstr : vk_R own is text sa s) (hat : ∀ w ∈ vx_atS own ic cls names, w.before args s = true)
    (hgood : ∀ w ∈ Cond.classLink own ik cls :: Cond.initialized cls :: vx_atS own ic cls names, vx_ot w = true)
    (hU : vx_Zq Bundle.tN "UNASSIGNED_STACK" Bundle.steD A s s.heap) (hN : vx_Zq Bundle.tN "SUPPRESSED_SENTINEL" Bundle.listD A s s.heap) (hS : va_S A s.heap H locs) (hsize : ls.size = c.maxLocals)
    (d0 : decode cc pc = .ok (.new ik, 3)) (d3 : decode cc (pc + 3) = .ok (.dup, 1)) (d4 : decode cc (pc + 4) = .ok (.ldc is, 2)) (d6 : decode cc (pc + 6) = .ok (.invokespecial ic, 3)) (d9 : decode cc (pc + 9) = .ok (.athrow, 1))
    (hout : ∀ x ∈ c.exceptionTable.toList, covers x (pc + 9) = false)
    (hRframes : names.length + 3 < R.frames) (hRlocals : (rest.map fun v => v.category).sum + (13 * (names.length + 1) + 43) ≤ R.locals) (hRcells : cells + 1 ≤ R.cells) (hRslots : slots + 6 ≤ R.slots) (hlocks : meth.locks = false)
    (hx : ∀ t : State, s.vm.Alike t.vm → H.size ≤ t.heap.size → (∀ q : Nat, q < H.size → t.heap[q]? = H[q]?) → XC cls s t)
    (hf : ∀ z ∈ locs, free z.base) (hc : cells + 1 ≤ mc) (hs : slots + 6 ≤ ms) :
    W p l e R s m args below meth c H locs cells slots (vx_MQ below Qc XC args s mc ms free) (F0 m pc ls rest) := by
  intro T hT X
  have htr : e.platform.stackTraces = false := (show e.platform.stackTraces = l.stackTraces by rw [X.admits.platform]).trans hl
  have Y := vx_rebase X (R' := { frames := R.frames, locals := R.locals, cells := 1, slots := 6 }) (Nat.le_refl _) (Nat.le_refl _) hRcells hRslots
  obtain ⟨s', hA⟩ : ∃ z, z = (T.setVm s.vm).setFrames (.invoking m args :: below) := ⟨_, rfl⟩
  rw [← hA] at Y
  have hvm : s'.vm = s.vm := by rw [hA]; rfl
  have hhp : s'.heap = H := by rw [hA]; exact hT
  have hW0 : s.WarmedH s'.vm := by rw [hvm]; exact State.WarmedH.refl s
  have hat' : ∀ w ∈ vx_atS own ic cls names, w.before args s' = true := fun w hw => vx_ot_at hW0 hvm.symm (hgood w (List.mem_cons_of_mem _ (List.mem_cons_of_mem _ hw))) (hat w hw)
  have hk' : (Cond.classLink own ik cls).before args s' = true := vx_ot_at hW0 hvm.symm (hgood _ List.mem_cons_self) hk
  have hini' : (Cond.initialized cls).before args s' = true := vx_ot_at hW0 hvm.symm (hgood _ (List.mem_cons_of_mem _ List.mem_cons_self)) hini
  have hU' : vx_Zq Bundle.tN "UNASSIGNED_STACK" Bundle.steD A s' s'.heap := by rw [hhp]; exact vx_Zq.moved hW0.alike (hU.kept hS.2.1)
  have hN' : vx_Zq Bundle.tN "SUPPRESSED_SENTINEL" Bundle.listD A s' s'.heap := by rw [hhp]; exact vx_Zq.moved hW0.alike (hN.kept hS.2.1)
  have h : ∀ w ∈ Bundle.ownAtoms own ic cls names, w.before args s' = true := vx_own hat' (vx_isRefq hU'.1) (vx_isRefq hN'.1) hU'.2.word hN'.2.word
  have hown' : s'.vm.findClass own = some m.cls := by rw [hvm]; exact hown
  have hins : (Cond.instantiable cls 6).before args s' = true := h _ (by simp [Bundle.ownAtoms])
  obtain ⟨vm₁, cX, kX, hfX, hkX, -, -, X₁, st1⟩ := Y.newCold hexec (own := own) (C := cls) (index := ik) (n := 6) hown' hk' hins hini'
    (g := F0 m pc ls rest) rfl (by rw [hb]; exact d0) (Nat.le_refl _) (Nat.le_refl _)
  generalize hT1 : (T.setVm vm₁).pushCell { cls := cX, slots := kX.instanceTypes.map defaultValue, vm := .none } = T1 at X₁ st1
  have hcat : (Value.ref T.heap.size).category = 1 := rfl
  have hcellA : T1.heap[T.heap.size]? = some (freshCell cX kX) := by rw [← hT1]; exact State.heap_pushCell_size _ _
  have d3' : decode c.code (pc + 3) = .ok (.dup, 1) := by rw [hb]; exact d3
  have d4' : decode c.code (pc + 4) = .ok (.ldc is, 2) := by rw [hb]; exact d4
  have hstr' : vk_R own is text sa s' := vk_R.warm hW0 hstr
  obtain ⟨U, hsteps, hrun, hend, hW, hsame, ce, hce, hO⟩ := X₁.ctorThrowS hexec htr (own := own) (cls := cls) (names := names) (ic := ic) hown' hcls hnames h (fun x hx => nomatch hx) hfX hkX hcellA (by rw [hhp, hT]; exact Nat.le_refl _) (msg := .ref sa) rfl
    (g := { method := m, pc := pc + 6, locals := ls, stack := .ref sa :: .ref T.heap.size :: .ref T.heap.size :: rest, locked := none }) rfl hsize rfl rfl (rest := rest) rfl
    (by rw [hb]; exact d6) (by rw [hb]; exact d9) hout hRframes (by simp only [List.map_cons, List.sum_cons, hcat]; omega) hlocks
  obtain ⟨f1, f2⟩ := vx_frame hsame
  rw [hhp] at f1 f2
  have hWs : s.WarmedH U.vm := State.WarmedH.trans hW0 hW
  have hcl : s.vm.findClass cls = some ce.cls := by
    have h9 := hO.cls
    rw [hvm] at h9
    exact h9
  have hall : s.sameButNew ({ U with vm := s.vm } : State) locs mc ms := by
    subst hA
    obtain ⟨e1, e2⟩ := hsame
    rw [State.setFrames_setFrames] at e1
    have h2 : (T.setVm s.vm).sameButNew ({ U with vm := s.vm } : State) [] (0 + 1) (0 + 6) := ⟨e1, e2⟩
    have h3 := X.same.trans h2
    rw [List.append_nil] at h3
    exact h3.mono hc hs
  refine ⟨U, ?_, .threw T.heap.size, hrun, hend, Or.inr ⟨T.heap.size, rfl, cls, ce, locs, hx U hWs.alike f1 (fun q hq => f2 q hq (fun z hz => nomatch hz)), hce, hO.vm, hcl, hWs, hall, hf⟩⟩
  refine st1 _ ?_
  show Steps p.tables e below (T1.setTop { method := m, pc := pc + 3, locals := ls, stack := .ref T.heap.size :: rest, locked := none }) _
  jvm_step X₁.here [X₁.here.top, hexec, d3', Value.category]
  exact X₁.ldcString hexec (own := own) (text := text) (index := is) (a := sa) hown' hstr'.1 hstr'.2
    (g := { method := m, pc := pc + 4, locals := ls, stack := .ref T.heap.size :: .ref T.heap.size :: rest, locked := none }) rfl d4' _ hsteps
/-- 'throw new E("text")', the text by a wide index -/
theorem vx_throwSW {cc : ByteArray} {pc : Nat} (hexec : p.tables.exec = Jvm.exec) (hb : c.code = cc) (hl : l.stackTraces = false) {own cls text : String} {names : List String} {ik is ic mc ms sa : Nat} {A : Nat → Prop}
    (hown : s.vm.findClass own = some m.cls) (hcls : Bundle.fit cls = true) (hnames : ∀ n ∈ names, Bundle.fit n = true)
    (hk : (Cond.classLink own ik cls).before args s = true) (hini : (Cond.initialized cls).before args s = true) (hstr : vk_R own is text sa s) (hat : ∀ w ∈ vx_atS own ic cls names, w.before args s = true)
    (hgood : ∀ w ∈ Cond.classLink own ik cls :: Cond.initialized cls :: vx_atS own ic cls names, vx_ot w = true)
    (hU : vx_Zq Bundle.tN "UNASSIGNED_STACK" Bundle.steD A s s.heap) (hN : vx_Zq Bundle.tN "SUPPRESSED_SENTINEL" Bundle.listD A s s.heap) (hS : va_S A s.heap H locs) (hsize : ls.size = c.maxLocals)
    (d0 : decode cc pc = .ok (.new ik, 3)) (d3 : decode cc (pc + 3) = .ok (.dup, 1)) (d4 : decode cc (pc + 4) = .ok (.ldc_w is, 3)) (d7 : decode cc (pc + 7) = .ok (.invokespecial ic, 3)) (d10 : decode cc (pc + 10) = .ok (.athrow, 1))
    (hout : ∀ x ∈ c.exceptionTable.toList, covers x (pc + 10) = false)
    (hRframes : names.length + 3 < R.frames) (hRlocals : (rest.map fun v => v.category).sum + (13 * (names.length + 1) + 43) ≤ R.locals) (hRcells : cells + 1 ≤ R.cells) (hRslots : slots + 6 ≤ R.slots) (hlocks : meth.locks = false)
    (hx : ∀ t : State, s.vm.Alike t.vm → H.size ≤ t.heap.size → (∀ q : Nat, q < H.size → t.heap[q]? = H[q]?) → XC cls s t)
    (hf : ∀ z ∈ locs, free z.base) (hc : cells + 1 ≤ mc) (hs : slots + 6 ≤ ms) :
    W p l e R s m args below meth c H locs cells slots (vx_MQ below Qc XC args s mc ms free) (F0 m pc ls rest) := by
  intro T hT X
  have htr : e.platform.stackTraces = false := (show e.platform.stackTraces = l.stackTraces by rw [X.admits.platform]).trans hl
  have Y := vx_rebase X (R' := { frames := R.frames, locals := R.locals, cells := 1, slots := 6 }) (Nat.le_refl _) (Nat.le_refl _) hRcells hRslots
  obtain ⟨s', hA⟩ : ∃ z, z = (T.setVm s.vm).setFrames (.invoking m args :: below) := ⟨_, rfl⟩
  rw [← hA] at Y
  have hvm : s'.vm = s.vm := by rw [hA]; rfl
  have hhp : s'.heap = H := by rw [hA]; exact hT
  have hW0 : s.WarmedH s'.vm := by rw [hvm]; exact State.WarmedH.refl s
  have hat' : ∀ w ∈ vx_atS own ic cls names, w.before args s' = true := fun w hw => vx_ot_at hW0 hvm.symm (hgood w (List.mem_cons_of_mem _ (List.mem_cons_of_mem _ hw))) (hat w hw)
  have hk' : (Cond.classLink own ik cls).before args s' = true := vx_ot_at hW0 hvm.symm (hgood _ List.mem_cons_self) hk
  have hini' : (Cond.initialized cls).before args s' = true := vx_ot_at hW0 hvm.symm (hgood _ (List.mem_cons_of_mem _ List.mem_cons_self)) hini
  have hU' : vx_Zq Bundle.tN "UNASSIGNED_STACK" Bundle.steD A s' s'.heap := by rw [hhp]; exact vx_Zq.moved hW0.alike (hU.kept hS.2.1)
  have hN' : vx_Zq Bundle.tN "SUPPRESSED_SENTINEL" Bundle.listD A s' s'.heap := by rw [hhp]; exact vx_Zq.moved hW0.alike (hN.kept hS.2.1)
  have h : ∀ w ∈ Bundle.ownAtoms own ic cls names, w.before args s' = true := vx_own hat' (vx_isRefq hU'.1) (vx_isRefq hN'.1) hU'.2.word hN'.2.word
  have hown' : s'.vm.findClass own = some m.cls := by rw [hvm]; exact hown
  have hins : (Cond.instantiable cls 6).before args s' = true := h _ (by simp [Bundle.ownAtoms])
  obtain ⟨vm₁, cX, kX, hfX, hkX, -, -, X₁, st1⟩ := Y.newCold hexec (own := own) (C := cls) (index := ik) (n := 6) hown' hk' hins hini'
    (g := F0 m pc ls rest) rfl (by rw [hb]; exact d0) (Nat.le_refl _) (Nat.le_refl _)
  generalize hT1 : (T.setVm vm₁).pushCell { cls := cX, slots := kX.instanceTypes.map defaultValue, vm := .none } = T1 at X₁ st1
  have hcat : (Value.ref T.heap.size).category = 1 := rfl
  have hcellA : T1.heap[T.heap.size]? = some (freshCell cX kX) := by rw [← hT1]; exact State.heap_pushCell_size _ _
  have d3' : decode c.code (pc + 3) = .ok (.dup, 1) := by rw [hb]; exact d3
  have d4' : decode c.code (pc + 4) = .ok (.ldc_w is, 3) := by rw [hb]; exact d4
  have hstr' : vk_R own is text sa s' := vk_R.warm hW0 hstr
  obtain ⟨U, hsteps, hrun, hend, hW, hsame, ce, hce, hO⟩ := X₁.ctorThrowS hexec htr (own := own) (cls := cls) (names := names) (ic := ic) hown' hcls hnames h (fun x hx => nomatch hx) hfX hkX hcellA (by rw [hhp, hT]; exact Nat.le_refl _) (msg := .ref sa) rfl
    (g := { method := m, pc := pc + 7, locals := ls, stack := .ref sa :: .ref T.heap.size :: .ref T.heap.size :: rest, locked := none }) rfl hsize rfl rfl (rest := rest) rfl
    (by rw [hb]; exact d7) (by rw [hb]; exact d10) hout hRframes (by simp only [List.map_cons, List.sum_cons, hcat]; omega) hlocks
  obtain ⟨f1, f2⟩ := vx_frame hsame
  rw [hhp] at f1 f2
  have hWs : s.WarmedH U.vm := State.WarmedH.trans hW0 hW
  have hcl : s.vm.findClass cls = some ce.cls := by
    have h9 := hO.cls
    rw [hvm] at h9
    exact h9
  have hall : s.sameButNew ({ U with vm := s.vm } : State) locs mc ms := by
    subst hA
    obtain ⟨e1, e2⟩ := hsame
    rw [State.setFrames_setFrames] at e1
    have h2 : (T.setVm s.vm).sameButNew ({ U with vm := s.vm } : State) [] (0 + 1) (0 + 6) := ⟨e1, e2⟩
    have h3 := X.same.trans h2
    rw [List.append_nil] at h3
    exact h3.mono hc hs
  refine ⟨U, ?_, .threw T.heap.size, hrun, hend, Or.inr ⟨T.heap.size, rfl, cls, ce, locs, hx U hWs.alike f1 (fun q hq => f2 q hq (fun z hz => nomatch hz)), hce, hO.vm, hcl, hWs, hall, hf⟩⟩
  refine st1 _ ?_
  show Steps p.tables e below (T1.setTop { method := m, pc := pc + 3, locals := ls, stack := .ref T.heap.size :: rest, locked := none }) _
  jvm_step X₁.here [X₁.here.top, hexec, d3', Value.category]
  exact X₁.ldcStringW hexec (own := own) (text := text) (index := is) (a := sa) hown' hstr'.1 hstr'.2
    (g := { method := m, pc := pc + 4, locals := ls, stack := .ref T.heap.size :: .ref T.heap.size :: rest, locked := none }) rfl d4' _ hsteps
end Ends
section Bodies
variable {l : Launch}
theorem vx_ofW {y : MethodName} {ws ws' : List Cond} {rm : Room} {Pc : Array Value → State → Prop} {Qc : Array Value → State → Outcome → State → Prop} {XC : String → State → State → Prop} {mc ms : Nat} {free : Addr → Prop} {cc : ByteArray} {maxL : Nat} {ret : Option FieldType}
    (hy : plainName y.cls = true) (hw : ws = Cond.code y cc maxL ret :: ws')
    (body : ∀ p e s m args below meth c s₁, BodyLoose p l y (headSpec ws rm) cc maxL ret e s m args below meth c s₁ → c.maxLocals = maxL → (∀ x ∈ c.exceptionTable.toList, False) → Pc args s →
      W p l e (headSpec ws rm).room s m args below meth c s.heap [] 0 0 (vx_MQ below Qc XC args s mc ms free) (entryFrame m args maxL)) : vx_Met l y ws rm Pc Qc XC mc ms free := by
  refine MetFree.of_bodyS (code := cc) (maxLocals := maxL) (ret := ret) hy ?_ ?_
  · intro args s m h hn
    obtain ⟨meth, c, h1, h2, h3, h4, h5, h6, -, -⟩ := Cond.code_spec hn (atoms_spec (ws := ws) h _ (by rw [hw]; exact List.mem_cons_self))
    exact ⟨meth, c, h1, h2, h3, h4, h5, h6⟩
  · intro p e s m args below meth c s₁ B hml hP _
    have hh0 : s₁.heap = s.heap := by rw [B.state]; rfl
    have ht : ∀ x ∈ c.exceptionTable.toList, False := by
      obtain ⟨meth9, c9, h1, h2, -, -, -, -, h7, -⟩ := Cond.code_spec B.named (atoms_spec (ws := ws) B.pre _ (by rw [hw]; exact List.mem_cons_self))
      cases Option.some.inj (h1.symm.trans B.method)
      cases Option.some.inj (h2.symm.trans (Stand.of_body B).code)
      intro x hx
      rw [Array.isEmpty_iff.mp h7] at hx
      cases hx
    obtain ⟨t, a1, o, b1, b2, b3⟩ := body p e s m args below meth c s₁ B hml ht hP s₁ hh0 (Stand.of_body B)
    exact ⟨t, o, a1, b1, b2, b3⟩
/-- the table of a body with handlers -/
theorem vx_table {p : Program} {x y : MethodName} {S : Spec} {cc bytes : ByteArray} {maxL maxL' : Nat} {ret ret' : Option FieldType} {e : Env} {s s₁ : State} {m : MethodId} {args : Array Value} {below : List Frame} {meth : Method} {c : Code} {hh : List (Nat × Nat × Nat × Nat)}
    (B : BodyLoose p l y S cc maxL ret e s m args below meth c s₁) (h : (Cond.codeWith y bytes maxL' ret' hh).before args s = true) : c.exceptionTable.toList = tableOf hh := by
  obtain ⟨m9, meth9, c9, hn9, h1, h2, -, -, h6, -⟩ := Cond.codeWith_spec h
  cases Option.some.inj (hn9.symm.trans B.named)
  cases Option.some.inj (h1.symm.trans B.method)
  cases Option.some.inj (h2.symm.trans (Stand.of_body B).code)
  rw [← h6, table_eq]
end Bodies
end VXA
/-! ===== END ===== -/
/-! ===== BEGIN a static call of a method with an exception table ===== -/
section VXS
variable {p : Program} {l : Launch} {e : Env} {R : Room} {s : State} {m : MethodId} {args : Array Value} {below : List Frame} {meth : Method} {c : Code} {T : State} {H : Heap} {locs : List Loc} {cells slots : Nat}
abbrev vx_CSW (R : Room) (s : State) (args : Array Value) (own : String) (index : Nat) (y : MethodName) (bytes : ByteArray) (maxL : Nat) (ret : Option FieldType) (hh : List (Nat × Nat × Nat × Nat)) (ws : List Cond) (rm : Room) (mc ms n : Nat) : Prop :=
  (rm.cells = mc ∧ rm.slots = ms ∧ rm.frames + 1 ≤ R.frames ∧ 8 + (maxL + 11) + rm.locals ≤ R.locals ∧ (∀ w ∈ ws, ∀ (a' : Array Value) (U : State), s.WarmedH U.vm → w.before a' U = true) ∧ Cond.codeWith y bytes maxL ret hh ∈ ws) ∧
  (Cond.codeWith y bytes maxL ret hh).before args s = true ∧ (Cond.initialized y.cls).before args s = true ∧ (y.cls ≠ "java/lang/invoke/MethodHandle" ∧ y.cls ≠ "java/lang/invoke/VarHandle") ∧
  (∀ sig, parseMethodDescriptor y.desc = some sig → n = sig.parameters.length) ∧ (Cond.methodLink own index y).before args s = true ∧ (Cond.static y).before args s = true
theorem vx_cwSW {own : String} {index maxL mc ms : Nat} {y : MethodName} {bytes : ByteArray} {ret : Option FieldType} {hh : List (Nat × Nat × Nat × Nat)} {Ts ws ws' : List Cond} {rm : Room} (n : Nat) (ht : ∀ w ∈ Ts, w.before args s = true) (hT : GoodIn Ts (va_wsS own index y ws)) (hw : ws = Cond.codeWith y bytes maxL ret hh :: ws') (hrc : rm.cells = mc) (hrs : rm.slots = ms)
    (hd : y.cls ≠ "java/lang/invoke/MethodHandle" ∧ y.cls ≠ "java/lang/invoke/VarHandle" ∧ (parseMethodDescriptor y.desc).map (fun d => d.parameters.length) = some n) (hR : rm.frames + 1 ≤ R.frames ∧ 8 + (maxL + 11) + rm.locals ≤ R.locals) :
    vx_CSW R s args own index y bytes maxL ret hh ws rm mc ms n := by
  have ok : ∀ w ∈ va_wsS own index y ws, w.before args s = true := fun w h => ht w (hT w h).1
  have hG : GoodIn Ts ws := fun w h => hT w (by unfold va_wsS; exact List.mem_append_right _ h)
  have hc : Cond.codeWith y bytes maxL ret hh ∈ ws := by rw [hw]; exact List.mem_cons_self
  refine ⟨⟨hrc, hrs, hR.1, hR.2, pay_in ht hG, hc⟩, ht _ (hG _ hc).1, ok _ (by simp [va_wsS]), ⟨hd.1, hd.2.1⟩, fun sig h => ?_, ok _ (by simp [va_wsS]), ok _ (by simp [va_wsS])⟩
  have h2 := hd.2.2
  rw [h] at h2
  exact (Option.some.inj h2).symm
theorem vx_callSW (X : Stand p l e R s m args below meth c T locs cells slots) (hexec : p.tables.exec = Jvm.exec) {own : String} {index : Nat} {y : MethodName} {bytes : ByteArray} {maxL : Nat} {ret : Option FieldType} {hh : List (Nat × Nat × Nat × Nat)}
    (hown : s.vm.findClass own = some m.cls) (hlink : (Cond.methodLink own index y).before args s = true) (hstat : (Cond.static y).before args s = true) (hinit : (Cond.initialized y.cls).before args s = true)
    (hcode : (Cond.codeWith y bytes maxL ret hh).before args s = true) (hy : y.cls ≠ "java/lang/invoke/MethodHandle" ∧ y.cls ≠ "java/lang/invoke/VarHandle")
    {W9 : Nat} {Pre : Pt → Array Value → Prop} {Post : Pt → Array Value → Option Value → Pt → Prop} (hK : Back l R p e below s args y 3 W9 Pre Post)
    {g : JFrame} (hg : g.method = m) (hsize : g.locals.size = c.maxLocals) {argsL rest : List Value} (hlen : ∀ sig, parseMethodDescriptor y.desc = some sig → argsL.length = sig.parameters.length)
    (hstack : g.stack = argsL.reverse ++ rest) (hW : 2 * g.monitorRoom + (rest.map fun v => v.category).sum ≤ W9) (hdg : decode c.code g.pc = .ok (.invokestatic index, 3))
    (hpre : ∀ vm₁, s.WarmedH vm₁ → Pre ⟨T.setVm vm₁, locs, cells, slots⟩ argsL.toArray) :
    ∃ (v : Option Value) (vm₁ : Vm) (B : Pt), s.WarmedH vm₁ ∧ Stand p l e R s m args below meth c B.U B.locs B.cells B.slots ∧ Post ⟨T.setVm vm₁, locs, cells, slots⟩ argsL.toArray v B ∧
      ∀ target, Steps p.tables e below (B.U.setTop { g with pc := g.pc + 3, stack := v.toList ++ rest }) target → Steps p.tables e below (T.setTop g) target := by
  obtain ⟨mk, methM, cM, hnamed, hmethM, -, -, -, -, -, -, hsigM⟩ := Cond.codeWith_spec hcode
  have hstatic : methM.isStatic = true := Cond.static_spec hnamed hmethM hstat
  obtain ⟨kP, hkP, -⟩ := className_of_methodNamed hnamed
  have hinitP : kP.init = .initialized := Cond.initialized_spec (findClass_of_methodNamed hnamed) hkP hinit
  obtain ⟨vm₁, X₁, hstep₁⟩ := X.invokestatic hexec hown hlink hnamed hmethM hstatic hkP hinitP hy (g := g) hg (argsL := argsL) (rest := rest) (hlen _ hsigM) hstack hdg
  obtain ⟨v, B, X', hpost, hsteps⟩ := hK m meth c ⟨T.setVm vm₁, locs, cells, slots⟩ { g with stack := rest } (.invokestatic index) mk argsL.toArray X₁ hg hsize hdg hW (X₁.named hnamed) (hpre vm₁ X₁.warmed)
  exact ⟨v, vm₁, B, X₁.warmed, X', hpost, fun target h => hstep₁ _ fun acts => by rw [doInvoke_state]; exact hsteps.trans h⟩
theorem vx_runSW {y : MethodName} {bytes cc : ByteArray} {maxL nL mc ms n index : Nat} {ret : Option FieldType} {hh : List (Nat × Nat × Nat × Nat)} {ws : List Cond} {rm : Room} {Pc : Array Value → State → Prop} {Qc : Array Value → State → Outcome → State → Prop} {free : Addr → Prop} {Ts : List Cond} {own : String} {As rest : List Value} {g : JFrame}
    (S : CallFix p m c cc nL s args Ts own) (hM : Met l y ws rm Pc Qc mc ms free) (cw : vx_CSW R s args own index y bytes maxL ret hh ws rm mc ms n) (hp : PreS s H Pc As)
    (hg : g.method = m) (hn : As.length = n) (hsize : g.locals.size = nL) (hstack : g.stack = As.reverse ++ rest) (hW : 2 * g.monitorRoom + (rest.map fun v => v.category).sum ≤ 8) (hdg : decode cc g.pc = .ok (.invokestatic index, 3)) (hf : cells + mc ≤ R.cells ∧ slots + ms ≤ R.slots) :
    va_Run p l e R s m args below meth c H locs cells slots mc ms g rest (Qc As.toArray) (free) := by
  obtain ⟨⟨hrc, hrs, hfr, hlo, hws, hcw⟩, hcode, hini, hy, hlen, hl, hstt⟩ := cw
  have hK : Back l R p e below s args y 3 8 (PreOf R mc ms Pc) (PostOf Qc mc ms free) := va_backW (hh := hh) (bytes := bytes) (maxL := maxL) (ret := ret) hM hp.1 hrc hrs hfr hlo hws hcw (fun a' U hW => word_at hW (Or.inl (by first | rfl | simp [Cond.onTables, Cond.keeps, Cond.steady])) hini)
  obtain ⟨hx, hb, hml, ho, -⟩ := S
  intro T hT X
  obtain ⟨v, vm₁, ⟨U', l2, c2, s2⟩, hW₁, X', ⟨g', mk, t, L, e1, e2, hq, h1, hL, h2, h3⟩, st⟩ := vx_callSW X hx (hh := hh) (bytes := bytes) (maxL := maxL) (ret := ret) ho hl hstt hini hcode hy hK hg (hsize.trans hml.symm) (argsL := As) (rest := rest) (fun sig h => hn.trans (hlen sig h)) hstack hW (by rw [hb]; exact hdg)
    (fun vm₁ hW₁ => ⟨hf.1, hf.2, hp.2 (T.setVm vm₁) hT hW₁⟩)
  dsimp only [Pt.U, Pt.locs, Pt.cells, Pt.slots] at X' e1 e2 h1 h2 h3 st
  subst h1; subst h2; subst h3
  exact ⟨v, (T.setVm vm₁).calling g' mk As.toArray, t, U', L, hT, X', hL, e1, e2, hq, st⟩
/-- not caught here, past rows that name other classes: it goes on to the caller -/
theorem vx_outP {p : Program} {l : Launch} {e : Env} {R : Room} {s : State} {m : MethodId} {args : Array Value} {below : List Frame} {meth : Method} {c : Code} {H : Heap} {locs : List Loc} {cells slots : Nat} {free : Addr → Prop} {ls : Array Slot} {rest : List Value} {Qc : Array Value → State → Outcome → State → Prop} {XC : String → State → State → Prop}
    {pc : Nat} {own E : String} {ce : Cell} {q : Addr} {mc ms : Nat} (hown : s.vm.findClass own = some m.cls) (hlocks : meth.locks = false)
    (hpass : ∀ z ∈ c.exceptionTable.toList, covers z pc = false ∨ (z.catchType ≠ 0 ∧ ∃ nm : String, (Cond.classLink own z.catchType nm).before args s = true ∧ va_Nc E nm s)) (hcell : H[q]? = some ce) (hv : ce.vm = .none) (hcl : s.vm.findClass E = some ce.cls)
    (hx : ∀ t : State, t.heap = H → s.vm.Alike t.vm → XC E s t) (hf : ∀ z ∈ locs, free z.base) (hc : cells ≤ mc) (hs : slots ≤ ms) :
    vx_W p l e R s m args below meth c H locs cells slots (vx_MQ below Qc XC args s mc ms free) (F0 m pc ls rest) q := by
  intro T hT X
  have hpl : e.platform.magicAccessors = ({} : Platform).magicAccessors := by rw [X.admits.platform]
  obtain ⟨vm', hW', X', st⟩ := X.outThrough hlocks q (g := F0 m pc ls rest) rfl rfl rfl (cell := ce) (by rw [hT]; exact hcell) (by rw [hv]; rfl)
    (by obtain ⟨k9, h9, -⟩ := Vm.findClass_spec hcl; exact ⟨k9, h9⟩) (fun z hz => by
      rcases hpass z hz with h | ⟨hz0, nm, hl1, hn1⟩
      · exact Or.inl h
      · obtain ⟨c6, hc6, hcl6⟩ := Cond.classLink_spec hown hl1 e.platform hpl
        obtain ⟨a8, b8, h1, h2, h3⟩ := hn1
        cases Option.some.inj (h1.symm.trans hcl)
        cases Option.some.inj (h2.symm.trans hc6)
        exact Or.inr ⟨hz0, _, hcl6, h3⟩)
  obtain ⟨g₀, hfr⟩ := X'.frames_eq
  have hcell9 : ((T.setVm vm').setFrames (.throwing q :: below)).heap[q]? = some ce := by
    show T.heap[q]? = some ce
    rw [hT]; exact hcell
  have hend : Ended ((T.setVm vm').setFrames (.throwing q :: below)) below (.threw q) := State.frames_setFrames _ (State.cur_lt_of_frames hfr)
  refine ⟨(T.setVm vm').setFrames (.throwing q :: below), ?_, .threw q, X'.here.running, hend, Or.inr ⟨q, rfl, E, ce, locs, hx _ hT (X'.ends _).1.alike, hcell9, hv, hcl, (X'.ends _).1, (X'.ends _).2.mono hc hs, hf⟩⟩
  rw [X.pushThrowing_eq]
  exact st
/-- a thing of a world lies in the heap -/
theorem vx_lt {D : va_G} {cl : List vw_C} {ws : va_W} {H1 : Heap} (h : va_P D cl ws H1) {k : Nat} {q : Nat × va_E} (hk : ws[k]? = some q) : q.1 < H1.size := (h k q hk).lt
end VXS
/-! ===== END ===== -/
/-! ===== BEGIN methods with a table of their own: called by a name, returning or throwing ===== -/
section VXH
/-! vx_backW, vx_callVX, vx_callSX, vx_callVW, vx_runVW, vx_runVX, vx_runSX, vx_ofWH follow the same proofs as their sisters above (Free/Laws.lean, Shelf42/LK1.lean); vx_outP calls Shelf42/NT130.lean (outThrough). -/
section
variable {l : Launch} {R : Room} {p : Program} {e : Env} {below : List Frame} {s : State} {sargs : Array Value} {y : MethodName} {len W9 : Nat}
theorem vx_backW {ws : List Cond} {rm : Room} {Pc : Array Value → State → Prop} {Qc : Array Value → State → Outcome → State → Prop} {XC : String → State → State → Prop} {mc ms : Nat} {free : Addr → Prop} {bytes : ByteArray} {maxL : Nat} {ret : Option FieldType} {hh : List (Nat × Nat × Nat × Nat)}
    (hM : vx_Met l y ws rm Pc Qc XC mc ms free) (hblind : FrameBlind Pc) (hrc : rm.cells = mc) (hrs : rm.slots = ms)
    (hframes : rm.frames + 1 ≤ R.frames) (hlocals : W9 + (maxL + 11) + rm.locals ≤ R.locals)
    (hws : ∀ w ∈ ws, ∀ a' U, s.WarmedH U.vm → w.before a' U = true) (hcode : Cond.codeWith y bytes maxL ret hh ∈ ws) (hinit : ∀ a' U, s.WarmedH U.vm → (Cond.initialized y.cls).before a' U = true) :
    vx_Back l R p e below s sargs y len W9 (PreOf R mc ms Pc) (PostOf Qc mc ms free) (vx_Post XC mc ms free) := by
  intro m meth c A g ig mk a X hg hsize hdg hW hn hp
  have h1 : (headSpec ws rm).pre.before a A.U = true := atoms_intro fun w hw => hws w hw _ _ X.warmed
  have h2 : (Cond.codeWith y bytes maxL ret hh).before a A.U = true := hws _ hcode _ _ X.warmed
  have h3 : (Cond.initialized y.cls).before a A.U = true := hinit _ _ X.warmed
  have h4 : A.cells + (headSpec ws rm).room.cells ≤ R.cells := by rw [show (headSpec ws rm).room.cells = mc from hrc]; exact hp.1
  have h5 : A.slots + (headSpec ws rm).room.slots ≤ R.slots := by rw [show (headSpec ws rm).room.slots = ms from hrs]; exact hp.2.1
  have hPc : Pc a (A.U.calling g mk a) := hblind _ _ _ _ hp.2.2
  obtain ⟨U, Ls, c0, s0⟩ := A
  dsimp only [Pt.U, Pt.locs, Pt.cells, Pt.slots] at h1 h2 h3 h4 h5 X hn hPc ⊢
  obtain ⟨m9, methY, cY, hn9, hmY, hcY, -, hlY, -⟩ := Cond.codeWith_spec h2
  cases Option.some.inj (hn9.symm.trans hn)
  obtain ⟨kY, hkY, -⟩ := className_of_methodNamed hn
  have hinitY : kY.init = .initialized := Cond.initialized_spec (findClass_of_methodNamed hn) hkY h3
  have h : At U g.method c below := by rw [hg]; exact X.here
  have hlocals9 : W9 + (maxL + 11) + (headSpec ws rm).room.locals ≤ R.locals := hlocals
  have happ : (headSpec ws rm).appliesLoose y e.platform (U.calling g mk a) = true :=
    Spec.appliesLoose_calling (g := g) h hdg hn hkY hinitY
      (X.room_calling (g := g) (R' := (headSpec ws rm).room) hsize hmY hcY hframes (by rw [hlY]; omega) h4 h5) h1
  obtain ⟨mid, hmid⟩ := h.above
  have hfr : (U.setTop g).frames = (.java g :: mid) ++ below := by rw [State.frames_setTop' g h.top, hmid]; rfl
  obtain ⟨o, s₂, hsteps, -, hend, hq⟩ := Steps.callFree hM p X.admits X.cas X.clock (acts := []) hfr happ hPc trivial
  have hq' : vx_Q Qc XC mc ms free a (U.calling g mk a) o s₂ := hq
  rw [State.frames_setTop' g h.top] at hend
  obtain ⟨g₀, hg0⟩ := Option.isSome_iff_exists.mp h.top
  obtain ⟨r, hr⟩ := State.topJava?_eq_some.mp hg0
  have hr' : (({ U with heap := s₂.heap, slotsUsed := s₂.slotsUsed } : State).setVm s₂.vm).frames = .java g₀ :: r := hr
  rcases hq' with ⟨hqc, L, hfe, hL⟩ | ⟨q, rfl, E, ce, L, hx, hce, hcv, hcl, hW₂, hsm, hL⟩
  · obtain ⟨⟨v, rfl⟩, hW₂, e2, q2, q3, q4, q5, q6⟩ := id hfe
    have e3 : s₂ = ({ (U.calling g mk a).setFrames s₂.frames with heap := s₂.heap, slotsUsed := s₂.slotsUsed } : State).setVm s₂.vm := by
      have : s₂ = ({ s₂ with vm := (U.calling g mk a).vm } : State).setVm s₂.vm := rfl
      rw [e2] at this
      exact this
    obtain ⟨c₂, i₂, len₂, hc₂, hd₂, hf₂⟩ := hend
    have hW' : U.WarmedH s₂.vm := hW₂
    have hcc : c₂ = c := by
      have h1 : s₂.code? g.method = U.code? g.method := by
        rw [State.code?_eq, State.code?_eq, hW'.alike.method?]
      exact Option.some.inj (hc₂.symm.trans (h1.trans h.code))
    subst hcc
    have hlen : len₂ = len := by rw [hdg] at hd₂; cases hd₂; rfl
    subst hlen
    have hs₂ : s₂ = (({ U with heap := s₂.heap, slotsUsed := s₂.slotsUsed } : State).setVm s₂.vm).setTop { g with pc := g.pc + len₂, stack := v.toList ++ g.stack } := by
      refine e3.trans ?_
      rw [hf₂, State.calling_eq h.top, State.setFrames_setFrames, State.setTop_of_frames _ hr', hr]
      rfl
    have hsame : U.sameButNew ({ U with heap := s₂.heap, slotsUsed := s₂.slotsUsed } : State) L mc ms := by
      refine ⟨?_, q2, q3, q4, q5, q6⟩
      obtain ⟨t, ht, -⟩ := State.frames_cons hr
      show ({ U with heap := s₂.heap, slotsUsed := s₂.slotsUsed } : State) = { U.setFrames U.frames with heap := s₂.heap, slotsUsed := s₂.slotsUsed }
      rw [State.setFrames_self ht]
    subst hg
    refine Or.inl ⟨v, ⟨(({ U with heap := s₂.heap, slotsUsed := s₂.slotsUsed } : State).setVm s₂.vm), Ls ++ L, c0 + mc, s0 + ms⟩,
      ⟨X.admits, X.cas, X.clock, X.frames, X.room, X.hears, X.method, X.code, (X.here.setHeapUsed s₂.heap s₂.slotsUsed).setVm hW'.alike, X.tail, State.WarmedH.trans X.warmed hW', X.limits, X.bytes, X.same.trans (hsame.setVm s.vm)⟩,
      ⟨g, mk, s₂, L, rfl, rfl, hqc, rfl, hL, rfl, rfl⟩, ?_⟩
    show Steps p.tables e below _ ((({ U with heap := s₂.heap, slotsUsed := s₂.slotsUsed } : State).setVm s₂.vm).setTop { g with pc := g.pc + len₂, stack := v.toList ++ g.stack })
    rw [← hs₂]
    exact hsteps
  · obtain ⟨e2, q2, q3, q4, q5, q6⟩ := id hsm
    have e3 : s₂ = ({ (U.calling g mk a).setFrames s₂.frames with heap := s₂.heap, slotsUsed := s₂.slotsUsed } : State).setVm s₂.vm := by
      have : s₂ = ({ s₂ with vm := (U.calling g mk a).vm } : State).setVm s₂.vm := rfl
      rw [e2] at this
      exact this
    have hf₂ : s₂.frames = .throwing q :: .java g :: U.frames.tail := hend
    have hW' : U.WarmedH s₂.vm := hW₂
    have hs₂ : s₂ = ((({ U with heap := s₂.heap, slotsUsed := s₂.slotsUsed } : State).setVm s₂.vm).setTop g).pushFrame (.throwing q) := by
      refine e3.trans ?_
      rw [hf₂, State.calling_eq h.top, State.setFrames_setFrames, State.pushFrame, State.frames_setTop _ hr', State.setTop_of_frames _ hr', State.setFrames_setFrames, hr]
      rfl
    have hsame : U.sameButNew ({ U with heap := s₂.heap, slotsUsed := s₂.slotsUsed } : State) L mc ms := by
      refine ⟨?_, q2, q3, q4, q5, q6⟩
      obtain ⟨t, ht, -⟩ := State.frames_cons hr
      show ({ U with heap := s₂.heap, slotsUsed := s₂.slotsUsed } : State) = { U.setFrames U.frames with heap := s₂.heap, slotsUsed := s₂.slotsUsed }
      rw [State.setFrames_self ht]
    subst hg
    refine Or.inr ⟨q, ⟨(({ U with heap := s₂.heap, slotsUsed := s₂.slotsUsed } : State).setVm s₂.vm), Ls ++ L, c0 + mc, s0 + ms⟩,
      ⟨X.admits, X.cas, X.clock, X.frames, X.room, X.hears, X.method, X.code, (X.here.setHeapUsed s₂.heap s₂.slotsUsed).setVm hW'.alike, X.tail, State.WarmedH.trans X.warmed hW', X.limits, X.bytes, X.same.trans (hsame.setVm s.vm)⟩,
      ⟨g, mk, s₂, L, E, ce, rfl, rfl, hx, hce, hcv, hcl, rfl, hL, rfl, rfl⟩, ?_⟩
    show Steps p.tables e below _ (((({ U with heap := s₂.heap, slotsUsed := s₂.slotsUsed } : State).setVm s₂.vm).setTop g).pushFrame (.throwing q))
    rw [← hs₂]
    exact hsteps
end
variable {p : Program} {l : Launch} {e : Env} {R : Room} {s : State} {m : MethodId} {args : Array Value} {below : List Frame} {meth : Method} {c : Code} {T : State} {H : Heap} {locs : List Loc} {cells slots : Nat}
theorem vx_callVX (X : Stand p l e R s m args below meth c T locs cells slots) (hexec : p.tables.exec = Jvm.exec) {own C : String} {index : Nat} {y : MethodName} {bytes : ByteArray} {maxL : Nat} {ret : Option FieldType} {hh : List (Nat × Nat × Nat × Nat)}
    (hown : s.vm.findClass own = some m.cls) (hlink : (Cond.methodLink own index y).before args s = true) (hinst : (Cond.instanceMethod y).before args s = true) (hsel : (Cond.selects C y y).before args s = true)
    (hcode : (Cond.codeWith y bytes maxL ret hh).before args s = true) (hy : y.cls ≠ "java/lang/invoke/MethodHandle" ∧ y.cls ≠ "java/lang/invoke/VarHandle")
    {W9 : Nat} {Pre : Pt → Array Value → Prop} {Post : Pt → Array Value → Option Value → Pt → Prop} {PostX : Pt → Array Value → Addr → Pt → Prop} (hK : vx_Back l R p e below s args y 3 W9 Pre Post PostX)
    {b : Addr} {cellB : Cell} (hcell : T.heap[b]? = some cellB) (hobj : cellB.vm.isStatics = false) (hcls : s.vm.findClass C = some cellB.cls)
    {g : JFrame} (hg : g.method = m) (hsize : g.locals.size = c.maxLocals) {argsL rest : List Value} (hlen : ∀ sig, parseMethodDescriptor y.desc = some sig → argsL.length = sig.parameters.length)
    (hstack : g.stack = argsL.reverse ++ .ref b :: rest) (hW : 2 * g.monitorRoom + (rest.map fun v => v.category).sum ≤ W9) (hdg : decode c.code g.pc = .ok (.invokevirtual index, 3))
    (hpre : ∀ vm₁, s.WarmedH vm₁ → Pre ⟨T.setVm vm₁, locs, cells, slots⟩ (Value.ref b :: argsL).toArray) :
    (∃ (v : Option Value) (vm₁ : Vm) (B : Pt), s.WarmedH vm₁ ∧ Stand p l e R s m args below meth c B.U B.locs B.cells B.slots ∧ Post ⟨T.setVm vm₁, locs, cells, slots⟩ (Value.ref b :: argsL).toArray v B ∧
      ∀ target, Steps p.tables e below (B.U.setTop { g with pc := g.pc + 3, stack := v.toList ++ rest }) target → Steps p.tables e below (T.setTop g) target) ∨
    (∃ (q : Addr) (vm₁ : Vm) (B : Pt), s.WarmedH vm₁ ∧ Stand p l e R s m args below meth c B.U B.locs B.cells B.slots ∧ PostX ⟨T.setVm vm₁, locs, cells, slots⟩ (Value.ref b :: argsL).toArray q B ∧
      Steps p.tables e below (T.setTop g) ((B.U.setTop { g with stack := rest }).pushFrame (.throwing q))) := by
  obtain ⟨mk, methM, hnamed, hmethM, hstM, habM⟩ := Cond.instanceMethod_spec hinst
  obtain ⟨m8, methM', cM, hn8, hmethM', -, -, -, -, -, -, hsigM⟩ := Cond.codeWith_spec hcode
  cases Option.some.inj (hn8.symm.trans hnamed)
  cases hmethM.symm.trans hmethM'
  obtain ⟨c2, r2, m2, q1, q2, q3, q4, kP, hkP, hkPi⟩ := Cond.selects_spec hsel
  cases hcls.symm.trans q1
  cases (State.methodFound?_of_named hnamed hy).symm.trans q2
  cases hnamed.symm.trans q3
  have hselP : selectMethod e.platform s.vm cellB.cls mk = .method mk := by rw [Launch.admits_selectMethod X.admits]; exact q4
  obtain ⟨vm₁, X₁, hstep₁⟩ := X.invokevirtual hexec hown hlink hnamed hmethM hstM hkP hkPi hy (a := b) (cell := cellB) hcell
    (fun z h => by rw [h] at hobj; cases hobj) hselP hmethM habM hkP hkPi (g := g) hg (argsL := argsL) (rest := rest) (hlen _ hsigM) hstack hdg
  rcases hK m meth c ⟨T.setVm vm₁, locs, cells, slots⟩ { g with stack := rest } (.invokevirtual index) mk (Value.ref b :: argsL).toArray X₁ hg hsize hdg hW (X₁.named hnamed) (hpre vm₁ X₁.warmed) with ⟨v, B, X', hpost, hsteps⟩ | ⟨q, B, X', hpost, hsteps⟩
  · exact Or.inl ⟨v, vm₁, B, X₁.warmed, X', hpost, fun target h => hstep₁ _ fun acts => by rw [doInvoke_state]; exact hsteps.trans h⟩
  · exact Or.inr ⟨q, vm₁, B, X₁.warmed, X', hpost, hstep₁ _ fun acts => by rw [doInvoke_state]; exact hsteps⟩
theorem vx_callSX (X : Stand p l e R s m args below meth c T locs cells slots) (hexec : p.tables.exec = Jvm.exec) {own : String} {index : Nat} {y : MethodName} {bytes : ByteArray} {maxL : Nat} {ret : Option FieldType} {hh : List (Nat × Nat × Nat × Nat)}
    (hown : s.vm.findClass own = some m.cls) (hlink : (Cond.methodLink own index y).before args s = true) (hstat : (Cond.static y).before args s = true) (hinit : (Cond.initialized y.cls).before args s = true)
    (hcode : (Cond.codeWith y bytes maxL ret hh).before args s = true) (hy : y.cls ≠ "java/lang/invoke/MethodHandle" ∧ y.cls ≠ "java/lang/invoke/VarHandle")
    {W9 : Nat} {Pre : Pt → Array Value → Prop} {Post : Pt → Array Value → Option Value → Pt → Prop} {PostX : Pt → Array Value → Addr → Pt → Prop} (hK : vx_Back l R p e below s args y 3 W9 Pre Post PostX)
    {g : JFrame} (hg : g.method = m) (hsize : g.locals.size = c.maxLocals) {argsL rest : List Value} (hlen : ∀ sig, parseMethodDescriptor y.desc = some sig → argsL.length = sig.parameters.length)
    (hstack : g.stack = argsL.reverse ++ rest) (hW : 2 * g.monitorRoom + (rest.map fun v => v.category).sum ≤ W9) (hdg : decode c.code g.pc = .ok (.invokestatic index, 3))
    (hpre : ∀ vm₁, s.WarmedH vm₁ → Pre ⟨T.setVm vm₁, locs, cells, slots⟩ argsL.toArray) :
    (∃ (v : Option Value) (vm₁ : Vm) (B : Pt), s.WarmedH vm₁ ∧ Stand p l e R s m args below meth c B.U B.locs B.cells B.slots ∧ Post ⟨T.setVm vm₁, locs, cells, slots⟩ argsL.toArray v B ∧
      ∀ target, Steps p.tables e below (B.U.setTop { g with pc := g.pc + 3, stack := v.toList ++ rest }) target → Steps p.tables e below (T.setTop g) target) ∨
    (∃ (q : Addr) (vm₁ : Vm) (B : Pt), s.WarmedH vm₁ ∧ Stand p l e R s m args below meth c B.U B.locs B.cells B.slots ∧ PostX ⟨T.setVm vm₁, locs, cells, slots⟩ argsL.toArray q B ∧
      Steps p.tables e below (T.setTop g) ((B.U.setTop { g with stack := rest }).pushFrame (.throwing q))) := by
  obtain ⟨mk, methM, cM, hnamed, hmethM, -, -, -, -, -, -, hsigM⟩ := Cond.codeWith_spec hcode
  have hstatic : methM.isStatic = true := Cond.static_spec hnamed hmethM hstat
  obtain ⟨kP, hkP, -⟩ := className_of_methodNamed hnamed
  have hinitP : kP.init = .initialized := Cond.initialized_spec (findClass_of_methodNamed hnamed) hkP hinit
  obtain ⟨vm₁, X₁, hstep₁⟩ := X.invokestatic hexec hown hlink hnamed hmethM hstatic hkP hinitP hy (g := g) hg (argsL := argsL) (rest := rest) (hlen _ hsigM) hstack hdg
  rcases hK m meth c ⟨T.setVm vm₁, locs, cells, slots⟩ { g with stack := rest } (.invokestatic index) mk argsL.toArray X₁ hg hsize hdg hW (X₁.named hnamed) (hpre vm₁ X₁.warmed) with ⟨v, B, X', hpost, hsteps⟩ | ⟨q, B, X', hpost, hsteps⟩
  · exact Or.inl ⟨v, vm₁, B, X₁.warmed, X', hpost, fun target h => hstep₁ _ fun acts => by rw [doInvoke_state]; exact hsteps.trans h⟩
  · exact Or.inr ⟨q, vm₁, B, X₁.warmed, X', hpost, hstep₁ _ fun acts => by rw [doInvoke_state]; exact hsteps⟩
theorem vx_callVW (X : Stand p l e R s m args below meth c T locs cells slots) (hexec : p.tables.exec = Jvm.exec) {own C : String} {index : Nat} {y : MethodName} {bytes : ByteArray} {maxL : Nat} {ret : Option FieldType} {hh : List (Nat × Nat × Nat × Nat)}
    (hown : s.vm.findClass own = some m.cls) (hlink : (Cond.methodLink own index y).before args s = true) (hinst : (Cond.instanceMethod y).before args s = true) (hsel : (Cond.selects C y y).before args s = true)
    (hcode : (Cond.codeWith y bytes maxL ret hh).before args s = true) (hy : y.cls ≠ "java/lang/invoke/MethodHandle" ∧ y.cls ≠ "java/lang/invoke/VarHandle")
    {W9 : Nat} {Pre : Pt → Array Value → Prop} {Post : Pt → Array Value → Option Value → Pt → Prop} (hK : Back l R p e below s args y 3 W9 Pre Post)
    {b : Addr} {cellB : Cell} (hcell : T.heap[b]? = some cellB) (hobj : cellB.vm.isStatics = false) (hcls : s.vm.findClass C = some cellB.cls)
    {g : JFrame} (hg : g.method = m) (hsize : g.locals.size = c.maxLocals) {argsL rest : List Value} (hlen : ∀ sig, parseMethodDescriptor y.desc = some sig → argsL.length = sig.parameters.length)
    (hstack : g.stack = argsL.reverse ++ .ref b :: rest) (hW : 2 * g.monitorRoom + (rest.map fun v => v.category).sum ≤ W9) (hdg : decode c.code g.pc = .ok (.invokevirtual index, 3))
    (hpre : ∀ vm₁, s.WarmedH vm₁ → Pre ⟨T.setVm vm₁, locs, cells, slots⟩ (Value.ref b :: argsL).toArray) :
    ∃ (v : Option Value) (vm₁ : Vm) (B : Pt), s.WarmedH vm₁ ∧ Stand p l e R s m args below meth c B.U B.locs B.cells B.slots ∧ Post ⟨T.setVm vm₁, locs, cells, slots⟩ (Value.ref b :: argsL).toArray v B ∧
      ∀ target, Steps p.tables e below (B.U.setTop { g with pc := g.pc + 3, stack := v.toList ++ rest }) target → Steps p.tables e below (T.setTop g) target := by
  obtain ⟨mk, methM, hnamed, hmethM, hstM, habM⟩ := Cond.instanceMethod_spec hinst
  obtain ⟨m8, methM', cM, hn8, hmethM', -, -, -, -, -, -, hsigM⟩ := Cond.codeWith_spec hcode
  cases Option.some.inj (hn8.symm.trans hnamed)
  cases hmethM.symm.trans hmethM'
  obtain ⟨c2, r2, m2, q1, q2, q3, q4, kP, hkP, hkPi⟩ := Cond.selects_spec hsel
  cases hcls.symm.trans q1
  cases (State.methodFound?_of_named hnamed hy).symm.trans q2
  cases hnamed.symm.trans q3
  have hselP : selectMethod e.platform s.vm cellB.cls mk = .method mk := by rw [Launch.admits_selectMethod X.admits]; exact q4
  obtain ⟨vm₁, X₁, hstep₁⟩ := X.invokevirtual hexec hown hlink hnamed hmethM hstM hkP hkPi hy (a := b) (cell := cellB) hcell
    (fun z h => by rw [h] at hobj; cases hobj) hselP hmethM habM hkP hkPi (g := g) hg (argsL := argsL) (rest := rest) (hlen _ hsigM) hstack hdg
  obtain ⟨v, B, X', hpost, hsteps⟩ := hK m meth c ⟨T.setVm vm₁, locs, cells, slots⟩ { g with stack := rest } (.invokevirtual index) mk (Value.ref b :: argsL).toArray X₁ hg hsize hdg hW (X₁.named hnamed) (hpre vm₁ X₁.warmed)
  exact ⟨v, vm₁, B, X₁.warmed, X', hpost, fun target h => hstep₁ _ fun acts => by rw [doInvoke_state]; exact hsteps.trans h⟩
abbrev vx_CVW (R : Room) (s : State) (args : Array Value) (own C : String) (index : Nat) (y : MethodName) (bytes : ByteArray) (maxL : Nat) (ret : Option FieldType) (hh : List (Nat × Nat × Nat × Nat)) (ws : List Cond) (rm : Room) (mc ms n : Nat) : Prop :=
  (rm.cells = mc ∧ rm.slots = ms ∧ rm.frames + 1 ≤ R.frames ∧ 8 + (maxL + 11) + rm.locals ≤ R.locals ∧ (∀ w ∈ ws, ∀ (a' : Array Value) (U : State), s.WarmedH U.vm → w.before a' U = true) ∧ Cond.codeWith y bytes maxL ret hh ∈ ws) ∧
  (Cond.codeWith y bytes maxL ret hh).before args s = true ∧ (Cond.initialized y.cls).before args s = true ∧ (y.cls ≠ "java/lang/invoke/MethodHandle" ∧ y.cls ≠ "java/lang/invoke/VarHandle") ∧
  (∀ sig, parseMethodDescriptor y.desc = some sig → n = sig.parameters.length) ∧ (Cond.methodLink own index y).before args s = true ∧ (Cond.instanceMethod y).before args s = true ∧ (Cond.selects C y y).before args s = true
theorem vx_cwVW {own C : String} {index maxL mc ms : Nat} {y : MethodName} {bytes : ByteArray} {ret : Option FieldType} {hh : List (Nat × Nat × Nat × Nat)} {Ts ws ws' : List Cond} {rm : Room} (n : Nat) (ht : ∀ w ∈ Ts, w.before args s = true) (hT : GoodIn Ts (wsV own index C y ws)) (hw : ws = Cond.codeWith y bytes maxL ret hh :: ws') (hrc : rm.cells = mc) (hrs : rm.slots = ms)
    (hd : y.cls = C ∧ y.cls ≠ "java/lang/invoke/MethodHandle" ∧ y.cls ≠ "java/lang/invoke/VarHandle" ∧ (parseMethodDescriptor y.desc).map (fun d => d.parameters.length) = some n) (hR : rm.frames + 1 ≤ R.frames ∧ 8 + (maxL + 11) + rm.locals ≤ R.locals) :
    vx_CVW R s args own C index y bytes maxL ret hh ws rm mc ms n := by
  obtain ⟨hC, hd⟩ := hd
  subst hC
  have ok : ∀ w ∈ wsV own index y.cls y ws, w.before args s = true := fun w h => ht w (hT w h).1
  have hG : GoodIn Ts ws := fun w h => hT w (by unfold wsV; exact List.mem_append_right _ h)
  have hc : Cond.codeWith y bytes maxL ret hh ∈ ws := by rw [hw]; exact List.mem_cons_self
  refine ⟨⟨hrc, hrs, hR.1, hR.2, pay_in ht hG, hc⟩, ht _ (hG _ hc).1, ok _ (by simp [wsV]), ⟨hd.1, hd.2.1⟩, fun sig h => ?_, ok _ (by simp [wsV]), ok _ (by simp [wsV]), ok _ (by simp [wsV])⟩
  have h2 := hd.2.2
  rw [h] at h2
  exact (Option.some.inj h2).symm
theorem vx_runVW {y : MethodName} {bytes cc : ByteArray} {maxL nL mc ms n index : Nat} {ret : Option FieldType} {hh : List (Nat × Nat × Nat × Nat)} {ws : List Cond} {rm : Room} {Pc : Array Value → State → Prop} {Qc : Array Value → State → Outcome → State → Prop} {free : Addr → Prop} {Ts : List Cond} {own C : String} {b : Addr} {As rest : List Value} {g : JFrame}
    (S : CallFix p m c cc nL s args Ts own) (hM : Met l y ws rm Pc Qc mc ms free) (cw : vx_CVW R s args own C index y bytes maxL ret hh ws rm mc ms n) (hp : PreV s H C b Pc As)
    (hg : g.method = m) (hn : As.length = n) (hsize : g.locals.size = nL) (hstack : g.stack = As.reverse ++ .ref b :: rest) (hW : 2 * g.monitorRoom + (rest.map fun v => v.category).sum ≤ 8) (hdg : decode cc g.pc = .ok (.invokevirtual index, 3)) (hf : cells + mc ≤ R.cells ∧ slots + ms ≤ R.slots) :
    va_Run p l e R s m args below meth c H locs cells slots mc ms g rest (Qc (Value.ref b :: As).toArray) free := by
  obtain ⟨⟨hrc, hrs, hfr, hlo, hws, hcw⟩, hcode, hini, hy, hlen, hl, hin, hse⟩ := cw
  have hK : Back l R p e below s args y 3 8 (PreOf R mc ms Pc) (PostOf Qc mc ms free) := va_backW (hh := hh) (bytes := bytes) (maxL := maxL) (ret := ret) hM hp.1 hrc hrs hfr hlo hws hcw (fun a' U hW => word_at hW (Or.inl (by first | rfl | simp [Cond.onTables, Cond.keeps, Cond.steady])) hini)
  obtain ⟨hx, hb, hml, ho, -⟩ := S
  obtain ⟨-, ⟨cellB, hcB, hoB, hclB⟩, hPc⟩ := hp
  intro T hT X
  obtain ⟨v, vm₁, ⟨U', l2, c2, s2⟩, hW₁, X', ⟨g', mk, t, L, e1, e2, hq, h1, hL, h2, h3⟩, st⟩ := vx_callVW X hx (C := C) (hh := hh) (bytes := bytes) (maxL := maxL) (ret := ret) ho hl hin hse hcode hy hK (by rw [hT]; exact hcB) hoB hclB hg (hsize.trans hml.symm) (argsL := As) (rest := rest) (fun sig h => hn.trans (hlen sig h)) hstack hW (by rw [hb]; exact hdg)
    (fun vm₁ hW₁ => ⟨hf.1, hf.2, hPc (T.setVm vm₁) hT hW₁⟩)
  dsimp only [Pt.U, Pt.locs, Pt.cells, Pt.slots] at X' e1 e2 h1 h2 h3 st
  subst h1; subst h2; subst h3
  exact ⟨v, (T.setVm vm₁).calling g' mk (Value.ref b :: As).toArray, t, U', L, hT, X', hL, e1, e2, hq, st⟩
section
variable {y : MethodName} {bytes cc : ByteArray} {maxL nL mc ms n index : Nat} {ret : Option FieldType} {ws : List Cond} {rm : Room} {Pc : Array Value → State → Prop} {Qc : Array Value → State → Outcome → State → Prop} {XC : String → State → State → Prop} {free : Addr → Prop} {Ts : List Cond} {own C : String} {b : Addr} {As rest : List Value} {g : JFrame}
theorem vx_runVX {hh : List (Nat × Nat × Nat × Nat)} (S : CallFix p m c cc nL s args Ts own) (hM : vx_Met l y ws rm Pc Qc XC mc ms free) (cw : vx_CVW R s args own C index y bytes maxL ret hh ws rm mc ms n) (hp : PreV s H C b Pc As)
    (hg : g.method = m) (hn : As.length = n) (hsize : g.locals.size = nL) (hstack : g.stack = As.reverse ++ .ref b :: rest) (hW : 2 * g.monitorRoom + (rest.map fun v => v.category).sum ≤ 8) (hdg : decode cc g.pc = .ok (.invokevirtual index, 3)) (hf : cells + mc ≤ R.cells ∧ slots + ms ≤ R.slots) :
    vx_Run p l e R s m args below meth c H locs cells slots mc ms g rest (Qc (Value.ref b :: As).toArray) XC free := by
  obtain ⟨⟨hrc, hrs, hfr, hlo, hws, hcw⟩, hcode, hini, hy, hlen, hl, hin, hse⟩ := cw
  have hK : vx_Back l R p e below s args y 3 8 (PreOf R mc ms Pc) (PostOf Qc mc ms free) (vx_Post XC mc ms free) := vx_backW (hh := hh) (bytes := bytes) (maxL := maxL) (ret := ret) hM hp.1 hrc hrs hfr hlo hws hcw (fun a' U hW => word_at hW (Or.inl (by first | rfl | simp [Cond.onTables, Cond.keeps, Cond.steady])) hini)
  obtain ⟨hx, hb, hml, ho, -⟩ := S
  obtain ⟨-, ⟨cellB, hcB, hoB, hclB⟩, hPc⟩ := hp
  intro T hT X
  rcases vx_callVX X hx (C := C) (hh := hh) (bytes := bytes) (maxL := maxL) (ret := ret) ho hl hin hse hcode hy hK (by rw [hT]; exact hcB) hoB hclB hg (hsize.trans hml.symm) (argsL := As) (rest := rest) (fun sig h => hn.trans (hlen sig h)) hstack hW (by rw [hb]; exact hdg)
    (fun vm₁ hW₁ => ⟨hf.1, hf.2, hPc (T.setVm vm₁) hT hW₁⟩) with ⟨v, vm₁, ⟨U', l2, c2, s2⟩, hW₁, X', ⟨g', mk, t, L, e1, e2, hq, h1, hL, h2, h3⟩, st⟩ | ⟨q, vm₁, ⟨U', l2, c2, s2⟩, hW₁, X', ⟨g', mk, t, L, E, ce, e1, e2, hq, hce, hcv, hcl, h1, hL, h2, h3⟩, st⟩
  · dsimp only [Pt.U, Pt.locs, Pt.cells, Pt.slots] at X' e1 e2 h1 h2 h3 st
    subst h1; subst h2; subst h3
    exact Or.inl ⟨v, (T.setVm vm₁).calling g' mk (Value.ref b :: As).toArray, t, U', L, hT, X', hL, e1, e2, hq, st⟩
  · dsimp only [Pt.U, Pt.locs, Pt.cells, Pt.slots] at X' e1 e2 h1 h2 h3 st hcl
    subst h1; subst h2; subst h3
    exact Or.inr ⟨q, (T.setVm vm₁).calling g' mk (Value.ref b :: As).toArray, t, U', L, E, ce, hT, X', hL, e1, e2, hq, hce, hcv, vx_cls hW₁ hcl, st⟩
theorem vx_runSX {hh : List (Nat × Nat × Nat × Nat)} (S : CallFix p m c cc nL s args Ts own) (hM : vx_Met l y ws rm Pc Qc XC mc ms free) (cw : vx_CSW R s args own index y bytes maxL ret hh ws rm mc ms n) (hp : PreS s H Pc As)
    (hg : g.method = m) (hn : As.length = n) (hsize : g.locals.size = nL) (hstack : g.stack = As.reverse ++ rest) (hW : 2 * g.monitorRoom + (rest.map fun v => v.category).sum ≤ 8) (hdg : decode cc g.pc = .ok (.invokestatic index, 3)) (hf : cells + mc ≤ R.cells ∧ slots + ms ≤ R.slots) :
    vx_Run p l e R s m args below meth c H locs cells slots mc ms g rest (Qc As.toArray) XC free := by
  obtain ⟨⟨hrc, hrs, hfr, hlo, hws, hcw⟩, hcode, hini, hy, hlen, hl, hstt⟩ := cw
  have hK : vx_Back l R p e below s args y 3 8 (PreOf R mc ms Pc) (PostOf Qc mc ms free) (vx_Post XC mc ms free) := vx_backW (hh := hh) (bytes := bytes) (maxL := maxL) (ret := ret) hM hp.1 hrc hrs hfr hlo hws hcw (fun a' U hW => word_at hW (Or.inl (by first | rfl | simp [Cond.onTables, Cond.keeps, Cond.steady])) hini)
  obtain ⟨hx, hb, hml, ho, -⟩ := S
  intro T hT X
  rcases vx_callSX X hx (hh := hh) (bytes := bytes) (maxL := maxL) (ret := ret) ho hl hstt hini hcode hy hK hg (hsize.trans hml.symm) (argsL := As) (rest := rest) (fun sig h => hn.trans (hlen sig h)) hstack hW (by rw [hb]; exact hdg)
    (fun vm₁ hW₁ => ⟨hf.1, hf.2, hp.2 (T.setVm vm₁) hT hW₁⟩) with ⟨v, vm₁, ⟨U', l2, c2, s2⟩, hW₁, X', ⟨g', mk, t, L, e1, e2, hq, h1, hL, h2, h3⟩, st⟩ | ⟨q, vm₁, ⟨U', l2, c2, s2⟩, hW₁, X', ⟨g', mk, t, L, E, ce, e1, e2, hq, hce, hcv, hcl, h1, hL, h2, h3⟩, st⟩
  · dsimp only [Pt.U, Pt.locs, Pt.cells, Pt.slots] at X' e1 e2 h1 h2 h3 st
    subst h1; subst h2; subst h3
    exact Or.inl ⟨v, (T.setVm vm₁).calling g' mk As.toArray, t, U', L, hT, X', hL, e1, e2, hq, st⟩
  · dsimp only [Pt.U, Pt.locs, Pt.cells, Pt.slots] at X' e1 e2 h1 h2 h3 st hcl
    subst h1; subst h2; subst h3
    exact Or.inr ⟨q, (T.setVm vm₁).calling g' mk As.toArray, t, U', L, E, ce, hT, X', hL, e1, e2, hq, hce, hcv, vx_cls hW₁ hcl, st⟩
end
end VXH
theorem vx_ofWH {l : Launch} {y : MethodName} {ws ws' : List Cond} {rm : Room} {Pc : Array Value → State → Prop} {Qc : Array Value → State → Outcome → State → Prop} {XC : String → State → State → Prop} {mc ms : Nat} {free : Addr → Prop} {cc : ByteArray} {maxL : Nat} {ret : Option FieldType} {hh : List (Nat × Nat × Nat × Nat)}
    (hy : plainName y.cls = true) (hw : ws = Cond.codeWith y cc maxL ret hh :: ws')
    (body : ∀ p e s m args below meth c s₁, BodyLoose p l y (headSpec ws rm) cc maxL ret e s m args below meth c s₁ → c.maxLocals = maxL → Pc args s →
      W p l e (headSpec ws rm).room s m args below meth c s.heap [] 0 0 (vx_MQ below Qc XC args s mc ms free) (entryFrame m args maxL)) : vx_Met l y ws rm Pc Qc XC mc ms free := by
  refine MetFree.of_bodyS (code := cc) (maxLocals := maxL) (ret := ret) hy ?_ ?_
  · intro args s m h hn
    obtain ⟨m9, meth, c, hn9, h1, h2, h3, h4, -, h5, h6, -⟩ := Cond.codeWith_spec (atoms_spec (ws := ws) h _ (by rw [hw]; exact List.mem_cons_self))
    cases hn.symm.trans hn9
    exact ⟨meth, c, h1, h2, h3, h4, h5, h6⟩
  · intro p e s m args below meth c s₁ B hml hP _
    have hh0 : s₁.heap = s.heap := by rw [B.state]; rfl
    obtain ⟨t, a1, o, b1, b2, b3⟩ := body p e s m args below meth c s₁ B hml hP s₁ hh0 (Stand.of_body B)
    exact ⟨t, o, a1, b1, b2, b3⟩
/-! ===== END ===== -/
end
section
/-! ===== BEGIN printed: names, fields, word lists, decode rows ===== -/
def RX0 : String := "IslandParser$BestReader"
def TX0 : u_T := fun k => match k with
  | 0 => ("IslandParser$BestReader", "stretches", "[J", true)
  | _ => ("IslandParser$BestReader", "closers", "[I", true)
def tyX0 : Nat → FieldType := fun k => match k with
  | 0 => .array .long
  | _ => .array .int
abbrev wsX00 : List Cond := u_ws RX0 TX0 2
theorem nmX0 : ∀ a, a < 2 → ∀ b, b < 2 → a ≠ b → (TX0 a).2.1 ≠ (TX0 b).2.1 := by decide +kernel
theorem tyX0_ok : ∀ k, k < 2 → parseFieldDescriptor (TX0 k).2.2.1 = some (tyX0 k) := by decide +kernel
abbrev cX0_init : ByteArray := prog_2_method_1_code
def yX0_init : MethodName := ⟨RX0, "<init>", "()V"⟩
abbrev cX0_fillStretches : ByteArray := prog_2_method_2_code
def yX0_fillStretches : MethodName := ⟨RX0, "fillStretches", "(LIslandParser$Marks;LIslandParser$Kinds;)V"⟩
abbrev cX0_fillStretchesTo : ByteArray := prog_2_method_3_code
def yX0_fillStretchesTo : MethodName := ⟨RX0, "fillStretchesTo", "(IILIslandParser$Marks;LIslandParser$Kinds;)V"⟩
abbrev cX0_fewestIfOpening : ByteArray := prog_2_method_4_code
def yX0_fewestIfOpening : MethodName := ⟨RX0, "fewestIfOpening", "(IIIILIslandParser$Marks;LIslandParser$Kinds;)I"⟩
abbrev cX0_fewestBetween : ByteArray := prog_2_method_5_code
def yX0_fewestBetween : MethodName := ⟨RX0, "fewestBetween", "(IIILIslandParser$Kinds;)I"⟩
abbrev cX0_fewestInside : ByteArray := prog_2_method_6_code
def yX0_fewestInside : MethodName := ⟨RX0, "fewestInside", "(IIILIslandParser$Kinds;)I"⟩
abbrev cX0_chooseIslands : ByteArray := prog_2_method_7_code
def yX0_chooseIslands : MethodName := ⟨RX0, "chooseIslands", "(LIslandParser$Marks;LIslandParser$Kinds;LIslandParser$Islands;)V"⟩
abbrev cX0_beginAt : ByteArray := prog_2_method_8_code
def yX0_beginAt : MethodName := ⟨RX0, "beginAt", "(IILIslandParser$Marks;LIslandParser$Kinds;LIslandParser$Islands;)V"⟩
abbrev cX0_bestPartner : ByteArray := prog_2_method_9_code
def yX0_bestPartner : MethodName := ⟨RX0, "bestPartner", "(IIIILIslandParser$Marks;LIslandParser$Kinds;)I"⟩
abbrev cX0_fewest : ByteArray := prog_2_method_10_code
def yX0_fewest : MethodName := ⟨RX0, "fewest", "(III)I"⟩
abbrev cX0_keep : ByteArray := prog_2_method_11_code
def yX0_keep : MethodName := ⟨RX0, "keep", "(IIII)V"⟩
def RX1 : String := "IslandParser$Islands"
def TX1 : u_T := fun k => match k with
  | 0 => ("IslandParser$Islands", "kinds", "[I", true)
  | 1 => ("IslandParser$Islands", "starts", "[I", true)
  | 2 => ("IslandParser$Islands", "ends", "[I", true)
  | 3 => ("IslandParser$Islands", "states", "[I", true)
  | 4 => ("IslandParser$Islands", "parents", "[I", true)
  | 5 => ("IslandParser$Islands", "depths", "[I", true)
  | 6 => ("IslandParser$Islands", "open", "[I", true)
  | 7 => ("IslandParser$Islands", "many", "I", false)
  | 8 => ("IslandParser$Islands", "openMany", "I", false)
  | 9 => ("IslandParser$Islands", "leftOver", "I", false)
  | _ => ("IslandParser$Islands", "isRead", "Z", false)
def tyX1 : Nat → FieldType := fun k => match k with
  | 0 => .array .int
  | 1 => .array .int
  | 2 => .array .int
  | 3 => .array .int
  | 4 => .array .int
  | 5 => .array .int
  | 6 => .array .int
  | 7 => .int
  | 8 => .int
  | 9 => .int
  | _ => .boolean
abbrev wsX10 : List Cond := u_ws RX1 TX1 11
theorem nmX1 : ∀ a, a < 11 → ∀ b, b < 11 → a ≠ b → (TX1 a).2.1 ≠ (TX1 b).2.1 := by decide +kernel
theorem tyX1_ok : ∀ k, k < 11 → parseFieldDescriptor (TX1 k).2.2.1 = some (tyX1 k) := by decide +kernel
abbrev cX1_init : ByteArray := prog_3_method_1_code
def yX1_init : MethodName := ⟨RX1, "<init>", "()V"⟩
abbrev cX1_forget : ByteArray := prog_3_method_2_code
def yX1_forget : MethodName := ⟨RX1, "forget", "()V"⟩
abbrev cX1_startReading : ByteArray := prog_3_method_3_code
def yX1_startReading : MethodName := ⟨RX1, "startReading", "()V"⟩
abbrev cX1_begin : ByteArray := prog_3_method_4_code
def yX1_begin : MethodName := ⟨RX1, "begin", "(II)V"⟩
abbrev cX1_finish : ByteArray := prog_3_method_5_code
def yX1_finish : MethodName := ⟨RX1, "finish", "(II)V"⟩
abbrev cX1_openIsland : ByteArray := prog_3_method_6_code
def yX1_openIsland : MethodName := ⟨RX1, "openIsland", "(I)I"⟩
abbrev cX1_openKind : ByteArray := prog_3_method_7_code
def yX1_openKind : MethodName := ⟨RX1, "openKind", "(I)I"⟩
abbrev cX1_innermostKind : ByteArray := prog_3_method_8_code
def yX1_innermostKind : MethodName := ⟨RX1, "innermostKind", "()I"⟩
abbrev cX1_bytesOfChildren : ByteArray := prog_3_method_9_code
def yX1_bytesOfChildren : MethodName := ⟨RX1, "bytesOfChildren", "(I)I"⟩
abbrev cX1_innermostAround : ByteArray := prog_3_method_10_code
def yX1_innermostAround : MethodName := ⟨RX1, "innermostAround", "(I)I"⟩
def RX2 : String := "IslandParser$Kinds"
def TX2 : u_T := fun k => match k with
  | 0 => ("IslandParser$Kinds", "opening", "[I", true)
  | 1 => ("IslandParser$Kinds", "closing", "[I", true)
  | 2 => ("IslandParser$Kinds", "inner", "[I", true)
  | 3 => ("IslandParser$Kinds", "raw", "I", false)
  | _ => ("IslandParser$Kinds", "outer", "I", false)
def tyX2 : Nat → FieldType := fun k => match k with
  | 0 => .array .int
  | 1 => .array .int
  | 2 => .array .int
  | 3 => .int
  | _ => .int
abbrev wsX20 : List Cond := u_ws RX2 TX2 5
theorem nmX2 : ∀ a, a < 5 → ∀ b, b < 5 → a ≠ b → (TX2 a).2.1 ≠ (TX2 b).2.1 := by decide +kernel
theorem tyX2_ok : ∀ k, k < 5 → parseFieldDescriptor (TX2 k).2.2.1 = some (tyX2 k) := by decide +kernel
abbrev cX2_init : ByteArray := prog_4_method_1_code
def yX2_init : MethodName := ⟨RX2, "<init>", "()V"⟩
abbrev cX2_isComplete : ByteArray := prog_4_method_2_code
def yX2_isComplete : MethodName := ⟨RX2, "isComplete", "(I)Z"⟩
abbrev cX2_isClosedBy : ByteArray := prog_4_method_3_code
def yX2_isClosedBy : MethodName := ⟨RX2, "isClosedBy", "(II)Z"⟩
abbrev cX2_openedBy : ByteArray := prog_4_method_4_code
def yX2_openedBy : MethodName := ⟨RX2, "openedBy", "(I)I"⟩
abbrev cX2_closedBy : ByteArray := prog_4_method_5_code
def yX2_closedBy : MethodName := ⟨RX2, "closedBy", "(I)I"⟩
abbrev cX2_kindsWith : ByteArray := prog_4_method_6_code
def yX2_kindsWith : MethodName := ⟨RX2, "kindsWith", "([II)I"⟩
abbrev cX2_allowedIn : ByteArray := prog_4_method_7_code
def yX2_allowedIn : MethodName := ⟨RX2, "allowedIn", "(I)I"⟩
def RX3 : String := "IslandParser$Marks"
def TX3 : u_T := fun k => match k with
  | 0 => ("IslandParser$Marks", "places", "[I", true)
  | 1 => ("IslandParser$Marks", "behinds", "[I", true)
  | 2 => ("IslandParser$Marks", "opened", "[I", true)
  | 3 => ("IslandParser$Marks", "closed", "[I", true)
  | _ => ("IslandParser$Marks", "many", "I", false)
def tyX3 : Nat → FieldType := fun k => match k with
  | 0 => .array .int
  | 1 => .array .int
  | 2 => .array .int
  | 3 => .array .int
  | _ => .int
abbrev wsX30 : List Cond := u_ws RX3 TX3 5
theorem nmX3 : ∀ a, a < 5 → ∀ b, b < 5 → a ≠ b → (TX3 a).2.1 ≠ (TX3 b).2.1 := by decide +kernel
theorem tyX3_ok : ∀ k, k < 5 → parseFieldDescriptor (TX3 k).2.2.1 = some (tyX3 k) := by decide +kernel
abbrev cX3_init : ByteArray := prog_5_method_1_code
def yX3_init : MethodName := ⟨RX3, "<init>", "()V"⟩
abbrev cX3_find : ByteArray := prog_5_method_2_code
def yX3_find : MethodName := ⟨RX3, "find", "(LIslandParser$Text;LIslandParser$Kinds;)V"⟩
abbrev cX3_findAt : ByteArray := prog_5_method_3_code
def yX3_findAt : MethodName := ⟨RX3, "findAt", "(LIslandParser$Text;LIslandParser$Kinds;I)I"⟩
def RX4 : String := "IslandParser$Text"
def TX4 : u_T := fun k => match k with
  | 0 => ("IslandParser$Text", "bytes", "[I", true)
  | 1 => ("IslandParser$Text", "many", "I", false)
  | _ => ("IslandParser$Text", "escape", "I", false)
def tyX4 : Nat → FieldType := fun k => match k with
  | 0 => .array .int
  | 1 => .int
  | _ => .int
abbrev wsX40 : List Cond := u_ws RX4 TX4 3
theorem nmX4 : ∀ a, a < 3 → ∀ b, b < 3 → a ≠ b → (TX4 a).2.1 ≠ (TX4 b).2.1 := by decide +kernel
theorem tyX4_ok : ∀ k, k < 3 → parseFieldDescriptor (TX4 k).2.2.1 = some (tyX4 k) := by decide +kernel
abbrev cX4_init : ByteArray := prog_6_method_1_code
def yX4_init : MethodName := ⟨RX4, "<init>", "()V"⟩
abbrev cX4_hasPlace : ByteArray := prog_6_method_2_code
def yX4_hasPlace : MethodName := ⟨RX4, "hasPlace", "(I)Z"⟩
abbrev cX4_append : ByteArray := prog_6_method_3_code
def yX4_append : MethodName := ⟨RX4, "append", "(I)V"⟩
abbrev cX4_isEscape : ByteArray := prog_6_method_4_code
def yX4_isEscape : MethodName := ⟨RX4, "isEscape", "(I)Z"⟩
abbrev cX4_wordAt : ByteArray := prog_6_method_5_code
def yX4_wordAt : MethodName := ⟨RX4, "wordAt", "(II)I"⟩
def RX5 : String := "IslandParser"
def TX5 : u_T := fun k => match k with
  | 0 => ("IslandParser", "text", "LIslandParser$Text;", true)
  | 1 => ("IslandParser", "kinds", "LIslandParser$Kinds;", true)
  | 2 => ("IslandParser", "islands", "LIslandParser$Islands;", true)
  | 3 => ("IslandParser", "marks", "LIslandParser$Marks;", true)
  | 4 => ("IslandParser", "bestReader", "LIslandParser$BestReader;", true)
  | _ => ("IslandParser", "lenient", "Z", false)
def tyX5 : Nat → FieldType := fun k => match k with
  | 0 => .object "IslandParser$Text"
  | 1 => .object "IslandParser$Kinds"
  | 2 => .object "IslandParser$Islands"
  | 3 => .object "IslandParser$Marks"
  | 4 => .object "IslandParser$BestReader"
  | _ => .boolean
abbrev wsX50 : List Cond := u_ws RX5 TX5 6
theorem nmX5 : ∀ a, a < 6 → ∀ b, b < 6 → a ≠ b → (TX5 a).2.1 ≠ (TX5 b).2.1 := by decide +kernel
theorem tyX5_ok : ∀ k, k < 6 → parseFieldDescriptor (TX5 k).2.2.1 = some (tyX5 k) := by decide +kernel
abbrev cX5_init : ByteArray := prog_1_method_1_code
def yX5_init : MethodName := ⟨RX5, "<init>", "()V"⟩
abbrev cX5_feed : ByteArray := prog_1_method_2_code
def yX5_feed : MethodName := ⟨RX5, "feed", "(J)I"⟩
abbrev cX5_cut : ByteArray := prog_1_method_3_code
def yX5_cut : MethodName := ⟨RX5, "cut", "(I)I"⟩
abbrev cX5_set : ByteArray := prog_1_method_4_code
def yX5_set : MethodName := ⟨RX5, "set", "(II)I"⟩
abbrev cX5_size : ByteArray := prog_1_method_5_code
def yX5_size : MethodName := ⟨RX5, "size", "()I"⟩
abbrev cX5_byteAt : ByteArray := prog_1_method_6_code
def yX5_byteAt : MethodName := ⟨RX5, "byteAt", "(I)I"⟩
abbrev cX5_setEscape : ByteArray := prog_1_method_7_code
def yX5_setEscape : MethodName := ⟨RX5, "setEscape", "(I)I"⟩
abbrev cX5_setWord : ByteArray := prog_1_method_8_code
def yX5_setWord : MethodName := ⟨RX5, "setWord", "(IZII)Z"⟩
abbrev cX5_setKind : ByteArray := prog_1_method_9_code
def yX5_setKind : MethodName := ⟨RX5, "setKind", "(IZZI)I"⟩
abbrev cX5_setLenient : ByteArray := prog_1_method_10_code
def yX5_setLenient : MethodName := ⟨RX5, "setLenient", "(Z)Z"⟩
abbrev cX5_quick : ByteArray := prog_1_method_11_code
def yX5_quick : MethodName := ⟨RX5, "quick", "()I"⟩
abbrev cX5_best : ByteArray := prog_1_method_12_code
def yX5_best : MethodName := ⟨RX5, "best", "()I"⟩
abbrev cX5_hasReading : ByteArray := prog_1_method_13_code
def yX5_hasReading : MethodName := ⟨RX5, "hasReading", "()Z"⟩
abbrev cX5_markCount : ByteArray := prog_1_method_14_code
def yX5_markCount : MethodName := ⟨RX5, "markCount", "()I"⟩
abbrev cX5_mark : ByteArray := prog_1_method_15_code
def yX5_mark : MethodName := ⟨RX5, "mark", "(I)I"⟩
abbrev cX5_islandCount : ByteArray := prog_1_method_16_code
def yX5_islandCount : MethodName := ⟨RX5, "islandCount", "()I"⟩
abbrev cX5_kind : ByteArray := prog_1_method_17_code
def yX5_kind : MethodName := ⟨RX5, "kind", "(I)I"⟩
abbrev cX5_start : ByteArray := prog_1_method_18_code
def yX5_start : MethodName := ⟨RX5, "start", "(I)I"⟩
abbrev cX5_end : ByteArray := prog_1_method_19_code
def yX5_end : MethodName := ⟨RX5, "end", "(I)I"⟩
abbrev cX5_state : ByteArray := prog_1_method_20_code
def yX5_state : MethodName := ⟨RX5, "state", "(I)I"⟩
abbrev cX5_parent : ByteArray := prog_1_method_21_code
def yX5_parent : MethodName := ⟨RX5, "parent", "(I)I"⟩
abbrev cX5_depth : ByteArray := prog_1_method_22_code
def yX5_depth : MethodName := ⟨RX5, "depth", "(I)I"⟩
abbrev cX5_own : ByteArray := prog_1_method_23_code
def yX5_own : MethodName := ⟨RX5, "own", "(I)I"⟩
abbrev cX5_at : ByteArray := prog_1_method_24_code
def yX5_at : MethodName := ⟨RX5, "at", "(I)I"⟩
abbrev cX5_count : ByteArray := prog_1_method_25_code
def yX5_count : MethodName := ⟨RX5, "count", "(II)I"⟩
abbrev cX5_water : ByteArray := prog_1_method_26_code
def yX5_water : MethodName := ⟨RX5, "water", "()I"⟩
abbrev cX5_left : ByteArray := prog_1_method_27_code
def yX5_left : MethodName := ⟨RX5, "left", "()I"⟩
abbrev cX5_share : ByteArray := prog_1_method_28_code
def yX5_share : MethodName := ⟨RX5, "share", "()D"⟩
abbrev cX5_digest : ByteArray := prog_1_method_29_code
def yX5_digest : MethodName := ⟨RX5, "digest", "()J"⟩
abbrev cX5_withIslands : ByteArray := prog_1_method_30_code
def yX5_withIslands : MethodName := ⟨RX5, "withIslands", "(J)J"⟩
abbrev cX5_mixed : ByteArray := prog_1_method_31_code
def yX5_mixed : MethodName := ⟨RX5, "mixed", "(JI)J"⟩
abbrev cX5_isTextByte : ByteArray := prog_1_method_32_code
def yX5_isTextByte : MethodName := ⟨RX5, "isTextByte", "(I)Z"⟩
abbrev cX5_holdsKind : ByteArray := prog_1_method_33_code
def yX5_holdsKind : MethodName := ⟨RX5, "holdsKind", "(II)Z"⟩
abbrev cX5_withKind : ByteArray := prog_1_method_34_code
def yX5_withKind : MethodName := ⟨RX5, "withKind", "(IIZ)I"⟩
abbrev cX5_needPlace : ByteArray := prog_1_method_35_code
def yX5_needPlace : MethodName := ⟨RX5, "needPlace", "(I)V"⟩
abbrev cX5_needKind : ByteArray := prog_1_method_36_code
def yX5_needKind : MethodName := ⟨RX5, "needKind", "(I)V"⟩
abbrev cX5_needReading : ByteArray := prog_1_method_37_code
def yX5_needReading : MethodName := ⟨RX5, "needReading", "()V"⟩
abbrev cX5_needIsland : ByteArray := prog_1_method_38_code
def yX5_needIsland : MethodName := ⟨RX5, "needIsland", "(I)V"⟩
abbrev cX5_readWordAt : ByteArray := prog_1_method_39_code
def yX5_readWordAt : MethodName := ⟨RX5, "readWordAt", "(I)I"⟩
abbrev cX5_takesWord : ByteArray := prog_1_method_40_code
def yX5_takesWord : MethodName := ⟨RX5, "takesWord", "(III)Z"⟩
abbrev cX5_takesOuterClosing : ByteArray := prog_1_method_41_code
def yX5_takesOuterClosing : MethodName := ⟨RX5, "takesOuterClosing", "(III)Z"⟩
abbrev cX5_islandsInsideClosedBy : ByteArray := prog_1_method_42_code
def yX5_islandsInsideClosedBy : MethodName := ⟨RX5, "islandsInsideClosedBy", "(I)I"⟩
abbrev cX5_giveUp : ByteArray := prog_1_method_43_code
def yX5_giveUp : MethodName := ⟨RX5, "giveUp", "(III)V"⟩
abbrev cX5_smallestKind : ByteArray := prog_1_method_44_code
def yX5_smallestKind : MethodName := ⟨RX5, "smallestKind", "(I)I"⟩
def RX6 : String := "IslandParserModel"
def TX6 : u_T := fun k => match k with
  | 0 => ("IslandParserModel", "thrown", "I", false)
  | 1 => ("IslandParserModel", "size", "I", false)
  | 2 => ("IslandParserModel", "text", "[I", true)
  | 3 => ("IslandParserModel", "escape", "I", false)
  | 4 => ("IslandParserModel", "isLenient", "Z", false)
  | 5 => ("IslandParserModel", "wordSizes", "[I", true)
  | 6 => ("IslandParserModel", "words", "[I", true)
  | 7 => ("IslandParserModel", "areRaw", "[Z", true)
  | 8 => ("IslandParserModel", "areOuter", "[Z", true)
  | 9 => ("IslandParserModel", "inners", "[I", true)
  | 10 => ("IslandParserModel", "hasReading", "Z", false)
  | 11 => ("IslandParserModel", "left", "I", false)
  | 12 => ("IslandParserModel", "islands", "I", false)
  | 13 => ("IslandParserModel", "kinds", "[I", true)
  | 14 => ("IslandParserModel", "starts", "[I", true)
  | 15 => ("IslandParserModel", "ends", "[I", true)
  | 16 => ("IslandParserModel", "states", "[I", true)
  | 17 => ("IslandParserModel", "parents", "[I", true)
  | 18 => ("IslandParserModel", "opens", "I", false)
  | 19 => ("IslandParserModel", "open", "[I", true)
  | 20 => ("IslandParserModel", "marks", "I", false)
  | 21 => ("IslandParserModel", "places", "[I", true)
  | 22 => ("IslandParserModel", "sizes", "[I", true)
  | _ => ("IslandParserModel", "unused", "[I", true)
def tyX6 : Nat → FieldType := fun k => match k with
  | 0 => .int
  | 1 => .int
  | 2 => .array .int
  | 3 => .int
  | 4 => .boolean
  | 5 => .array .int
  | 6 => .array .int
  | 7 => .array .boolean
  | 8 => .array .boolean
  | 9 => .array .int
  | 10 => .boolean
  | 11 => .int
  | 12 => .int
  | 13 => .array .int
  | 14 => .array .int
  | 15 => .array .int
  | 16 => .array .int
  | 17 => .array .int
  | 18 => .int
  | 19 => .array .int
  | 20 => .int
  | 21 => .array .int
  | 22 => .array .int
  | _ => .array .int
abbrev wsX60 : List Cond := u_ws RX6 TX6 24
theorem nmX6 : ∀ a, a < 24 → ∀ b, b < 24 → a ≠ b → (TX6 a).2.1 ≠ (TX6 b).2.1 := by decide +kernel
theorem tyX6_ok : ∀ k, k < 24 → parseFieldDescriptor (TX6 k).2.2.1 = some (tyX6 k) := by decide +kernel
abbrev cX6_init : ByteArray := prog_8_method_1_code
def yX6_init : MethodName := ⟨RX6, "<init>", "()V"⟩
abbrev cX6_thrown : ByteArray := prog_8_method_2_code
def yX6_thrown : MethodName := ⟨RX6, "thrown", "()I"⟩
abbrev cX6_no : ByteArray := prog_8_method_3_code
def yX6_no : MethodName := ⟨RX6, "no", "(I)I"⟩
abbrev cX6_isIn : ByteArray := prog_8_method_4_code
def yX6_isIn : MethodName := ⟨RX6, "isIn", "(III)Z"⟩
abbrev cX6_isByte : ByteArray := prog_8_method_5_code
def yX6_isByte : MethodName := ⟨RX6, "isByte", "(I)Z"⟩
abbrev cX6_feed : ByteArray := prog_8_method_6_code
def yX6_feed : MethodName := ⟨RX6, "feed", "(J)I"⟩
abbrev cX6_cut : ByteArray := prog_8_method_7_code
def yX6_cut : MethodName := ⟨RX6, "cut", "(I)I"⟩
abbrev cX6_set : ByteArray := prog_8_method_8_code
def yX6_set : MethodName := ⟨RX6, "set", "(II)I"⟩
abbrev cX6_size : ByteArray := prog_8_method_9_code
def yX6_size : MethodName := ⟨RX6, "size", "()I"⟩
abbrev cX6_byteAt : ByteArray := prog_8_method_10_code
def yX6_byteAt : MethodName := ⟨RX6, "byteAt", "(I)I"⟩
abbrev cX6_setEscape : ByteArray := prog_8_method_11_code
def yX6_setEscape : MethodName := ⟨RX6, "setEscape", "(I)I"⟩
abbrev cX6_isComplete : ByteArray := prog_8_method_12_code
def yX6_isComplete : MethodName := ⟨RX6, "isComplete", "(I)Z"⟩
abbrev cX6_setWord : ByteArray := prog_8_method_13_code
def yX6_setWord : MethodName := ⟨RX6, "setWord", "(IZII)Z"⟩
abbrev cX6_setKind : ByteArray := prog_8_method_14_code
def yX6_setKind : MethodName := ⟨RX6, "setKind", "(IZZI)I"⟩
abbrev cX6_setLenient : ByteArray := prog_8_method_15_code
def yX6_setLenient : MethodName := ⟨RX6, "setLenient", "(Z)Z"⟩
abbrev cX6_stands : ByteArray := prog_8_method_16_code
def yX6_stands : MethodName := ⟨RX6, "stands", "(II)Z"⟩
abbrev cX6_canStand : ByteArray := prog_8_method_17_code
def yX6_canStand : MethodName := ⟨RX6, "canStand", "(II)Z"⟩
abbrev cX6_begin : ByteArray := prog_8_method_18_code
def yX6_begin : MethodName := ⟨RX6, "begin", "(II)V"⟩
abbrev cX6_finish : ByteArray := prog_8_method_19_code
def yX6_finish : MethodName := ⟨RX6, "finish", "(II)V"⟩
abbrev cX6_step : ByteArray := prog_8_method_20_code
def yX6_step : MethodName := ⟨RX6, "step", "(I)I"⟩
abbrev cX6_quick : ByteArray := prog_8_method_21_code
def yX6_quick : MethodName := ⟨RX6, "quick", "()I"⟩
abbrev cX6_findMarks : ByteArray := prog_8_method_22_code
def yX6_findMarks : MethodName := ⟨RX6, "findMarks", "()V"⟩
abbrev cX6_isWord : ByteArray := prog_8_method_23_code
def yX6_isWord : MethodName := ⟨RX6, "isWord", "(II)Z"⟩
abbrev cX6_at : ByteArray := prog_8_method_24_code
def yX6_at : MethodName := ⟨RX6, "at", "(III)I"⟩
abbrev cX6_paired : ByteArray := prog_8_method_25_code
def yX6_paired : MethodName := ⟨RX6, "paired", "(IIIII)I"⟩
abbrev cX6_canPair : ByteArray := prog_8_method_26_code
def yX6_canPair : MethodName := ⟨RX6, "canPair", "(IIII)Z"⟩
abbrev cX6_count : ByteArray := prog_8_method_27_code
def yX6_count : MethodName := ⟨RX6, "count", "()V"⟩
abbrev cX6_take : ByteArray := prog_8_method_28_code
def yX6_take : MethodName := ⟨RX6, "take", "(IIII)V"⟩
abbrev cX6_best : ByteArray := prog_8_method_29_code
def yX6_best : MethodName := ⟨RX6, "best", "()I"⟩
abbrev cX6_hasReading : ByteArray := prog_8_method_30_code
def yX6_hasReading : MethodName := ⟨RX6, "hasReading", "()Z"⟩
abbrev cX6_markCount : ByteArray := prog_8_method_31_code
def yX6_markCount : MethodName := ⟨RX6, "markCount", "()I"⟩
abbrev cX6_mark : ByteArray := prog_8_method_32_code
def yX6_mark : MethodName := ⟨RX6, "mark", "(I)I"⟩
abbrev cX6_asks : ByteArray := prog_8_method_33_code
def yX6_asks : MethodName := ⟨RX6, "asks", "(II)Z"⟩
abbrev cX6_islandCount : ByteArray := prog_8_method_34_code
def yX6_islandCount : MethodName := ⟨RX6, "islandCount", "()I"⟩
abbrev cX6_kind : ByteArray := prog_8_method_35_code
def yX6_kind : MethodName := ⟨RX6, "kind", "(I)I"⟩
abbrev cX6_start : ByteArray := prog_8_method_36_code
def yX6_start : MethodName := ⟨RX6, "start", "(I)I"⟩
abbrev cX6_end : ByteArray := prog_8_method_37_code
def yX6_end : MethodName := ⟨RX6, "end", "(I)I"⟩
abbrev cX6_state : ByteArray := prog_8_method_38_code
def yX6_state : MethodName := ⟨RX6, "state", "(I)I"⟩
abbrev cX6_parent : ByteArray := prog_8_method_39_code
def yX6_parent : MethodName := ⟨RX6, "parent", "(I)I"⟩
abbrev cX6_depth : ByteArray := prog_8_method_40_code
def yX6_depth : MethodName := ⟨RX6, "depth", "(I)I"⟩
abbrev cX6_own : ByteArray := prog_8_method_41_code
def yX6_own : MethodName := ⟨RX6, "own", "(I)I"⟩
abbrev cX6_around : ByteArray := prog_8_method_42_code
def yX6_around : MethodName := ⟨RX6, "around", "(I)I"⟩
abbrev cX6_at_ : ByteArray := prog_8_method_43_code
def yX6_at_ : MethodName := ⟨RX6, "at", "(I)I"⟩
abbrev cX6_count_ : ByteArray := prog_8_method_44_code
def yX6_count_ : MethodName := ⟨RX6, "count", "(II)I"⟩
abbrev cX6_outside : ByteArray := prog_8_method_45_code
def yX6_outside : MethodName := ⟨RX6, "outside", "()I"⟩
abbrev cX6_water : ByteArray := prog_8_method_46_code
def yX6_water : MethodName := ⟨RX6, "water", "()I"⟩
abbrev cX6_left : ByteArray := prog_8_method_47_code
def yX6_left : MethodName := ⟨RX6, "left", "()I"⟩
abbrev cX6_share : ByteArray := prog_8_method_48_code
def yX6_share : MethodName := ⟨RX6, "share", "()D"⟩
abbrev cX6_digest : ByteArray := prog_8_method_49_code
def yX6_digest : MethodName := ⟨RX6, "digest", "()J"⟩
def RJ9 : String := "java/lang/Math"
def TJ9 : u_T := fun k => match k with
  | _ => ("", "", "", false)
def tyJ9 : Nat → FieldType := fun k => match k with
  | _ => .int
abbrev wsJ90 : List Cond := u_ws RJ9 TJ9 0
theorem nmJ9 : ∀ a, a < 0 → ∀ b, b < 0 → a ≠ b → (TJ9 a).2.1 ≠ (TJ9 b).2.1 := by decide +kernel
theorem tyJ9_ok : ∀ k, k < 0 → parseFieldDescriptor (TJ9 k).2.2.1 = some (tyJ9 k) := by decide +kernel
abbrev cJ9_max_7cf53 : ByteArray := prog_13_method_65_code
def yJ9_max_7cf53 : MethodName := ⟨RJ9, "max", "(II)I"⟩
abbrev cJ9_min_7cf53 : ByteArray := prog_13_method_69_code
def yJ9_min_7cf53 : MethodName := ⟨RJ9, "min", "(II)I"⟩
def RJ0 : String := "java/lang/String"
def TJ0 : u_T := fun k => match k with
  | _ => ("", "", "", false)
def tyJ0 : Nat → FieldType := fun k => match k with
  | _ => .int
abbrev wsJ00 : List Cond := u_ws RJ0 TJ0 0
theorem nmJ0 : ∀ a, a < 0 → ∀ b, b < 0 → a ≠ b → (TJ0 a).2.1 ≠ (TJ0 b).2.1 := by decide +kernel
theorem tyJ0_ok : ∀ k, k < 0 → parseFieldDescriptor (TJ0 k).2.2.1 = some (tyJ0 k) := by decide +kernel
def RL : String := "IslandParserLaw"
abbrev cL_feed : ByteArray := method_3_code
def yL_feed : MethodName := ⟨RL, "feed", "(LIslandParser;J[J)I"⟩
abbrev cL_cut : ByteArray := method_4_code
def yL_cut : MethodName := ⟨RL, "cut", "(LIslandParser;I[J)I"⟩
abbrev cL_set : ByteArray := method_5_code
def yL_set : MethodName := ⟨RL, "set", "(LIslandParser;II[J)I"⟩
abbrev cL_byteAt : ByteArray := method_6_code
def yL_byteAt : MethodName := ⟨RL, "byteAt", "(LIslandParser;I[J)I"⟩
abbrev cL_setEscape : ByteArray := method_7_code
def yL_setEscape : MethodName := ⟨RL, "setEscape", "(LIslandParser;I[J)I"⟩
abbrev cL_setWord : ByteArray := method_8_code
def yL_setWord : MethodName := ⟨RL, "setWord", "(LIslandParser;IZII[J)I"⟩
abbrev cL_setKind : ByteArray := method_9_code
def yL_setKind : MethodName := ⟨RL, "setKind", "(LIslandParser;IZZI[J)I"⟩
abbrev cL_mark : ByteArray := method_10_code
def yL_mark : MethodName := ⟨RL, "mark", "(LIslandParser;I[J)I"⟩
abbrev cL_islandCount : ByteArray := method_11_code
def yL_islandCount : MethodName := ⟨RL, "islandCount", "(LIslandParser;[J)I"⟩
abbrev cL_kind : ByteArray := method_12_code
def yL_kind : MethodName := ⟨RL, "kind", "(LIslandParser;I[J)I"⟩
abbrev cL_start : ByteArray := method_13_code
def yL_start : MethodName := ⟨RL, "start", "(LIslandParser;I[J)I"⟩
abbrev cL_end : ByteArray := method_14_code
def yL_end : MethodName := ⟨RL, "end", "(LIslandParser;I[J)I"⟩
abbrev cL_state : ByteArray := method_15_code
def yL_state : MethodName := ⟨RL, "state", "(LIslandParser;I[J)I"⟩
abbrev cL_parent : ByteArray := method_16_code
def yL_parent : MethodName := ⟨RL, "parent", "(LIslandParser;I[J)I"⟩
abbrev cL_depth : ByteArray := method_17_code
def yL_depth : MethodName := ⟨RL, "depth", "(LIslandParser;I[J)I"⟩
abbrev cL_own : ByteArray := method_18_code
def yL_own : MethodName := ⟨RL, "own", "(LIslandParser;I[J)I"⟩
abbrev cL_at : ByteArray := method_19_code
def yL_at : MethodName := ⟨RL, "at", "(LIslandParser;I[J)I"⟩
abbrev cL_count : ByteArray := method_20_code
def yL_count : MethodName := ⟨RL, "count", "(LIslandParser;II[J)I"⟩
abbrev cL_water : ByteArray := method_21_code
def yL_water : MethodName := ⟨RL, "water", "(LIslandParser;[J)I"⟩
abbrev cL_left : ByteArray := method_22_code
def yL_left : MethodName := ⟨RL, "left", "(LIslandParser;[J)I"⟩
abbrev cL_share : ByteArray := method_23_code
def yL_share : MethodName := ⟨RL, "share", "(LIslandParser;[D)I"⟩
abbrev cL_law : ByteArray := code
def yL_law : MethodName := ⟨RL, "law", "([I)Z"⟩
def wsL_law0_r1 : List Cond := [Cond.classLink RL 8 RX5, Cond.instantiable RX5 6, Cond.initialized RX5, Cond.classLink RL 86 RX6, Cond.instantiable RX6 24, Cond.initialized RX6, Cond.arrayClass .long, Cond.arrayClass .double, Cond.constantLong RL 89 (4294967295), Cond.methodLink RL 85 yX5_init, Cond.instanceMethod yX5_init, Cond.code yX5_init cX5_init 1 none, Cond.methodLink RX5 1 objectInit, Cond.instanceMethod objectInit, Cond.code objectInit ⟨#[0xb1]⟩ 1 none, Cond.classLink RX5 7 RX4, Cond.instantiable RX4 3, Cond.initialized RX4, Cond.fieldLink RX5 10 "IslandParser" "text" "LIslandParser$Text;", Cond.classLink RX5 16 RX2, Cond.instantiable RX2 5, Cond.initialized RX2, Cond.fieldLink RX5 19 "IslandParser" "kinds" "LIslandParser$Kinds;", Cond.classLink RX5 23 RX1]
def wsL_law0_r2 : List Cond := [Cond.instantiable RX1 11, Cond.initialized RX1, Cond.fieldLink RX5 26 "IslandParser" "islands" "LIslandParser$Islands;", Cond.classLink RX5 30 RX3, Cond.instantiable RX3 5, Cond.initialized RX3, Cond.fieldLink RX5 33 "IslandParser" "marks" "LIslandParser$Marks;", Cond.classLink RX5 37 RX0, Cond.instantiable RX0 2, Cond.initialized RX0, Cond.fieldLink RX5 40 "IslandParser" "bestReader" "LIslandParser$BestReader;", Cond.fieldLink RX5 44 "IslandParser" "lenient" "Z", Cond.methodLink RX5 9 yX4_init, Cond.instanceMethod yX4_init, Cond.code yX4_init cX4_init 1 none, Cond.methodLink RX4 3 objectInit, Cond.arrayClass .int, Cond.fieldLink RX4 9 "IslandParser$Text" "bytes" "[I", Cond.fieldLink RX4 15 "IslandParser$Text" "many" "I", Cond.fieldLink RX4 19 "IslandParser$Text" "escape" "I", Cond.methodLink RX5 18 yX2_init, Cond.instanceMethod yX2_init, Cond.code yX2_init cX2_init 2 none, Cond.methodLink RX2 3 objectInit]
def wsL_law0_r3 : List Cond := [Cond.fieldLink RX2 9 "IslandParser$Kinds" "opening" "[I", Cond.fieldLink RX2 15 "IslandParser$Kinds" "closing" "[I", Cond.fieldLink RX2 18 "IslandParser$Kinds" "inner" "[I", Cond.fieldLink RX2 21 "IslandParser$Kinds" "raw" "I", Cond.fieldLink RX2 25 "IslandParser$Kinds" "outer" "I", Cond.methodLink RX5 25 yX1_init, Cond.instanceMethod yX1_init, Cond.code yX1_init cX1_init 1 none, Cond.methodLink RX1 3 objectInit, Cond.fieldLink RX1 9 "IslandParser$Islands" "kinds" "[I", Cond.fieldLink RX1 15 "IslandParser$Islands" "starts" "[I", Cond.fieldLink RX1 18 "IslandParser$Islands" "ends" "[I", Cond.fieldLink RX1 21 "IslandParser$Islands" "states" "[I", Cond.fieldLink RX1 24 "IslandParser$Islands" "parents" "[I", Cond.fieldLink RX1 27 "IslandParser$Islands" "depths" "[I", Cond.fieldLink RX1 30 "IslandParser$Islands" "open" "[I", Cond.fieldLink RX1 33 "IslandParser$Islands" "many" "I", Cond.fieldLink RX1 37 "IslandParser$Islands" "openMany" "I", Cond.fieldLink RX1 40 "IslandParser$Islands" "leftOver" "I", Cond.fieldLink RX1 43 "IslandParser$Islands" "isRead" "Z", Cond.methodLink RX5 32 yX3_init, Cond.instanceMethod yX3_init, Cond.code yX3_init cX3_init 1 none, Cond.methodLink RX3 3 objectInit]
def wsL_law0_r4 : List Cond := [Cond.fieldLink RX3 9 "IslandParser$Marks" "places" "[I", Cond.fieldLink RX3 15 "IslandParser$Marks" "behinds" "[I", Cond.fieldLink RX3 18 "IslandParser$Marks" "opened" "[I", Cond.fieldLink RX3 21 "IslandParser$Marks" "closed" "[I", Cond.fieldLink RX3 24 "IslandParser$Marks" "many" "I", Cond.methodLink RX5 39 yX0_init, Cond.instanceMethod yX0_init, Cond.code yX0_init cX0_init 1 none, Cond.methodLink RX0 3 objectInit, Cond.fieldLink RX0 11 "IslandParser$BestReader" "stretches" "[J", Cond.fieldLink RX0 15 "IslandParser$BestReader" "closers" "[I", Cond.methodLink RL 88 yX6_init, Cond.instanceMethod yX6_init, Cond.code yX6_init cX6_init 1 none, Cond.methodLink RX6 1 objectInit, Cond.fieldLink RX6 9 "IslandParserModel" "text" "[I", Cond.fieldLink RX6 13 "IslandParserModel" "escape" "I", Cond.fieldLink RX6 17 "IslandParserModel" "isLenient" "Z", Cond.fieldLink RX6 21 "IslandParserModel" "wordSizes" "[I", Cond.fieldLink RX6 24 "IslandParserModel" "words" "[I", Cond.arrayClass .boolean, Cond.fieldLink RX6 27 "IslandParserModel" "areRaw" "[Z", Cond.fieldLink RX6 31 "IslandParserModel" "areOuter" "[Z", Cond.fieldLink RX6 34 "IslandParserModel" "inners" "[I"]
def wsL_law0_r5 : List Cond := [Cond.fieldLink RX6 37 "IslandParserModel" "kinds" "[I", Cond.fieldLink RX6 40 "IslandParserModel" "starts" "[I", Cond.fieldLink RX6 43 "IslandParserModel" "ends" "[I", Cond.fieldLink RX6 46 "IslandParserModel" "states" "[I", Cond.fieldLink RX6 49 "IslandParserModel" "parents" "[I", Cond.fieldLink RX6 52 "IslandParserModel" "open" "[I", Cond.fieldLink RX6 55 "IslandParserModel" "places" "[I", Cond.fieldLink RX6 58 "IslandParserModel" "sizes" "[I", Cond.fieldLink RX6 61 "IslandParserModel" "unused" "[I", Cond.methodLink RL 91 yL_feed, Cond.static yL_feed, Cond.initialized RL, Cond.codeWith yL_feed cL_feed 5 (some .int) [(0, 9, 12, 13), (0, 9, 16, 15)], Cond.classLink RL 13 "java/lang/IllegalArgumentException", Cond.classLink RL 15 "java/lang/IllegalStateException", Cond.methodLink RL 7 yX5_feed, Cond.instanceMethod yX5_feed, Cond.selects RX5 yX5_feed yX5_feed, Cond.code yX5_feed cX5_feed 6 (some .int), Cond.classLink RX5 52 "java/lang/IllegalArgumentException", Cond.initialized "java/lang/IllegalArgumentException", Cond.classLink RX5 63 "java/lang/IllegalStateException", Cond.initialized "java/lang/IllegalStateException", Cond.fieldLink RX5 59 "IslandParser$Text" "many" "I"]
def wsL_law0_r6 : List Cond := [Cond.methodLink RX5 48 yX5_isTextByte, Cond.static yX5_isTextByte, Cond.code yX5_isTextByte cX5_isTextByte 1 (some .boolean), Cond.methodLink RX5 68 yX4_append, Cond.instanceMethod yX4_append, Cond.selects RX4 yX4_append yX4_append, Cond.code yX4_append cX4_append 2 none, Cond.methodLink RX5 72 yX1_forget, Cond.instanceMethod yX1_forget, Cond.selects RX1 yX1_forget yX1_forget, Cond.code yX1_forget cX1_forget 1 none, Cond.methodLink RL 96 yX6_feed, Cond.instanceMethod yX6_feed, Cond.selects RX6 yX6_feed yX6_feed, Cond.code yX6_feed cX6_feed 6 (some .int), Cond.fieldLink RX6 64 "IslandParserModel" "thrown" "I", Cond.constantLong RX6 71 (255), Cond.fieldLink RX6 81 "IslandParserModel" "size" "I", Cond.fieldLink RX6 84 "IslandParserModel" "hasReading" "Z", Cond.methodLink RX6 73 yX6_isByte, Cond.static yX6_isByte, Cond.code yX6_isByte cX6_isByte 1 (some .boolean), Cond.methodLink RX6 67 yX6_isIn, Cond.static yX6_isIn]
def wsL_law0_r7 : List Cond := [Cond.code yX6_isIn cX6_isIn 3 (some .boolean), Cond.methodLink RX6 77 yX6_no, Cond.instanceMethod yX6_no, Cond.selects RX6 yX6_no yX6_no, Cond.code yX6_no cX6_no 2 (some .int), Cond.methodLink RL 97 yX6_thrown, Cond.instanceMethod yX6_thrown, Cond.selects RX6 yX6_thrown yX6_thrown, Cond.code yX6_thrown cX6_thrown 1 (some .int), Cond.methodLink RL 100 yL_cut, Cond.static yL_cut, Cond.codeWith yL_cut cL_cut 4 (some .int) [(0, 9, 12, 13)], Cond.methodLink RL 17 yX5_cut, Cond.instanceMethod yX5_cut, Cond.selects RX5 yX5_cut yX5_cut, Cond.code yX5_cut cX5_cut 2 (some .int), Cond.methodLink RL 103 yX6_cut, Cond.instanceMethod yX6_cut, Cond.selects RX6 yX6_cut yX6_cut, Cond.code yX6_cut cX6_cut 2 (some .int), Cond.methodLink RL 104 yL_set, Cond.static yL_set, Cond.codeWith yL_set cL_set 5 (some .int) [(0, 10, 13, 25), (0, 10, 17, 13)], Cond.classLink RL 25 "java/lang/IndexOutOfBoundsException"]
def wsL_law0_r8 : List Cond := [Cond.methodLink RL 21 yX5_set, Cond.instanceMethod yX5_set, Cond.selects RX5 yX5_set yX5_set, Cond.code yX5_set cX5_set 4 (some .int), Cond.fieldLink RX5 82 "IslandParser$Text" "bytes" "[I", Cond.methodLink RX5 77 yX5_needPlace, Cond.instanceMethod yX5_needPlace, Cond.selects RX5 yX5_needPlace yX5_needPlace, Cond.code yX5_needPlace cX5_needPlace 2 none, Cond.classLink RX5 159 "java/lang/IndexOutOfBoundsException", Cond.initialized "java/lang/IndexOutOfBoundsException", Cond.methodLink RX5 214 yX4_hasPlace, Cond.instanceMethod yX4_hasPlace, Cond.selects RX4 yX4_hasPlace yX4_hasPlace, Cond.code yX4_hasPlace cX4_hasPlace 2 (some .boolean), Cond.methodLink RL 107 yX6_set, Cond.instanceMethod yX6_set, Cond.selects RX6 yX6_set yX6_set, Cond.code yX6_set cX6_set 4 (some .int), Cond.methodLink RL 108 yX5_size, Cond.instanceMethod yX5_size, Cond.selects RX5 yX5_size yX5_size, Cond.code yX5_size cX5_size 1 (some .int), Cond.methodLink RL 111 yX6_size]
def wsL_law0_r9 : List Cond := [Cond.instanceMethod yX6_size, Cond.selects RX6 yX6_size yX6_size, Cond.code yX6_size cX6_size 1 (some .int), Cond.methodLink RL 112 yL_byteAt, Cond.static yL_byteAt, Cond.codeWith yL_byteAt cL_byteAt 4 (some .int) [(0, 9, 12, 25)], Cond.methodLink RL 27 yX5_byteAt, Cond.instanceMethod yX5_byteAt, Cond.selects RX5 yX5_byteAt yX5_byteAt, Cond.code yX5_byteAt cX5_byteAt 2 (some .int), Cond.methodLink RL 114 yX6_byteAt, Cond.instanceMethod yX6_byteAt, Cond.selects RX6 yX6_byteAt yX6_byteAt, Cond.code yX6_byteAt cX6_byteAt 2 (some .int), Cond.methodLink RL 115 yL_setEscape, Cond.static yL_setEscape, Cond.codeWith yL_setEscape cL_setEscape 4 (some .int) [(0, 9, 12, 13)], Cond.methodLink RL 30 yX5_setEscape, Cond.instanceMethod yX5_setEscape, Cond.selects RX5 yX5_setEscape yX5_setEscape, Cond.code yX5_setEscape cX5_setEscape 3 (some .int), Cond.fieldLink RX5 88 "IslandParser$Text" "escape" "I", Cond.methodLink RL 117 yX6_setEscape, Cond.instanceMethod yX6_setEscape]
def wsL_law0_r10 : List Cond := [Cond.selects RX6 yX6_setEscape yX6_setEscape, Cond.code yX6_setEscape cX6_setEscape 3 (some .int), Cond.methodLink RL 118 yL_setWord, Cond.static yL_setWord, Cond.codeWith yL_setWord cL_setWord 7 (some .int) [(0, 21, 24, 25), (0, 21, 28, 13)], Cond.methodLink RL 33 yX5_setWord, Cond.instanceMethod yX5_setWord, Cond.selects RX5 yX5_setWord yX5_setWord, Cond.code yX5_setWord cX5_setWord 8 (some .boolean), Cond.fieldLink RX5 98 "IslandParser$Kinds" "closing" "[I", Cond.fieldLink RX5 101 "IslandParser$Kinds" "opening" "[I", Cond.methodLink RX5 91 yX5_needKind, Cond.instanceMethod yX5_needKind, Cond.selects RX5 yX5_needKind yX5_needKind, Cond.code yX5_needKind cX5_needKind 2 none, Cond.methodLink RX5 104 yX2_isComplete, Cond.instanceMethod yX2_isComplete, Cond.selects RX2 yX2_isComplete yX2_isComplete, Cond.code yX2_isComplete cX2_isComplete 2 (some .boolean), Cond.methodLink RL 121 yX6_setWord, Cond.instanceMethod yX6_setWord, Cond.selects RX6 yX6_setWord yX6_setWord, Cond.code yX6_setWord cX6_setWord 7 (some .boolean), Cond.methodLink RX6 87 yX6_isComplete]
def wsL_law0_r11 : List Cond := [Cond.instanceMethod yX6_isComplete, Cond.selects RX6 yX6_isComplete yX6_isComplete, Cond.code yX6_isComplete cX6_isComplete 2 (some .boolean), Cond.methodLink RL 122 yL_setKind, Cond.static yL_setKind, Cond.codeWith yL_setKind cL_setKind 7 (some .int) [(0, 14, 17, 25), (0, 14, 21, 13)], Cond.methodLink RL 37 yX5_setKind, Cond.instanceMethod yX5_setKind, Cond.selects RX5 yX5_setKind yX5_setKind, Cond.code yX5_setKind cX5_setKind 6 (some .int), Cond.fieldLink RX5 109 "IslandParser$Kinds" "inner" "[I", Cond.fieldLink RX5 112 "IslandParser$Kinds" "raw" "I", Cond.fieldLink RX5 119 "IslandParser$Kinds" "outer" "I", Cond.methodLink RX5 115 yX5_withKind, Cond.static yX5_withKind, Cond.code yX5_withKind cX5_withKind 3 (some .int), Cond.methodLink RL 125 yX6_setKind, Cond.instanceMethod yX6_setKind, Cond.selects RX6 yX6_setKind yX6_setKind, Cond.code yX6_setKind cX6_setKind 6 (some .int), Cond.methodLink RL 126 yX5_setLenient, Cond.instanceMethod yX5_setLenient, Cond.selects RX5 yX5_setLenient yX5_setLenient, Cond.code yX5_setLenient cX5_setLenient 3 (some .boolean)]
def wsL_law0_r12 : List Cond := [Cond.methodLink RL 130 yX6_setLenient, Cond.instanceMethod yX6_setLenient, Cond.selects RX6 yX6_setLenient yX6_setLenient, Cond.code yX6_setLenient cX6_setLenient 3 (some .boolean), Cond.methodLink RL 131 yX5_quick, Cond.instanceMethod yX5_quick, Cond.selects RX5 yX5_quick yX5_quick, Cond.code yX5_quick cX5_quick 3 (some .int), Cond.fieldLink RX5 132 "IslandParser$Islands" "openMany" "I", Cond.fieldLink RX5 139 "IslandParser$Islands" "many" "I", Cond.methodLink RX5 122 yX1_startReading, Cond.instanceMethod yX1_startReading, Cond.selects RX1 yX1_startReading yX1_startReading, Cond.code yX1_startReading cX1_startReading 1 none, Cond.methodLink RX5 125 yX4_isEscape, Cond.instanceMethod yX4_isEscape, Cond.selects RX4 yX4_isEscape yX4_isEscape, Cond.code yX4_isEscape cX4_isEscape 2 (some .boolean), Cond.methodLink RX4 22 yX4_hasPlace, Cond.methodLink RX5 128 yX5_readWordAt, Cond.instanceMethod yX5_readWordAt, Cond.selects RX5 yX5_readWordAt yX5_readWordAt, Cond.code yX5_readWordAt cX5_readWordAt 4 (some .int), Cond.methodLink RX5 225 yX4_wordAt]
def wsL_law0_r13 : List Cond := [Cond.instanceMethod yX4_wordAt, Cond.selects RX4 yX4_wordAt yX4_wordAt, Cond.code yX4_wordAt cX4_wordAt 5 (some .int), Cond.methodLink RX4 26 yX4_isEscape, Cond.methodLink RX5 229 yX5_takesWord, Cond.instanceMethod yX5_takesWord, Cond.selects RX5 yX5_takesWord yX5_takesWord, Cond.code yX5_takesWord cX5_takesWord 6 (some .boolean), Cond.methodLink RX5 233 yX1_innermostKind, Cond.instanceMethod yX1_innermostKind, Cond.selects RX1 yX1_innermostKind yX1_innermostKind, Cond.code yX1_innermostKind cX1_innermostKind 1 (some .int), Cond.methodLink RX1 51 yX1_openKind, Cond.instanceMethod yX1_openKind, Cond.selects RX1 yX1_openKind yX1_openKind, Cond.code yX1_openKind cX1_openKind 3 (some .int), Cond.methodLink RX1 47 yX1_openIsland, Cond.instanceMethod yX1_openIsland, Cond.selects RX1 yX1_openIsland yX1_openIsland, Cond.code yX1_openIsland cX1_openIsland 3 (some .int), Cond.methodLink RX5 237 yX2_isClosedBy, Cond.instanceMethod yX2_isClosedBy, Cond.selects RX2 yX2_isClosedBy yX2_isClosedBy, Cond.code yX2_isClosedBy cX2_isClosedBy 3 (some .boolean)]
def wsL_law0_r14 : List Cond := [Cond.methodLink RX2 28 yX2_isComplete, Cond.methodLink RX5 240 yX1_finish, Cond.instanceMethod yX1_finish, Cond.selects RX1 yX1_finish yX1_finish, Cond.code yX1_finish cX1_finish 4 none, Cond.methodLink RX5 244 yX2_openedBy, Cond.instanceMethod yX2_openedBy, Cond.selects RX2 yX2_openedBy yX2_openedBy, Cond.code yX2_openedBy cX2_openedBy 2 (some .int), Cond.methodLink RX2 32 yX2_kindsWith, Cond.instanceMethod yX2_kindsWith, Cond.selects RX2 yX2_kindsWith yX2_kindsWith, Cond.code yX2_kindsWith cX2_kindsWith 5 (some .int), Cond.methodLink RX5 247 yX2_allowedIn, Cond.instanceMethod yX2_allowedIn, Cond.selects RX2 yX2_allowedIn yX2_allowedIn, Cond.code yX2_allowedIn cX2_allowedIn 2 (some .int), Cond.static yX5_holdsKind, Cond.code yX5_holdsKind cX5_holdsKind 2 (some .boolean), Cond.methodLink RX5 250 yX5_smallestKind, Cond.static yX5_smallestKind, Cond.code yX5_smallestKind cX5_smallestKind 2 (some .int), Cond.methodLink RX5 204 yX5_holdsKind, Cond.methodLink RX5 253 yX1_begin]
def wsL_law0_r15 : List Cond := [Cond.instanceMethod yX1_begin, Cond.selects RX1 yX1_begin yX1_begin, Cond.code yX1_begin cX1_begin 3 none, Cond.methodLink RX5 256 yX5_takesOuterClosing, Cond.instanceMethod yX5_takesOuterClosing, Cond.selects RX5 yX5_takesOuterClosing yX5_takesOuterClosing, Cond.code yX5_takesOuterClosing cX5_takesOuterClosing 5 (some .boolean), Cond.fieldLink RX5 152 "IslandParser$Islands" "leftOver" "I", Cond.methodLink RX5 259 yX5_islandsInsideClosedBy, Cond.instanceMethod yX5_islandsInsideClosedBy, Cond.selects RX5 yX5_islandsInsideClosedBy yX5_islandsInsideClosedBy, Cond.code yX5_islandsInsideClosedBy cX5_islandsInsideClosedBy 3 (some .int), Cond.methodLink RX5 262 yX1_openKind, Cond.methodLink RX5 135 yX5_giveUp, Cond.instanceMethod yX5_giveUp, Cond.selects RX5 yX5_giveUp yX5_giveUp, Cond.code yX5_giveUp cX5_giveUp 5 none, Cond.methodLink RL 134 yX6_quick, Cond.instanceMethod yX6_quick, Cond.selects RX6 yX6_quick yX6_quick, Cond.code yX6_quick cX6_quick 2 (some .int), Cond.fieldLink RX6 90 "IslandParserModel" "islands" "I", Cond.fieldLink RX6 93 "IslandParserModel" "opens" "I", Cond.fieldLink RX6 110 "IslandParserModel" "left" "I"]
def wsL_law0_r16 : List Cond := [Cond.methodLink RX6 113 yX6_step, Cond.instanceMethod yX6_step, Cond.selects RX6 yX6_step yX6_step, Cond.code yX6_step cX6_step 8 (some .int), Cond.methodLink RX6 96 yX6_stands, Cond.instanceMethod yX6_stands, Cond.selects RX6 yX6_stands yX6_stands, Cond.code yX6_stands cX6_stands 5 (some .boolean), Cond.methodLink RX6 100 yX6_canStand, Cond.instanceMethod yX6_canStand, Cond.selects RX6 yX6_canStand yX6_canStand, Cond.code yX6_canStand cX6_canStand 3 (some .boolean), Cond.methodLink RX6 103 yX6_finish, Cond.instanceMethod yX6_finish, Cond.selects RX6 yX6_finish yX6_finish, Cond.code yX6_finish cX6_finish 3 none, Cond.methodLink RX6 107 yX6_begin, Cond.instanceMethod yX6_begin, Cond.selects RX6 yX6_begin yX6_begin, Cond.code yX6_begin cX6_begin 3 none, Cond.methodLink RL 135 yX5_best, Cond.instanceMethod yX5_best, Cond.selects RX5 yX5_best yX5_best, Cond.code yX5_best cX5_best 1 (some .int)]
def wsL_law0_r17 : List Cond := [Cond.methodLink RX5 140 yX3_find, Cond.instanceMethod yX3_find, Cond.selects RX3 yX3_find yX3_find, Cond.code yX3_find cX3_find 5 none, Cond.fieldLink RX3 28 "IslandParser$Text" "many" "I", Cond.methodLink RX3 31 yX4_isEscape, Cond.methodLink RX3 35 yX3_findAt, Cond.instanceMethod yX3_findAt, Cond.selects RX3 yX3_findAt yX3_findAt, Cond.code yX3_findAt cX3_findAt 8 (some .int), Cond.methodLink RX3 39 yX4_wordAt, Cond.methodLink RX3 43 yX2_openedBy, Cond.methodLink RX3 49 yX2_closedBy, Cond.instanceMethod yX2_closedBy, Cond.selects RX2 yX2_closedBy yX2_closedBy, Cond.code yX2_closedBy cX2_closedBy 2 (some .int), Cond.methodLink RX5 144 yX0_fillStretches, Cond.instanceMethod yX0_fillStretches, Cond.selects RX0 yX0_fillStretches yX0_fillStretches, Cond.code yX0_fillStretches cX0_fillStretches 6 none, Cond.fieldLink RX0 19 "IslandParser$Marks" "many" "I", Cond.fieldLink RX0 25 "IslandParser$Marks" "closed" "[I", Cond.fieldLink RX0 28 "IslandParser$Kinds" "raw" "I", Cond.methodLink RX0 37 yX0_fillStretchesTo]
def wsL_law0_r18 : List Cond := [Cond.instanceMethod yX0_fillStretchesTo, Cond.selects RX0 yX0_fillStretchesTo yX0_fillStretchesTo, Cond.code yX0_fillStretchesTo cX0_fillStretchesTo 9 none, Cond.fieldLink RX0 53 "IslandParser$Marks" "opened" "[I", Cond.methodLink RX0 60 Lib.Math.min.name, Cond.static Lib.Math.min.name, Cond.initialized "java/lang/Math", Cond.code Lib.Math.min.name Lib.Math.min.code 2 (some .int), Cond.methodLink RX0 41 yX2_allowedIn, Cond.methodLink RX0 45 yX0_keep, Cond.instanceMethod yX0_keep, Cond.selects RX0 yX0_keep yX0_keep, Cond.code yX0_keep cX0_keep 7 none, Cond.constantLong RX0 109 (255), Cond.constantLong RX0 111 (-1), Cond.methodLink RX0 49 yX0_fewest, Cond.instanceMethod yX0_fewest, Cond.selects RX0 yX0_fewest yX0_fewest, Cond.code yX0_fewest cX0_fewest 5 (some .int), Cond.methodLink RX0 56 yX0_fewestIfOpening, Cond.instanceMethod yX0_fewestIfOpening, Cond.selects RX0 yX0_fewestIfOpening yX0_fewestIfOpening, Cond.code yX0_fewestIfOpening cX0_fewestIfOpening 11 (some .int), Cond.methodLink RX0 66 yX0_fewestBetween]
def wsL_law0_r19 : List Cond := [Cond.instanceMethod yX0_fewestBetween, Cond.selects RX0 yX0_fewestBetween yX0_fewestBetween, Cond.code yX0_fewestBetween cX0_fewestBetween 7 (some .int), Cond.methodLink RX0 70 yX0_fewestInside, Cond.instanceMethod yX0_fewestInside, Cond.selects RX0 yX0_fewestInside yX0_fewestInside, Cond.code yX0_fewestInside cX0_fewestInside 5 (some .int), Cond.methodLink RX5 148 yX0_chooseIslands, Cond.instanceMethod yX0_chooseIslands, Cond.selects RX0 yX0_chooseIslands yX0_chooseIslands, Cond.code yX0_chooseIslands cX0_chooseIslands 7 none, Cond.fieldLink RX0 81 "IslandParser$Marks" "behinds" "[I", Cond.fieldLink RX0 92 "IslandParser$Islands" "leftOver" "I", Cond.methodLink RX0 73 yX1_startReading, Cond.methodLink RX0 78 yX1_openIsland, Cond.methodLink RX0 84 yX1_finish, Cond.methodLink RX0 88 yX0_beginAt, Cond.instanceMethod yX0_beginAt, Cond.selects RX0 yX0_beginAt yX0_beginAt, Cond.code yX0_beginAt cX0_beginAt 10 none, Cond.fieldLink RX0 102 "IslandParser$Islands" "many" "I", Cond.fieldLink RX0 103 "IslandParser$Marks" "places" "[I", Cond.methodLink RX0 95 yX1_innermostKind, Cond.methodLink RX0 99 yX0_bestPartner]
def wsL_law0_r20 : List Cond := [Cond.instanceMethod yX0_bestPartner, Cond.selects RX0 yX0_bestPartner yX0_bestPartner, Cond.code yX0_bestPartner cX0_bestPartner 9 (some .int), Cond.methodLink RX0 106 yX1_begin, Cond.methodLink RL 138 yX6_best, Cond.instanceMethod yX6_best, Cond.selects RX6 yX6_best yX6_best, Cond.code yX6_best cX6_best 1 (some .int), Cond.fieldLink RX6 116 "IslandParserModel" "marks" "I", Cond.methodLink RX6 147 yX6_findMarks, Cond.instanceMethod yX6_findMarks, Cond.selects RX6 yX6_findMarks yX6_findMarks, Cond.code yX6_findMarks cX6_findMarks 4 none, Cond.methodLink RX6 119 Lib.Math.max.name, Cond.static Lib.Math.max.name, Cond.code Lib.Math.max.name Lib.Math.max.code 2 (some .int), Cond.methodLink RX6 150 yX6_count, Cond.instanceMethod yX6_count, Cond.selects RX6 yX6_count yX6_count, Cond.code yX6_count cX6_count 7 none, Cond.methodLink RX6 140 Lib.Math.min.name, Cond.methodLink RX6 125 yX6_at, Cond.instanceMethod yX6_at, Cond.selects RX6 yX6_at yX6_at]
def wsL_law0_r21 : List Cond := [Cond.code yX6_at cX6_at 4 (some .int), Cond.methodLink RX6 132 yX6_canPair, Cond.instanceMethod yX6_canPair, Cond.selects RX6 yX6_canPair yX6_canPair, Cond.code yX6_canPair cX6_canPair 5 (some .boolean), Cond.methodLink RX6 129 yX6_isWord, Cond.instanceMethod yX6_isWord, Cond.selects RX6 yX6_isWord yX6_isWord, Cond.code yX6_isWord cX6_isWord 3 (some .boolean), Cond.methodLink RX6 136 yX6_paired, Cond.instanceMethod yX6_paired, Cond.selects RX6 yX6_paired yX6_paired, Cond.code yX6_paired cX6_paired 6 (some .int), Cond.methodLink RX6 143 yX6_take, Cond.instanceMethod yX6_take, Cond.selects RX6 yX6_take yX6_take, Cond.code yX6_take cX6_take 10 none, Cond.methodLink RL 139 yX5_hasReading, Cond.instanceMethod yX5_hasReading, Cond.selects RX5 yX5_hasReading yX5_hasReading, Cond.code yX5_hasReading cX5_hasReading 1 (some .boolean), Cond.fieldLink RX5 155 "IslandParser$Islands" "isRead" "Z", Cond.methodLink RL 143 yX6_hasReading, Cond.instanceMethod yX6_hasReading]
def wsL_law0_r22 : List Cond := [Cond.selects RX6 yX6_hasReading yX6_hasReading, Cond.code yX6_hasReading cX6_hasReading 1 (some .boolean), Cond.methodLink RL 144 yX5_markCount, Cond.instanceMethod yX5_markCount, Cond.selects RX5 yX5_markCount yX5_markCount, Cond.code yX5_markCount cX5_markCount 1 (some .int), Cond.fieldLink RX5 158 "IslandParser$Marks" "many" "I", Cond.methodLink RL 147 yX6_markCount, Cond.instanceMethod yX6_markCount, Cond.selects RX6 yX6_markCount yX6_markCount, Cond.code yX6_markCount cX6_markCount 1 (some .int), Cond.methodLink RL 148 yL_mark, Cond.static yL_mark, Cond.codeWith yL_mark cL_mark 4 (some .int) [(0, 9, 12, 25)], Cond.methodLink RL 41 yX5_mark, Cond.instanceMethod yX5_mark, Cond.selects RX5 yX5_mark yX5_mark, Cond.code yX5_mark cX5_mark 2 (some .int), Cond.fieldLink RX5 164 "IslandParser$Marks" "places" "[I", Cond.methodLink RL 150 yX6_mark, Cond.instanceMethod yX6_mark, Cond.selects RX6 yX6_mark yX6_mark, Cond.code yX6_mark cX6_mark 2 (some .int), Cond.methodLink RL 151 yL_islandCount]
def wsL_law0_r23 : List Cond := [Cond.static yL_islandCount, Cond.codeWith yL_islandCount cL_islandCount 3 (some .int) [(0, 8, 11, 15)], Cond.methodLink RL 44 yX5_islandCount, Cond.instanceMethod yX5_islandCount, Cond.selects RX5 yX5_islandCount yX5_islandCount, Cond.code yX5_islandCount cX5_islandCount 1 (some .int), Cond.methodLink RX5 167 yX5_needReading, Cond.instanceMethod yX5_needReading, Cond.selects RX5 yX5_needReading yX5_needReading, Cond.code yX5_needReading cX5_needReading 1 none, Cond.methodLink RL 154 yX6_islandCount, Cond.instanceMethod yX6_islandCount, Cond.selects RX6 yX6_islandCount yX6_islandCount, Cond.code yX6_islandCount cX6_islandCount 1 (some .int), Cond.methodLink RX6 153 yX6_asks, Cond.instanceMethod yX6_asks, Cond.selects RX6 yX6_asks yX6_asks, Cond.code yX6_asks cX6_asks 3 (some .boolean), Cond.methodLink RL 155 yL_kind, Cond.static yL_kind, Cond.codeWith yL_kind cL_kind 4 (some .int) [(0, 9, 12, 15), (0, 9, 15, 25)], Cond.methodLink RL 48 yX5_kind, Cond.instanceMethod yX5_kind, Cond.selects RX5 yX5_kind yX5_kind]
def wsL_law0_r24 : List Cond := [Cond.code yX5_kind cX5_kind 2 (some .int), Cond.fieldLink RX5 173 "IslandParser$Islands" "kinds" "[I", Cond.methodLink RX5 170 yX5_needIsland, Cond.instanceMethod yX5_needIsland, Cond.selects RX5 yX5_needIsland yX5_needIsland, Cond.code yX5_needIsland cX5_needIsland 2 none, Cond.methodLink RL 157 yX6_kind, Cond.instanceMethod yX6_kind, Cond.selects RX6 yX6_kind yX6_kind, Cond.code yX6_kind cX6_kind 2 (some .int), Cond.methodLink RL 158 yL_start, Cond.static yL_start, Cond.codeWith yL_start cL_start 4 (some .int) [(0, 9, 12, 15), (0, 9, 15, 25)], Cond.methodLink RL 51 yX5_start, Cond.instanceMethod yX5_start, Cond.selects RX5 yX5_start yX5_start, Cond.code yX5_start cX5_start 2 (some .int), Cond.fieldLink RX5 175 "IslandParser$Islands" "starts" "[I", Cond.methodLink RL 160 yX6_start, Cond.instanceMethod yX6_start, Cond.selects RX6 yX6_start yX6_start, Cond.code yX6_start cX6_start 2 (some .int), Cond.methodLink RL 161 yL_end, Cond.static yL_end]
def wsL_law0_r25 : List Cond := [Cond.codeWith yL_end cL_end 4 (some .int) [(0, 9, 12, 15), (0, 9, 15, 25)], Cond.methodLink RL 54 yX5_end, Cond.instanceMethod yX5_end, Cond.selects RX5 yX5_end yX5_end, Cond.code yX5_end cX5_end 2 (some .int), Cond.fieldLink RX5 178 "IslandParser$Islands" "ends" "[I", Cond.methodLink RL 163 yX6_end, Cond.instanceMethod yX6_end, Cond.selects RX6 yX6_end yX6_end, Cond.code yX6_end cX6_end 2 (some .int), Cond.methodLink RL 164 yL_state, Cond.static yL_state, Cond.codeWith yL_state cL_state 4 (some .int) [(0, 9, 12, 15), (0, 9, 15, 25)], Cond.methodLink RL 57 yX5_state, Cond.instanceMethod yX5_state, Cond.selects RX5 yX5_state yX5_state, Cond.code yX5_state cX5_state 2 (some .int), Cond.fieldLink RX5 181 "IslandParser$Islands" "states" "[I", Cond.methodLink RL 166 yX6_state, Cond.instanceMethod yX6_state, Cond.selects RX6 yX6_state yX6_state, Cond.code yX6_state cX6_state 2 (some .int), Cond.methodLink RL 167 yL_parent, Cond.static yL_parent]
def wsL_law0_r26 : List Cond := [Cond.codeWith yL_parent cL_parent 4 (some .int) [(0, 9, 12, 15), (0, 9, 15, 25)], Cond.methodLink RL 60 yX5_parent, Cond.instanceMethod yX5_parent, Cond.selects RX5 yX5_parent yX5_parent, Cond.code yX5_parent cX5_parent 2 (some .int), Cond.fieldLink RX5 184 "IslandParser$Islands" "parents" "[I", Cond.methodLink RL 169 yX6_parent, Cond.instanceMethod yX6_parent, Cond.selects RX6 yX6_parent yX6_parent, Cond.code yX6_parent cX6_parent 2 (some .int), Cond.methodLink RL 170 yL_depth, Cond.static yL_depth, Cond.codeWith yL_depth cL_depth 4 (some .int) [(0, 9, 12, 15), (0, 9, 15, 25)], Cond.methodLink RL 63 yX5_depth, Cond.instanceMethod yX5_depth, Cond.selects RX5 yX5_depth yX5_depth, Cond.code yX5_depth cX5_depth 2 (some .int), Cond.fieldLink RX5 187 "IslandParser$Islands" "depths" "[I", Cond.methodLink RL 172 yX6_depth, Cond.instanceMethod yX6_depth, Cond.selects RX6 yX6_depth yX6_depth, Cond.code yX6_depth cX6_depth 4 (some .int), Cond.methodLink RL 173 yL_own, Cond.static yL_own]
def wsL_law0_r27 : List Cond := [Cond.codeWith yL_own cL_own 4 (some .int) [(0, 9, 12, 15), (0, 9, 15, 25)], Cond.methodLink RL 66 yX5_own, Cond.instanceMethod yX5_own, Cond.selects RX5 yX5_own yX5_own, Cond.code yX5_own cX5_own 2 (some .int), Cond.methodLink RX5 190 yX1_bytesOfChildren, Cond.instanceMethod yX1_bytesOfChildren, Cond.selects RX1 yX1_bytesOfChildren yX1_bytesOfChildren, Cond.code yX1_bytesOfChildren cX1_bytesOfChildren 4 (some .int), Cond.methodLink RL 175 yX6_own, Cond.instanceMethod yX6_own, Cond.selects RX6 yX6_own yX6_own, Cond.code yX6_own cX6_own 4 (some .int), Cond.methodLink RL 176 yL_at, Cond.static yL_at, Cond.codeWith yL_at cL_at 4 (some .int) [(0, 9, 12, 15), (0, 9, 15, 25)], Cond.methodLink RL 69 yX5_at, Cond.instanceMethod yX5_at, Cond.selects RX5 yX5_at yX5_at, Cond.code yX5_at cX5_at 2 (some .int), Cond.methodLink RX5 193 yX1_innermostAround, Cond.instanceMethod yX1_innermostAround, Cond.selects RX1 yX1_innermostAround yX1_innermostAround, Cond.code yX1_innermostAround cX1_innermostAround 3 (some .int)]
def wsL_law0_r28 : List Cond := [Cond.methodLink RL 178 yX6_at_, Cond.instanceMethod yX6_at_, Cond.selects RX6 yX6_at_ yX6_at_, Cond.code yX6_at_ cX6_at_ 2 (some .int), Cond.methodLink RX6 156 yX6_around, Cond.instanceMethod yX6_around, Cond.selects RX6 yX6_around yX6_around, Cond.code yX6_around cX6_around 4 (some .int), Cond.methodLink RL 179 yL_count, Cond.static yL_count, Cond.codeWith yL_count cL_count 5 (some .int) [(0, 10, 13, 15), (0, 10, 17, 25)], Cond.methodLink RL 72 yX5_count, Cond.instanceMethod yX5_count, Cond.selects RX5 yX5_count yX5_count, Cond.code yX5_count cX5_count 5 (some .int), Cond.methodLink RL 181 yX6_count_, Cond.instanceMethod yX6_count_, Cond.selects RX6 yX6_count_ yX6_count_, Cond.code yX6_count_ cX6_count_ 5 (some .int), Cond.methodLink RL 182 yL_water, Cond.static yL_water, Cond.codeWith yL_water cL_water 3 (some .int) [(0, 8, 11, 15)], Cond.methodLink RL 75 yX5_water, Cond.instanceMethod yX5_water]
def wsL_law0_r29 : List Cond := [Cond.selects RX5 yX5_water yX5_water, Cond.code yX5_water cX5_water 1 (some .int), Cond.methodLink RL 184 yX6_water, Cond.instanceMethod yX6_water, Cond.selects RX6 yX6_water yX6_water, Cond.code yX6_water cX6_water 1 (some .int), Cond.methodLink RX6 159 yX6_outside, Cond.instanceMethod yX6_outside, Cond.selects RX6 yX6_outside yX6_outside, Cond.code yX6_outside cX6_outside 3 (some .int), Cond.methodLink RL 185 yL_left, Cond.static yL_left, Cond.codeWith yL_left cL_left 3 (some .int) [(0, 8, 11, 15)], Cond.methodLink RL 78 yX5_left, Cond.instanceMethod yX5_left, Cond.selects RX5 yX5_left yX5_left, Cond.code yX5_left cX5_left 1 (some .int), Cond.methodLink RL 187 yX6_left, Cond.instanceMethod yX6_left, Cond.selects RX6 yX6_left yX6_left, Cond.code yX6_left cX6_left 1 (some .int), Cond.methodLink RL 188 yL_share, Cond.static yL_share, Cond.codeWith yL_share cL_share 3 (some .int) [(0, 7, 10, 15)]]
def wsL_law0_r30 : List Cond := [Cond.methodLink RL 81 yX5_share, Cond.instanceMethod yX5_share, Cond.selects RX5 yX5_share yX5_share, Cond.code yX5_share cX5_share 1 (some .double), Cond.methodLink RL 191 yX6_share, Cond.instanceMethod yX6_share, Cond.selects RX6 yX6_share yX6_share, Cond.code yX6_share cX6_share 1 (some .double), Cond.methodLink RL 192 yX5_digest, Cond.instanceMethod yX5_digest, Cond.selects RX5 yX5_digest yX5_digest, Cond.code yX5_digest cX5_digest 4 (some .long), Cond.constantLong RX5 198 (109), Cond.methodLink RX5 200 yX5_mixed, Cond.static yX5_mixed, Cond.code yX5_mixed cX5_mixed 3 (some .long), Cond.constantLong RX5 212 (31), Cond.methodLink RX5 208 yX5_withIslands, Cond.instanceMethod yX5_withIslands, Cond.selects RX5 yX5_withIslands yX5_withIslands, Cond.code yX5_withIslands cX5_withIslands 6 (some .long), Cond.methodLink RL 196 yX6_digest, Cond.instanceMethod yX6_digest, Cond.selects RX6 yX6_digest yX6_digest]
def wsL_law0_r31 : List Cond := [Cond.code yX6_digest cX6_digest 4 (some .long), Cond.constantLong RX6 163 (3379), Cond.constantLong RX6 165 (31)]
def wsL_law0 : List Cond := (wsL_law0_r1 ++ (wsL_law0_r2 ++ (wsL_law0_r3 ++ (wsL_law0_r4 ++ (wsL_law0_r5 ++ (wsL_law0_r6 ++ (wsL_law0_r7 ++ (wsL_law0_r8 ++ (wsL_law0_r9 ++ (wsL_law0_r10 ++ (wsL_law0_r11 ++ (wsL_law0_r12 ++ (wsL_law0_r13 ++ (wsL_law0_r14 ++ (wsL_law0_r15 ++ (wsL_law0_r16 ++ (wsL_law0_r17 ++ (wsL_law0_r18 ++ (wsL_law0_r19 ++ (wsL_law0_r20 ++ (wsL_law0_r21 ++ (wsL_law0_r22 ++ (wsL_law0_r23 ++ (wsL_law0_r24 ++ (wsL_law0_r25 ++ (wsL_law0_r26 ++ (wsL_law0_r27 ++ (wsL_law0_r28 ++ (wsL_law0_r29 ++ (wsL_law0_r30 ++ wsL_law0_r31)))))))))))))))))))))))))))))) ++ wsX50 ++ wsX60 ++ wsX40 ++ wsX20 ++ wsX10 ++ wsX30 ++ wsX00 ++ ([] : List Cond)
def wsL_law : List Cond := wsL_law0 ++ (vx_atS RX5 56 "java/lang/IllegalArgumentException" ["java/lang/RuntimeException", "java/lang/Exception"]).filter goodWord ++ (vx_atS RX5 67 "java/lang/IllegalStateException" ["java/lang/RuntimeException", "java/lang/Exception"]).filter goodWord ++ (vx_atS RX5 163 "java/lang/IndexOutOfBoundsException" ["java/lang/RuntimeException", "java/lang/Exception"]).filter goodWord
abbrev vwCl : List vw_C := [(RX0, TX0, 2), (RX1, TX1, 11), (RX2, TX2, 5), (RX3, TX3, 5), (RX4, TX4, 3), (RX5, TX5, 6), (RX6, TX6, 24)]
end
section
set_option maxRecDepth 20000 in
theorem gq_wsL_law0_r1 : GoodIn lw_tbl wsL_law0_r1 := goodIn_r _ [53, 54, 39, 714, 715, 45, 204, 992, 991, 55, 56, 57, 58, 59, 60, 61, 62, 40, 205, 82, 83, 41, 206, 110] (by decide +kernel) (by decide +kernel)
set_option maxRecDepth 20000 in
theorem gq_wsL_law0_r2 : GoodIn lw_tbl wsL_law0_r2 := goodIn_r _ [111, 42, 207, 162, 163, 43, 208, 191, 192, 44, 209, 210, 63, 64, 65, 66, 81, 67, 69, 72, 84, 85, 86, 87] (by decide +kernel) (by decide +kernel)
set_option maxRecDepth 20000 in
theorem gq_wsL_law0_r3 : GoodIn lw_tbl wsL_law0_r3 := goodIn_r _ [88, 90, 92, 94, 97, 112, 113, 114, 115, 116, 118, 120, 122, 124, 126, 128, 129, 132, 134, 137, 164, 165, 166, 167] (by decide +kernel) (by decide +kernel)
set_option maxRecDepth 20000 in
theorem gq_wsL_law0_r4 : GoodIn lw_tbl wsL_law0_r4 := goodIn_r _ [168, 171, 173, 175, 177, 193, 194, 195, 196, 197, 198, 716, 717, 718, 719, 722, 723, 724, 725, 726, 793, 727, 728, 729] (by decide +kernel) (by decide +kernel)
set_option maxRecDepth 20000 in
theorem gq_wsL_law0_r5 : GoodIn lw_tbl wsL_law0_r5 := goodIn_r _ [733, 734, 735, 736, 737, 739, 741, 742, 743, 418, 419, 38, 420, 421, 422, 423, 424, 425, 426, 430, 49, 498, 50, 71] (by decide +kernel) (by decide +kernel)
set_option maxRecDepth 20000 in
theorem gq_wsL_law0_r6 : GoodIn lw_tbl wsL_law0_r6 := goodIn_r _ [427, 428, 429, 514, 515, 516, 517, 232, 233, 234, 235, 798, 799, 800, 801, 720, 802, 721, 730, 803, 804, 805, 806, 807] (by decide +kernel) (by decide +kernel)
set_option maxRecDepth 20000 in
theorem gq_wsL_law0_r7 : GoodIn lw_tbl wsL_law0_r7 := goodIn_r _ [808, 809, 811, 21, 812, 794, 795, 796, 797, 518, 519, 520, 521, 522, 523, 524, 813, 814, 815, 816, 526, 527, 528, 529] (by decide +kernel) (by decide +kernel)
set_option maxRecDepth 20000 in
theorem gq_wsL_law0_r8 : GoodIn lw_tbl wsL_law0_r8 := goodIn_r _ [530, 531, 532, 533, 68, 534, 536, 17, 537, 539, 51, 538, 249, 250, 251, 817, 818, 819, 820, 224, 225, 226, 227, 821] (by decide +kernel) (by decide +kernel)
set_option maxRecDepth 20000 in
theorem gq_wsL_law0_r9 : GoodIn lw_tbl wsL_law0_r9 := goodIn_r _ [822, 823, 824, 556, 557, 558, 559, 560, 561, 562, 825, 826, 827, 828, 563, 564, 565, 566, 567, 568, 569, 73, 829, 830] (by decide +kernel) (by decide +kernel)
set_option maxRecDepth 20000 in
theorem gq_wsL_law0_r10 : GoodIn lw_tbl wsL_law0_r10 := goodIn_r _ [831, 832, 571, 572, 573, 574, 575, 576, 577, 91, 89, 578, 580, 18, 581, 413, 282, 283, 284, 833, 834, 835, 836, 837] (by decide +kernel) (by decide +kernel)
set_option maxRecDepth 20000 in
theorem gq_wsL_law0_r11 : GoodIn lw_tbl wsL_law0_r11 := goodIn_r _ [839, 22, 840, 585, 586, 587, 588, 589, 590, 591, 93, 96, 98, 593, 594, 595, 841, 842, 843, 844, 228, 229, 230, 231] (by decide +kernel) (by decide +kernel)
set_option maxRecDepth 20000 in
theorem gq_wsL_law0_r12 : GoodIn lw_tbl wsL_law0_r12 := goodIn_r _ [845, 846, 847, 848, 236, 237, 238, 239, 133, 131, 240, 241, 242, 243, 244, 245, 246, 247, 248, 252, 254, 0, 255, 256] (by decide +kernel) (by decide +kernel)
set_option maxRecDepth 20000 in
theorem gq_wsL_law0_r13 : GoodIn lw_tbl wsL_law0_r13 := goodIn_r _ [257, 258, 259, 260, 261, 263, 1, 264, 265, 266, 267, 268, 269, 270, 271, 272, 273, 274, 275, 276, 277, 278, 279, 280] (by decide +kernel) (by decide +kernel)
set_option maxRecDepth 20000 in
theorem gq_wsL_law0_r14 : GoodIn lw_tbl wsL_law0_r14 := goodIn_r _ [281, 285, 286, 287, 288, 289, 290, 291, 292, 293, 295, 2, 296, 297, 298, 299, 300, 302, 303, 304, 305, 306, 307, 308] (by decide +kernel) (by decide +kernel)
set_option maxRecDepth 20000 in
theorem gq_wsL_law0_r15 : GoodIn lw_tbl wsL_law0_r15 := goodIn_r _ [309, 310, 311, 312, 314, 3, 315, 136, 316, 318, 4, 319, 320, 321, 323, 5, 324, 849, 850, 851, 852, 732, 738, 731] (by decide +kernel) (by decide +kernel)
set_option maxRecDepth 20000 in
theorem gq_wsL_law0_r16 : GoodIn lw_tbl wsL_law0_r16 := goodIn_r _ [853, 855, 23, 856, 857, 859, 24, 860, 861, 863, 25, 864, 865, 867, 26, 868, 869, 871, 27, 872, 325, 326, 327, 328] (by decide +kernel) (by decide +kernel)
set_option maxRecDepth 20000 in
theorem gq_wsL_law0_r17 : GoodIn lw_tbl wsL_law0_r17 := goodIn_r _ [329, 330, 331, 332, 70, 333, 334, 336, 6, 337, 338, 339, 340, 341, 342, 343, 344, 345, 346, 347, 178, 176, 95, 349] (by decide +kernel) (by decide +kernel)
set_option maxRecDepth 20000 in
theorem gq_wsL_law0_r18 : GoodIn lw_tbl wsL_law0_r18 := goodIn_r _ [351, 7, 352, 174, 376, 377, 52, 378, 353, 354, 356, 8, 357, 358, 359, 360, 362, 9, 363, 364, 366, 10, 367, 368] (by decide +kernel) (by decide +kernel)
set_option maxRecDepth 20000 in
theorem gq_wsL_law0_r19 : GoodIn lw_tbl wsL_law0_r19 := goodIn_r _ [370, 11, 371, 372, 374, 12, 375, 379, 380, 381, 382, 172, 135, 383, 384, 385, 386, 388, 13, 389, 130, 169, 390, 391] (by decide +kernel) (by decide +kernel)
set_option maxRecDepth 20000 in
theorem gq_wsL_law0_r20 : GoodIn lw_tbl wsL_law0_r20 := goodIn_r _ [393, 14, 394, 395, 873, 874, 875, 876, 740, 877, 879, 28, 880, 881, 882, 883, 884, 886, 29, 887, 904, 888, 890, 30] (by decide +kernel) (by decide +kernel)
set_option maxRecDepth 20000 in
theorem gq_wsL_law0_r21 : GoodIn lw_tbl wsL_law0_r21 := goodIn_r _ [891, 892, 894, 31, 895, 896, 898, 32, 899, 900, 902, 33, 903, 905, 907, 34, 908, 396, 397, 398, 399, 138, 909, 910] (by decide +kernel) (by decide +kernel)
set_option maxRecDepth 20000 in
theorem gq_wsL_law0_r22 : GoodIn lw_tbl wsL_law0_r22 := goodIn_r _ [911, 912, 400, 401, 402, 403, 179, 913, 914, 915, 916, 596, 597, 598, 599, 600, 601, 602, 170, 917, 918, 919, 920, 604] (by decide +kernel) (by decide +kernel)
set_option maxRecDepth 20000 in
theorem gq_wsL_law0_r23 : GoodIn lw_tbl wsL_law0_r23 := goodIn_r _ [605, 606, 607, 608, 609, 610, 611, 613, 19, 614, 921, 922, 923, 924, 925, 927, 35, 928, 616, 617, 618, 619, 620, 621] (by decide +kernel) (by decide +kernel)
set_option maxRecDepth 20000 in
theorem gq_wsL_law0_r24 : GoodIn lw_tbl wsL_law0_r24 := goodIn_r _ [622, 117, 623, 625, 20, 626, 929, 930, 931, 932, 628, 629, 630, 631, 632, 633, 634, 119, 933, 934, 935, 936, 635, 636] (by decide +kernel) (by decide +kernel)
set_option maxRecDepth 20000 in
theorem gq_wsL_law0_r25 : GoodIn lw_tbl wsL_law0_r25 := goodIn_r _ [637, 638, 639, 640, 641, 121, 937, 938, 939, 940, 642, 643, 644, 645, 646, 647, 648, 123, 941, 942, 943, 944, 649, 650] (by decide +kernel) (by decide +kernel)
set_option maxRecDepth 20000 in
theorem gq_wsL_law0_r26 : GoodIn lw_tbl wsL_law0_r26 := goodIn_r _ [651, 652, 653, 654, 655, 125, 945, 946, 947, 948, 656, 657, 658, 659, 660, 661, 662, 127, 949, 950, 951, 952, 663, 664] (by decide +kernel) (by decide +kernel)
set_option maxRecDepth 20000 in
theorem gq_wsL_law0_r27 : GoodIn lw_tbl wsL_law0_r27 := goodIn_r _ [665, 666, 667, 668, 669, 670, 671, 672, 673, 953, 954, 955, 956, 674, 675, 676, 677, 678, 679, 680, 681, 682, 683, 684] (by decide +kernel) (by decide +kernel)
set_option maxRecDepth 20000 in
theorem gq_wsL_law0_r28 : GoodIn lw_tbl wsL_law0_r28 := goodIn_r _ [957, 958, 959, 960, 961, 963, 36, 964, 685, 686, 687, 688, 689, 690, 691, 965, 966, 967, 968, 693, 694, 695, 696, 697] (by decide +kernel) (by decide +kernel)
set_option maxRecDepth 20000 in
theorem gq_wsL_law0_r29 : GoodIn lw_tbl wsL_law0_r29 := goodIn_r _ [698, 699, 969, 970, 971, 972, 973, 975, 37, 976, 700, 701, 702, 703, 704, 705, 706, 977, 978, 979, 980, 707, 708, 709] (by decide +kernel) (by decide +kernel)
set_option maxRecDepth 20000 in
theorem gq_wsL_law0_r30 : GoodIn lw_tbl wsL_law0_r30 := goodIn_r _ [710, 711, 712, 713, 981, 982, 983, 984, 404, 405, 406, 407, 408, 409, 410, 411, 412, 414, 416, 15, 417, 985, 986, 987] (by decide +kernel) (by decide +kernel)
set_option maxRecDepth 20000 in
theorem gq_wsL_law0_r31 : GoodIn lw_tbl wsL_law0_r31 := goodIn_r _ [988, 989, 990] (by decide +kernel) (by decide +kernel)
set_option maxRecDepth 20000 in
theorem gq_wsX50 : GoodIn lw_tbl wsX50 := goodIn_r _ [211, 213, 215, 217, 219, 221] (by decide +kernel) (by decide +kernel)
set_option maxRecDepth 20000 in
theorem gq_wsX60 : GoodIn lw_tbl wsX60 := goodIn_r _ [744, 746, 748, 750, 752, 754, 756, 758, 760, 762, 764, 766, 768, 770, 772, 774, 776, 778, 780, 782, 784, 786, 788, 790] (by decide +kernel) (by decide +kernel)
set_option maxRecDepth 20000 in
theorem gq_wsX40 : GoodIn lw_tbl wsX40 := goodIn_r _ [74, 76, 78] (by decide +kernel) (by decide +kernel)
set_option maxRecDepth 20000 in
theorem gq_wsX20 : GoodIn lw_tbl wsX20 := goodIn_r _ [99, 101, 103, 105, 107] (by decide +kernel) (by decide +kernel)
set_option maxRecDepth 20000 in
theorem gq_wsX10 : GoodIn lw_tbl wsX10 := goodIn_r _ [139, 141, 143, 145, 147, 149, 151, 153, 155, 157, 159] (by decide +kernel) (by decide +kernel)
set_option maxRecDepth 20000 in
theorem gq_wsX30 : GoodIn lw_tbl wsX30 := goodIn_r _ [180, 182, 184, 186, 188] (by decide +kernel) (by decide +kernel)
set_option maxRecDepth 20000 in
theorem gq_wsX00 : GoodIn lw_tbl wsX00 := goodIn_r _ [199, 201] (by decide +kernel) (by decide +kernel)
theorem gq_nil : GoodIn lw_tbl ([] : List Cond) := fun _ h => absurd h List.not_mem_nil
theorem gq_law0 : GoodIn lw_tbl wsL_law0 := goodIn_app (goodIn_app (goodIn_app (goodIn_app (goodIn_app (goodIn_app (goodIn_app (goodIn_app (goodIn_app gq_wsL_law0_r1 (goodIn_app gq_wsL_law0_r2 (goodIn_app gq_wsL_law0_r3 (goodIn_app gq_wsL_law0_r4 (goodIn_app gq_wsL_law0_r5 (goodIn_app gq_wsL_law0_r6 (goodIn_app gq_wsL_law0_r7 (goodIn_app gq_wsL_law0_r8 (goodIn_app gq_wsL_law0_r9 (goodIn_app gq_wsL_law0_r10 (goodIn_app gq_wsL_law0_r11 (goodIn_app gq_wsL_law0_r12 (goodIn_app gq_wsL_law0_r13 (goodIn_app gq_wsL_law0_r14 (goodIn_app gq_wsL_law0_r15 (goodIn_app gq_wsL_law0_r16 (goodIn_app gq_wsL_law0_r17 (goodIn_app gq_wsL_law0_r18 (goodIn_app gq_wsL_law0_r19 (goodIn_app gq_wsL_law0_r20 (goodIn_app gq_wsL_law0_r21 (goodIn_app gq_wsL_law0_r22 (goodIn_app gq_wsL_law0_r23 (goodIn_app gq_wsL_law0_r24 (goodIn_app gq_wsL_law0_r25 (goodIn_app gq_wsL_law0_r26 (goodIn_app gq_wsL_law0_r27 (goodIn_app gq_wsL_law0_r28 (goodIn_app gq_wsL_law0_r29 (goodIn_app gq_wsL_law0_r30 gq_wsL_law0_r31)))))))))))))))))))))))))))))) gq_wsX50) gq_wsX60) gq_wsX40) gq_wsX20) gq_wsX10) gq_wsX30) gq_wsX00) gq_nil
theorem wsL_law_x0 : ∀ w ∈ (vx_atS RX5 56 "java/lang/IllegalArgumentException" ["java/lang/RuntimeException", "java/lang/Exception"]).filter goodWord, w ∈ lw_tbl := by decide +kernel
theorem wsL_law_x1 : ∀ w ∈ (vx_atS RX5 67 "java/lang/IllegalStateException" ["java/lang/RuntimeException", "java/lang/Exception"]).filter goodWord, w ∈ lw_tbl := by decide +kernel
theorem wsL_law_x2 : ∀ w ∈ (vx_atS RX5 163 "java/lang/IndexOutOfBoundsException" ["java/lang/RuntimeException", "java/lang/Exception"]).filter goodWord, w ∈ lw_tbl := by decide +kernel
theorem gq_x0 : GoodIn lw_tbl ((vx_atS RX5 56 "java/lang/IllegalArgumentException" ["java/lang/RuntimeException", "java/lang/Exception"]).filter goodWord) := goodIn_sub wsL_law_x0 (by decide +kernel)
theorem gq_x1 : GoodIn lw_tbl ((vx_atS RX5 67 "java/lang/IllegalStateException" ["java/lang/RuntimeException", "java/lang/Exception"]).filter goodWord) := goodIn_sub wsL_law_x1 (by decide +kernel)
theorem gq_x2 : GoodIn lw_tbl ((vx_atS RX5 163 "java/lang/IndexOutOfBoundsException" ["java/lang/RuntimeException", "java/lang/Exception"]).filter goodWord) := goodIn_sub wsL_law_x2 (by decide +kernel)
theorem gq_law : GoodIn lw_tbl wsL_law := goodIn_app (goodIn_app (goodIn_app gq_law0 gq_x0) gq_x1) gq_x2
theorem wsL_law_in : ∀ w ∈ wsL_law, w ∈ lw_tbl := fun w h => (gq_law w h).1
theorem wsL_good : GoodIn wsL_law wsL_law := fun w h => ⟨h, (gq_law w h).2⟩
theorem inlX0 : ∀ w ∈ wsX00, w ∈ wsL_law := fun _ h => List.mem_append_left _ (List.mem_append_left _ (List.mem_append_left _ (List.mem_append_left _ (List.mem_append_right _ h))))
theorem inX0 : ∀ w ∈ wsX00, w ∈ lw_tbl := fun w h => wsL_law_in w (inlX0 w h)
theorem inlX1 : ∀ w ∈ wsX10, w ∈ wsL_law := fun _ h => List.mem_append_left _ (List.mem_append_left _ (List.mem_append_left _ (List.mem_append_left _ (List.mem_append_left _ (List.mem_append_left _ (List.mem_append_right _ h))))))
theorem inX1 : ∀ w ∈ wsX10, w ∈ lw_tbl := fun w h => wsL_law_in w (inlX1 w h)
theorem inlX2 : ∀ w ∈ wsX20, w ∈ wsL_law := fun _ h => List.mem_append_left _ (List.mem_append_left _ (List.mem_append_left _ (List.mem_append_left _ (List.mem_append_left _ (List.mem_append_left _ (List.mem_append_left _ (List.mem_append_right _ h)))))))
theorem inX2 : ∀ w ∈ wsX20, w ∈ lw_tbl := fun w h => wsL_law_in w (inlX2 w h)
theorem inlX3 : ∀ w ∈ wsX30, w ∈ wsL_law := fun _ h => List.mem_append_left _ (List.mem_append_left _ (List.mem_append_left _ (List.mem_append_left _ (List.mem_append_left _ (List.mem_append_right _ h)))))
theorem inX3 : ∀ w ∈ wsX30, w ∈ lw_tbl := fun w h => wsL_law_in w (inlX3 w h)
theorem inlX4 : ∀ w ∈ wsX40, w ∈ wsL_law := fun _ h => List.mem_append_left _ (List.mem_append_left _ (List.mem_append_left _ (List.mem_append_left _ (List.mem_append_left _ (List.mem_append_left _ (List.mem_append_left _ (List.mem_append_left _ (List.mem_append_right _ h))))))))
theorem inX4 : ∀ w ∈ wsX40, w ∈ lw_tbl := fun w h => wsL_law_in w (inlX4 w h)
theorem inlX5 : ∀ w ∈ wsX50, w ∈ wsL_law := fun _ h => List.mem_append_left _ (List.mem_append_left _ (List.mem_append_left _ (List.mem_append_left _ (List.mem_append_left _ (List.mem_append_left _ (List.mem_append_left _ (List.mem_append_left _ (List.mem_append_left _ (List.mem_append_left _ (List.mem_append_right _ h))))))))))
theorem inX5 : ∀ w ∈ wsX50, w ∈ lw_tbl := fun w h => wsL_law_in w (inlX5 w h)
theorem inlX6 : ∀ w ∈ wsX60, w ∈ wsL_law := fun _ h => List.mem_append_left _ (List.mem_append_left _ (List.mem_append_left _ (List.mem_append_left _ (List.mem_append_left _ (List.mem_append_left _ (List.mem_append_left _ (List.mem_append_left _ (List.mem_append_left _ (List.mem_append_right _ h)))))))))
theorem inX6 : ∀ w ∈ wsX60, w ∈ lw_tbl := fun w h => wsL_law_in w (inlX6 w h)
theorem in_wsL_law0_r1 : ∀ w ∈ wsL_law0_r1, w ∈ wsL_law := fun _ h => List.mem_append_left _ (List.mem_append_left _ (List.mem_append_left _ (List.mem_append_left _ (List.mem_append_left _ (List.mem_append_left _ (List.mem_append_left _ (List.mem_append_left _ (List.mem_append_left _ (List.mem_append_left _ (List.mem_append_left _ (List.mem_append_left _ h)))))))))))
theorem in_wsL_law0_r2 : ∀ w ∈ wsL_law0_r2, w ∈ wsL_law := fun _ h => List.mem_append_left _ (List.mem_append_left _ (List.mem_append_left _ (List.mem_append_left _ (List.mem_append_left _ (List.mem_append_left _ (List.mem_append_left _ (List.mem_append_left _ (List.mem_append_left _ (List.mem_append_left _ (List.mem_append_left _ (List.mem_append_right _ (List.mem_append_left _ h))))))))))))
theorem in_wsL_law0_r3 : ∀ w ∈ wsL_law0_r3, w ∈ wsL_law := fun _ h => List.mem_append_left _ (List.mem_append_left _ (List.mem_append_left _ (List.mem_append_left _ (List.mem_append_left _ (List.mem_append_left _ (List.mem_append_left _ (List.mem_append_left _ (List.mem_append_left _ (List.mem_append_left _ (List.mem_append_left _ (List.mem_append_right _ (List.mem_append_right _ (List.mem_append_left _ h)))))))))))))
theorem in_wsL_law0_r4 : ∀ w ∈ wsL_law0_r4, w ∈ wsL_law := fun _ h => List.mem_append_left _ (List.mem_append_left _ (List.mem_append_left _ (List.mem_append_left _ (List.mem_append_left _ (List.mem_append_left _ (List.mem_append_left _ (List.mem_append_left _ (List.mem_append_left _ (List.mem_append_left _ (List.mem_append_left _ (List.mem_append_right _ (List.mem_append_right _ (List.mem_append_right _ (List.mem_append_left _ h))))))))))))))
theorem in_wsL_law0_r5 : ∀ w ∈ wsL_law0_r5, w ∈ wsL_law := fun _ h => List.mem_append_left _ (List.mem_append_left _ (List.mem_append_left _ (List.mem_append_left _ (List.mem_append_left _ (List.mem_append_left _ (List.mem_append_left _ (List.mem_append_left _ (List.mem_append_left _ (List.mem_append_left _ (List.mem_append_left _ (List.mem_append_right _ (List.mem_append_right _ (List.mem_append_right _ (List.mem_append_right _ (List.mem_append_left _ h)))))))))))))))
theorem in_wsL_law0_r6 : ∀ w ∈ wsL_law0_r6, w ∈ wsL_law := fun _ h => List.mem_append_left _ (List.mem_append_left _ (List.mem_append_left _ (List.mem_append_left _ (List.mem_append_left _ (List.mem_append_left _ (List.mem_append_left _ (List.mem_append_left _ (List.mem_append_left _ (List.mem_append_left _ (List.mem_append_left _ (List.mem_append_right _ (List.mem_append_right _ (List.mem_append_right _ (List.mem_append_right _ (List.mem_append_right _ (List.mem_append_left _ h))))))))))))))))
theorem in_wsL_law0_r7 : ∀ w ∈ wsL_law0_r7, w ∈ wsL_law := fun _ h => List.mem_append_left _ (List.mem_append_left _ (List.mem_append_left _ (List.mem_append_left _ (List.mem_append_left _ (List.mem_append_left _ (List.mem_append_left _ (List.mem_append_left _ (List.mem_append_left _ (List.mem_append_left _ (List.mem_append_left _ (List.mem_append_right _ (List.mem_append_right _ (List.mem_append_right _ (List.mem_append_right _ (List.mem_append_right _ (List.mem_append_right _ (List.mem_append_left _ h)))))))))))))))))
theorem in_wsL_law0_r8 : ∀ w ∈ wsL_law0_r8, w ∈ wsL_law := fun _ h => List.mem_append_left _ (List.mem_append_left _ (List.mem_append_left _ (List.mem_append_left _ (List.mem_append_left _ (List.mem_append_left _ (List.mem_append_left _ (List.mem_append_left _ (List.mem_append_left _ (List.mem_append_left _ (List.mem_append_left _ (List.mem_append_right _ (List.mem_append_right _ (List.mem_append_right _ (List.mem_append_right _ (List.mem_append_right _ (List.mem_append_right _ (List.mem_append_right _ (List.mem_append_left _ h))))))))))))))))))
theorem in_wsL_law0_r9 : ∀ w ∈ wsL_law0_r9, w ∈ wsL_law := fun _ h => List.mem_append_left _ (List.mem_append_left _ (List.mem_append_left _ (List.mem_append_left _ (List.mem_append_left _ (List.mem_append_left _ (List.mem_append_left _ (List.mem_append_left _ (List.mem_append_left _ (List.mem_append_left _ (List.mem_append_left _ (List.mem_append_right _ (List.mem_append_right _ (List.mem_append_right _ (List.mem_append_right _ (List.mem_append_right _ (List.mem_append_right _ (List.mem_append_right _ (List.mem_append_right _ (List.mem_append_left _ h)))))))))))))))))))
theorem in_wsL_law0_r10 : ∀ w ∈ wsL_law0_r10, w ∈ wsL_law := fun _ h => List.mem_append_left _ (List.mem_append_left _ (List.mem_append_left _ (List.mem_append_left _ (List.mem_append_left _ (List.mem_append_left _ (List.mem_append_left _ (List.mem_append_left _ (List.mem_append_left _ (List.mem_append_left _ (List.mem_append_left _ (List.mem_append_right _ (List.mem_append_right _ (List.mem_append_right _ (List.mem_append_right _ (List.mem_append_right _ (List.mem_append_right _ (List.mem_append_right _ (List.mem_append_right _ (List.mem_append_right _ (List.mem_append_left _ h))))))))))))))))))))
theorem in_wsL_law0_r11 : ∀ w ∈ wsL_law0_r11, w ∈ wsL_law := fun _ h => List.mem_append_left _ (List.mem_append_left _ (List.mem_append_left _ (List.mem_append_left _ (List.mem_append_left _ (List.mem_append_left _ (List.mem_append_left _ (List.mem_append_left _ (List.mem_append_left _ (List.mem_append_left _ (List.mem_append_left _ (List.mem_append_right _ (List.mem_append_right _ (List.mem_append_right _ (List.mem_append_right _ (List.mem_append_right _ (List.mem_append_right _ (List.mem_append_right _ (List.mem_append_right _ (List.mem_append_right _ (List.mem_append_right _ (List.mem_append_left _ h)))))))))))))))))))))
theorem in_wsL_law0_r12 : ∀ w ∈ wsL_law0_r12, w ∈ wsL_law := fun _ h => List.mem_append_left _ (List.mem_append_left _ (List.mem_append_left _ (List.mem_append_left _ (List.mem_append_left _ (List.mem_append_left _ (List.mem_append_left _ (List.mem_append_left _ (List.mem_append_left _ (List.mem_append_left _ (List.mem_append_left _ (List.mem_append_right _ (List.mem_append_right _ (List.mem_append_right _ (List.mem_append_right _ (List.mem_append_right _ (List.mem_append_right _ (List.mem_append_right _ (List.mem_append_right _ (List.mem_append_right _ (List.mem_append_right _ (List.mem_append_right _ (List.mem_append_left _ h))))))))))))))))))))))
theorem in_wsL_law0_r13 : ∀ w ∈ wsL_law0_r13, w ∈ wsL_law := fun _ h => List.mem_append_left _ (List.mem_append_left _ (List.mem_append_left _ (List.mem_append_left _ (List.mem_append_left _ (List.mem_append_left _ (List.mem_append_left _ (List.mem_append_left _ (List.mem_append_left _ (List.mem_append_left _ (List.mem_append_left _ (List.mem_append_right _ (List.mem_append_right _ (List.mem_append_right _ (List.mem_append_right _ (List.mem_append_right _ (List.mem_append_right _ (List.mem_append_right _ (List.mem_append_right _ (List.mem_append_right _ (List.mem_append_right _ (List.mem_append_right _ (List.mem_append_right _ (List.mem_append_left _ h)))))))))))))))))))))))
theorem in_wsL_law0_r14 : ∀ w ∈ wsL_law0_r14, w ∈ wsL_law := fun _ h => List.mem_append_left _ (List.mem_append_left _ (List.mem_append_left _ (List.mem_append_left _ (List.mem_append_left _ (List.mem_append_left _ (List.mem_append_left _ (List.mem_append_left _ (List.mem_append_left _ (List.mem_append_left _ (List.mem_append_left _ (List.mem_append_right _ (List.mem_append_right _ (List.mem_append_right _ (List.mem_append_right _ (List.mem_append_right _ (List.mem_append_right _ (List.mem_append_right _ (List.mem_append_right _ (List.mem_append_right _ (List.mem_append_right _ (List.mem_append_right _ (List.mem_append_right _ (List.mem_append_right _ (List.mem_append_left _ h))))))))))))))))))))))))
theorem in_wsL_law0_r15 : ∀ w ∈ wsL_law0_r15, w ∈ wsL_law := fun _ h => List.mem_append_left _ (List.mem_append_left _ (List.mem_append_left _ (List.mem_append_left _ (List.mem_append_left _ (List.mem_append_left _ (List.mem_append_left _ (List.mem_append_left _ (List.mem_append_left _ (List.mem_append_left _ (List.mem_append_left _ (List.mem_append_right _ (List.mem_append_right _ (List.mem_append_right _ (List.mem_append_right _ (List.mem_append_right _ (List.mem_append_right _ (List.mem_append_right _ (List.mem_append_right _ (List.mem_append_right _ (List.mem_append_right _ (List.mem_append_right _ (List.mem_append_right _ (List.mem_append_right _ (List.mem_append_right _ (List.mem_append_left _ h)))))))))))))))))))))))))
theorem in_wsL_law0_r16 : ∀ w ∈ wsL_law0_r16, w ∈ wsL_law := fun _ h => List.mem_append_left _ (List.mem_append_left _ (List.mem_append_left _ (List.mem_append_left _ (List.mem_append_left _ (List.mem_append_left _ (List.mem_append_left _ (List.mem_append_left _ (List.mem_append_left _ (List.mem_append_left _ (List.mem_append_left _ (List.mem_append_right _ (List.mem_append_right _ (List.mem_append_right _ (List.mem_append_right _ (List.mem_append_right _ (List.mem_append_right _ (List.mem_append_right _ (List.mem_append_right _ (List.mem_append_right _ (List.mem_append_right _ (List.mem_append_right _ (List.mem_append_right _ (List.mem_append_right _ (List.mem_append_right _ (List.mem_append_right _ (List.mem_append_left _ h))))))))))))))))))))))))))
theorem in_wsL_law0_r17 : ∀ w ∈ wsL_law0_r17, w ∈ wsL_law := fun _ h => List.mem_append_left _ (List.mem_append_left _ (List.mem_append_left _ (List.mem_append_left _ (List.mem_append_left _ (List.mem_append_left _ (List.mem_append_left _ (List.mem_append_left _ (List.mem_append_left _ (List.mem_append_left _ (List.mem_append_left _ (List.mem_append_right _ (List.mem_append_right _ (List.mem_append_right _ (List.mem_append_right _ (List.mem_append_right _ (List.mem_append_right _ (List.mem_append_right _ (List.mem_append_right _ (List.mem_append_right _ (List.mem_append_right _ (List.mem_append_right _ (List.mem_append_right _ (List.mem_append_right _ (List.mem_append_right _ (List.mem_append_right _ (List.mem_append_right _ (List.mem_append_left _ h)))))))))))))))))))))))))))
theorem in_wsL_law0_r18 : ∀ w ∈ wsL_law0_r18, w ∈ wsL_law := fun _ h => List.mem_append_left _ (List.mem_append_left _ (List.mem_append_left _ (List.mem_append_left _ (List.mem_append_left _ (List.mem_append_left _ (List.mem_append_left _ (List.mem_append_left _ (List.mem_append_left _ (List.mem_append_left _ (List.mem_append_left _ (List.mem_append_right _ (List.mem_append_right _ (List.mem_append_right _ (List.mem_append_right _ (List.mem_append_right _ (List.mem_append_right _ (List.mem_append_right _ (List.mem_append_right _ (List.mem_append_right _ (List.mem_append_right _ (List.mem_append_right _ (List.mem_append_right _ (List.mem_append_right _ (List.mem_append_right _ (List.mem_append_right _ (List.mem_append_right _ (List.mem_append_right _ (List.mem_append_left _ h))))))))))))))))))))))))))))
theorem in_wsL_law0_r19 : ∀ w ∈ wsL_law0_r19, w ∈ wsL_law := fun _ h => List.mem_append_left _ (List.mem_append_left _ (List.mem_append_left _ (List.mem_append_left _ (List.mem_append_left _ (List.mem_append_left _ (List.mem_append_left _ (List.mem_append_left _ (List.mem_append_left _ (List.mem_append_left _ (List.mem_append_left _ (List.mem_append_right _ (List.mem_append_right _ (List.mem_append_right _ (List.mem_append_right _ (List.mem_append_right _ (List.mem_append_right _ (List.mem_append_right _ (List.mem_append_right _ (List.mem_append_right _ (List.mem_append_right _ (List.mem_append_right _ (List.mem_append_right _ (List.mem_append_right _ (List.mem_append_right _ (List.mem_append_right _ (List.mem_append_right _ (List.mem_append_right _ (List.mem_append_right _ (List.mem_append_left _ h)))))))))))))))))))))))))))))
theorem in_wsL_law0_r20 : ∀ w ∈ wsL_law0_r20, w ∈ wsL_law := fun _ h => List.mem_append_left _ (List.mem_append_left _ (List.mem_append_left _ (List.mem_append_left _ (List.mem_append_left _ (List.mem_append_left _ (List.mem_append_left _ (List.mem_append_left _ (List.mem_append_left _ (List.mem_append_left _ (List.mem_append_left _ (List.mem_append_right _ (List.mem_append_right _ (List.mem_append_right _ (List.mem_append_right _ (List.mem_append_right _ (List.mem_append_right _ (List.mem_append_right _ (List.mem_append_right _ (List.mem_append_right _ (List.mem_append_right _ (List.mem_append_right _ (List.mem_append_right _ (List.mem_append_right _ (List.mem_append_right _ (List.mem_append_right _ (List.mem_append_right _ (List.mem_append_right _ (List.mem_append_right _ (List.mem_append_right _ (List.mem_append_left _ h))))))))))))))))))))))))))))))
theorem in_wsL_law0_r21 : ∀ w ∈ wsL_law0_r21, w ∈ wsL_law := fun _ h => List.mem_append_left _ (List.mem_append_left _ (List.mem_append_left _ (List.mem_append_left _ (List.mem_append_left _ (List.mem_append_left _ (List.mem_append_left _ (List.mem_append_left _ (List.mem_append_left _ (List.mem_append_left _ (List.mem_append_left _ (List.mem_append_right _ (List.mem_append_right _ (List.mem_append_right _ (List.mem_append_right _ (List.mem_append_right _ (List.mem_append_right _ (List.mem_append_right _ (List.mem_append_right _ (List.mem_append_right _ (List.mem_append_right _ (List.mem_append_right _ (List.mem_append_right _ (List.mem_append_right _ (List.mem_append_right _ (List.mem_append_right _ (List.mem_append_right _ (List.mem_append_right _ (List.mem_append_right _ (List.mem_append_right _ (List.mem_append_right _ (List.mem_append_left _ h)))))))))))))))))))))))))))))))
theorem in_wsL_law0_r22 : ∀ w ∈ wsL_law0_r22, w ∈ wsL_law := fun _ h => List.mem_append_left _ (List.mem_append_left _ (List.mem_append_left _ (List.mem_append_left _ (List.mem_append_left _ (List.mem_append_left _ (List.mem_append_left _ (List.mem_append_left _ (List.mem_append_left _ (List.mem_append_left _ (List.mem_append_left _ (List.mem_append_right _ (List.mem_append_right _ (List.mem_append_right _ (List.mem_append_right _ (List.mem_append_right _ (List.mem_append_right _ (List.mem_append_right _ (List.mem_append_right _ (List.mem_append_right _ (List.mem_append_right _ (List.mem_append_right _ (List.mem_append_right _ (List.mem_append_right _ (List.mem_append_right _ (List.mem_append_right _ (List.mem_append_right _ (List.mem_append_right _ (List.mem_append_right _ (List.mem_append_right _ (List.mem_append_right _ (List.mem_append_right _ (List.mem_append_left _ h))))))))))))))))))))))))))))))))
theorem in_wsL_law0_r23 : ∀ w ∈ wsL_law0_r23, w ∈ wsL_law := fun _ h => List.mem_append_left _ (List.mem_append_left _ (List.mem_append_left _ (List.mem_append_left _ (List.mem_append_left _ (List.mem_append_left _ (List.mem_append_left _ (List.mem_append_left _ (List.mem_append_left _ (List.mem_append_left _ (List.mem_append_left _ (List.mem_append_right _ (List.mem_append_right _ (List.mem_append_right _ (List.mem_append_right _ (List.mem_append_right _ (List.mem_append_right _ (List.mem_append_right _ (List.mem_append_right _ (List.mem_append_right _ (List.mem_append_right _ (List.mem_append_right _ (List.mem_append_right _ (List.mem_append_right _ (List.mem_append_right _ (List.mem_append_right _ (List.mem_append_right _ (List.mem_append_right _ (List.mem_append_right _ (List.mem_append_right _ (List.mem_append_right _ (List.mem_append_right _ (List.mem_append_right _ (List.mem_append_left _ h)))))))))))))))))))))))))))))))))
theorem in_wsL_law0_r24 : ∀ w ∈ wsL_law0_r24, w ∈ wsL_law := fun _ h => List.mem_append_left _ (List.mem_append_left _ (List.mem_append_left _ (List.mem_append_left _ (List.mem_append_left _ (List.mem_append_left _ (List.mem_append_left _ (List.mem_append_left _ (List.mem_append_left _ (List.mem_append_left _ (List.mem_append_left _ (List.mem_append_right _ (List.mem_append_right _ (List.mem_append_right _ (List.mem_append_right _ (List.mem_append_right _ (List.mem_append_right _ (List.mem_append_right _ (List.mem_append_right _ (List.mem_append_right _ (List.mem_append_right _ (List.mem_append_right _ (List.mem_append_right _ (List.mem_append_right _ (List.mem_append_right _ (List.mem_append_right _ (List.mem_append_right _ (List.mem_append_right _ (List.mem_append_right _ (List.mem_append_right _ (List.mem_append_right _ (List.mem_append_right _ (List.mem_append_right _ (List.mem_append_right _ (List.mem_append_left _ h))))))))))))))))))))))))))))))))))
theorem in_wsL_law0_r25 : ∀ w ∈ wsL_law0_r25, w ∈ wsL_law := fun _ h => List.mem_append_left _ (List.mem_append_left _ (List.mem_append_left _ (List.mem_append_left _ (List.mem_append_left _ (List.mem_append_left _ (List.mem_append_left _ (List.mem_append_left _ (List.mem_append_left _ (List.mem_append_left _ (List.mem_append_left _ (List.mem_append_right _ (List.mem_append_right _ (List.mem_append_right _ (List.mem_append_right _ (List.mem_append_right _ (List.mem_append_right _ (List.mem_append_right _ (List.mem_append_right _ (List.mem_append_right _ (List.mem_append_right _ (List.mem_append_right _ (List.mem_append_right _ (List.mem_append_right _ (List.mem_append_right _ (List.mem_append_right _ (List.mem_append_right _ (List.mem_append_right _ (List.mem_append_right _ (List.mem_append_right _ (List.mem_append_right _ (List.mem_append_right _ (List.mem_append_right _ (List.mem_append_right _ (List.mem_append_right _ (List.mem_append_left _ h)))))))))))))))))))))))))))))))))))
theorem in_wsL_law0_r26 : ∀ w ∈ wsL_law0_r26, w ∈ wsL_law := fun _ h => List.mem_append_left _ (List.mem_append_left _ (List.mem_append_left _ (List.mem_append_left _ (List.mem_append_left _ (List.mem_append_left _ (List.mem_append_left _ (List.mem_append_left _ (List.mem_append_left _ (List.mem_append_left _ (List.mem_append_left _ (List.mem_append_right _ (List.mem_append_right _ (List.mem_append_right _ (List.mem_append_right _ (List.mem_append_right _ (List.mem_append_right _ (List.mem_append_right _ (List.mem_append_right _ (List.mem_append_right _ (List.mem_append_right _ (List.mem_append_right _ (List.mem_append_right _ (List.mem_append_right _ (List.mem_append_right _ (List.mem_append_right _ (List.mem_append_right _ (List.mem_append_right _ (List.mem_append_right _ (List.mem_append_right _ (List.mem_append_right _ (List.mem_append_right _ (List.mem_append_right _ (List.mem_append_right _ (List.mem_append_right _ (List.mem_append_right _ (List.mem_append_left _ h))))))))))))))))))))))))))))))))))))
theorem in_wsL_law0_r27 : ∀ w ∈ wsL_law0_r27, w ∈ wsL_law := fun _ h => List.mem_append_left _ (List.mem_append_left _ (List.mem_append_left _ (List.mem_append_left _ (List.mem_append_left _ (List.mem_append_left _ (List.mem_append_left _ (List.mem_append_left _ (List.mem_append_left _ (List.mem_append_left _ (List.mem_append_left _ (List.mem_append_right _ (List.mem_append_right _ (List.mem_append_right _ (List.mem_append_right _ (List.mem_append_right _ (List.mem_append_right _ (List.mem_append_right _ (List.mem_append_right _ (List.mem_append_right _ (List.mem_append_right _ (List.mem_append_right _ (List.mem_append_right _ (List.mem_append_right _ (List.mem_append_right _ (List.mem_append_right _ (List.mem_append_right _ (List.mem_append_right _ (List.mem_append_right _ (List.mem_append_right _ (List.mem_append_right _ (List.mem_append_right _ (List.mem_append_right _ (List.mem_append_right _ (List.mem_append_right _ (List.mem_append_right _ (List.mem_append_right _ (List.mem_append_left _ h)))))))))))))))))))))))))))))))))))))
theorem in_wsL_law0_r28 : ∀ w ∈ wsL_law0_r28, w ∈ wsL_law := fun _ h => List.mem_append_left _ (List.mem_append_left _ (List.mem_append_left _ (List.mem_append_left _ (List.mem_append_left _ (List.mem_append_left _ (List.mem_append_left _ (List.mem_append_left _ (List.mem_append_left _ (List.mem_append_left _ (List.mem_append_left _ (List.mem_append_right _ (List.mem_append_right _ (List.mem_append_right _ (List.mem_append_right _ (List.mem_append_right _ (List.mem_append_right _ (List.mem_append_right _ (List.mem_append_right _ (List.mem_append_right _ (List.mem_append_right _ (List.mem_append_right _ (List.mem_append_right _ (List.mem_append_right _ (List.mem_append_right _ (List.mem_append_right _ (List.mem_append_right _ (List.mem_append_right _ (List.mem_append_right _ (List.mem_append_right _ (List.mem_append_right _ (List.mem_append_right _ (List.mem_append_right _ (List.mem_append_right _ (List.mem_append_right _ (List.mem_append_right _ (List.mem_append_right _ (List.mem_append_right _ (List.mem_append_left _ h))))))))))))))))))))))))))))))))))))))
theorem in_wsL_law0_r29 : ∀ w ∈ wsL_law0_r29, w ∈ wsL_law := fun _ h => List.mem_append_left _ (List.mem_append_left _ (List.mem_append_left _ (List.mem_append_left _ (List.mem_append_left _ (List.mem_append_left _ (List.mem_append_left _ (List.mem_append_left _ (List.mem_append_left _ (List.mem_append_left _ (List.mem_append_left _ (List.mem_append_right _ (List.mem_append_right _ (List.mem_append_right _ (List.mem_append_right _ (List.mem_append_right _ (List.mem_append_right _ (List.mem_append_right _ (List.mem_append_right _ (List.mem_append_right _ (List.mem_append_right _ (List.mem_append_right _ (List.mem_append_right _ (List.mem_append_right _ (List.mem_append_right _ (List.mem_append_right _ (List.mem_append_right _ (List.mem_append_right _ (List.mem_append_right _ (List.mem_append_right _ (List.mem_append_right _ (List.mem_append_right _ (List.mem_append_right _ (List.mem_append_right _ (List.mem_append_right _ (List.mem_append_right _ (List.mem_append_right _ (List.mem_append_right _ (List.mem_append_right _ (List.mem_append_left _ h)))))))))))))))))))))))))))))))))))))))
theorem in_wsL_law0_r30 : ∀ w ∈ wsL_law0_r30, w ∈ wsL_law := fun _ h => List.mem_append_left _ (List.mem_append_left _ (List.mem_append_left _ (List.mem_append_left _ (List.mem_append_left _ (List.mem_append_left _ (List.mem_append_left _ (List.mem_append_left _ (List.mem_append_left _ (List.mem_append_left _ (List.mem_append_left _ (List.mem_append_right _ (List.mem_append_right _ (List.mem_append_right _ (List.mem_append_right _ (List.mem_append_right _ (List.mem_append_right _ (List.mem_append_right _ (List.mem_append_right _ (List.mem_append_right _ (List.mem_append_right _ (List.mem_append_right _ (List.mem_append_right _ (List.mem_append_right _ (List.mem_append_right _ (List.mem_append_right _ (List.mem_append_right _ (List.mem_append_right _ (List.mem_append_right _ (List.mem_append_right _ (List.mem_append_right _ (List.mem_append_right _ (List.mem_append_right _ (List.mem_append_right _ (List.mem_append_right _ (List.mem_append_right _ (List.mem_append_right _ (List.mem_append_right _ (List.mem_append_right _ (List.mem_append_right _ (List.mem_append_left _ h))))))))))))))))))))))))))))))))))))))))
theorem in_wsL_law0_r31 : ∀ w ∈ wsL_law0_r31, w ∈ wsL_law := fun _ h => List.mem_append_left _ (List.mem_append_left _ (List.mem_append_left _ (List.mem_append_left _ (List.mem_append_left _ (List.mem_append_left _ (List.mem_append_left _ (List.mem_append_left _ (List.mem_append_left _ (List.mem_append_left _ (List.mem_append_left _ (List.mem_append_right _ (List.mem_append_right _ (List.mem_append_right _ (List.mem_append_right _ (List.mem_append_right _ (List.mem_append_right _ (List.mem_append_right _ (List.mem_append_right _ (List.mem_append_right _ (List.mem_append_right _ (List.mem_append_right _ (List.mem_append_right _ (List.mem_append_right _ (List.mem_append_right _ (List.mem_append_right _ (List.mem_append_right _ (List.mem_append_right _ (List.mem_append_right _ (List.mem_append_right _ (List.mem_append_right _ (List.mem_append_right _ (List.mem_append_right _ (List.mem_append_right _ (List.mem_append_right _ (List.mem_append_right _ (List.mem_append_right _ (List.mem_append_right _ (List.mem_append_right _ (List.mem_append_right _ (List.mem_append_right _ (h)))))))))))))))))))))))))))))))))))))))))
end
section
theorem dX0_init_0 : decode cX0_init 0 = .ok (.aload_n 0, 1) := by decide +kernel
theorem dX0_init_1 : decode cX0_init 1 = .ok (.invokespecial 3, 3) := by decide +kernel
theorem dX0_init_4 : decode cX0_init 4 = .ok (.aload_n 0, 1) := by decide +kernel
theorem dX0_init_5 : decode cX0_init 5 = .ok (.sipush 2401, 3) := by decide +kernel
theorem dX0_init_8 : decode cX0_init 8 = .ok (.newarray .long, 2) := by decide +kernel
theorem dX0_init_10 : decode cX0_init 10 = .ok (.putfield 11, 3) := by decide +kernel
theorem dX0_init_13 : decode cX0_init 13 = .ok (.aload_n 0, 1) := by decide +kernel
theorem dX0_init_14 : decode cX0_init 14 = .ok (.bipush 48, 2) := by decide +kernel
theorem dX0_init_16 : decode cX0_init 16 = .ok (.newarray .int, 2) := by decide +kernel
theorem dX0_init_18 : decode cX0_init 18 = .ok (.putfield 15, 3) := by decide +kernel
theorem dX0_init_21 : decode cX0_init 21 = .ok (.return_, 1) := by decide +kernel
theorem dX0_fillStretches_0 : decode cX0_fillStretches 0 = .ok (.iconst 0, 1) := by decide +kernel
theorem dX0_fillStretches_1 : decode cX0_fillStretches 1 = .ok (.istore_n 3, 1) := by decide +kernel
theorem dX0_fillStretches_2 : decode cX0_fillStretches 2 = .ok (.iload_n 3, 1) := by decide +kernel
theorem dX0_fillStretches_3 : decode cX0_fillStretches 3 = .ok (.aload_n 1, 1) := by decide +kernel
theorem dX0_fillStretches_4 : decode cX0_fillStretches 4 = .ok (.getfield 19, 3) := by decide +kernel
theorem dX0_fillStretches_7 : decode cX0_fillStretches 7 = .ok (.if_icmp .ge 59, 3) := by decide +kernel
theorem dX0_fillStretches_10 : decode cX0_fillStretches 10 = .ok (.aload_n 1, 1) := by decide +kernel
theorem dX0_fillStretches_11 : decode cX0_fillStretches 11 = .ok (.getfield 25, 3) := by decide +kernel
theorem dX0_fillStretches_14 : decode cX0_fillStretches 14 = .ok (.iload_n 3, 1) := by decide +kernel
theorem dX0_fillStretches_15 : decode cX0_fillStretches 15 = .ok (.iaload, 1) := by decide +kernel
theorem dX0_fillStretches_16 : decode cX0_fillStretches 16 = .ok (.aload_n 2, 1) := by decide +kernel
theorem dX0_fillStretches_17 : decode cX0_fillStretches 17 = .ok (.getfield 28, 3) := by decide +kernel
theorem dX0_fillStretches_20 : decode cX0_fillStretches 20 = .ok (.iconst (-1), 1) := by decide +kernel
theorem dX0_fillStretches_21 : decode cX0_fillStretches 21 = .ok (.ixor, 1) := by decide +kernel
theorem dX0_fillStretches_22 : decode cX0_fillStretches 22 = .ok (.iand, 1) := by decide +kernel
theorem dX0_fillStretches_23 : decode cX0_fillStretches 23 = .ok (.istore 4, 2) := by decide +kernel
theorem dX0_fillStretches_25 : decode cX0_fillStretches 25 = .ok (.iconst 0, 1) := by decide +kernel
theorem dX0_fillStretches_26 : decode cX0_fillStretches 26 = .ok (.istore 5, 2) := by decide +kernel
theorem dX0_fillStretches_28 : decode cX0_fillStretches 28 = .ok (.iload 5, 2) := by decide +kernel
theorem dX0_fillStretches_30 : decode cX0_fillStretches 30 = .ok (.bipush 6, 2) := by decide +kernel
theorem dX0_fillStretches_32 : decode cX0_fillStretches 32 = .ok (.if_icmp .ge 28, 3) := by decide +kernel
theorem dX0_fillStretches_35 : decode cX0_fillStretches 35 = .ok (.iload 4, 2) := by decide +kernel
theorem dX0_fillStretches_37 : decode cX0_fillStretches 37 = .ok (.iload 5, 2) := by decide +kernel
theorem dX0_fillStretches_39 : decode cX0_fillStretches 39 = .ok (.invokestatic 33, 3) := by decide +kernel
theorem dX0_fillStretches_42 : decode cX0_fillStretches 42 = .ok (.ifCond .eq 12, 3) := by decide +kernel
theorem dX0_fillStretches_45 : decode cX0_fillStretches 45 = .ok (.aload_n 0, 1) := by decide +kernel
theorem dX0_fillStretches_46 : decode cX0_fillStretches 46 = .ok (.iload_n 3, 1) := by decide +kernel
theorem dX0_fillStretches_47 : decode cX0_fillStretches 47 = .ok (.iload 5, 2) := by decide +kernel
theorem dX0_fillStretches_49 : decode cX0_fillStretches 49 = .ok (.aload_n 1, 1) := by decide +kernel
theorem dX0_fillStretches_50 : decode cX0_fillStretches 50 = .ok (.aload_n 2, 1) := by decide +kernel
theorem dX0_fillStretches_51 : decode cX0_fillStretches 51 = .ok (.invokevirtual 37, 3) := by decide +kernel
theorem dX0_fillStretches_54 : decode cX0_fillStretches 54 = .ok (.iinc 5 1, 3) := by decide +kernel
theorem dX0_fillStretches_57 : decode cX0_fillStretches 57 = .ok (.goto (-29), 3) := by decide +kernel
theorem dX0_fillStretches_60 : decode cX0_fillStretches 60 = .ok (.iinc 3 1, 3) := by decide +kernel
theorem dX0_fillStretches_63 : decode cX0_fillStretches 63 = .ok (.goto (-61), 3) := by decide +kernel
theorem dX0_fillStretches_66 : decode cX0_fillStretches 66 = .ok (.aload_n 0, 1) := by decide +kernel
theorem dX0_fillStretches_67 : decode cX0_fillStretches 67 = .ok (.aload_n 1, 1) := by decide +kernel
theorem dX0_fillStretches_68 : decode cX0_fillStretches 68 = .ok (.getfield 19, 3) := by decide +kernel
theorem dX0_fillStretches_71 : decode cX0_fillStretches 71 = .ok (.bipush 6, 2) := by decide +kernel
theorem dX0_fillStretches_73 : decode cX0_fillStretches 73 = .ok (.aload_n 1, 1) := by decide +kernel
theorem dX0_fillStretches_74 : decode cX0_fillStretches 74 = .ok (.aload_n 2, 1) := by decide +kernel
theorem dX0_fillStretches_75 : decode cX0_fillStretches 75 = .ok (.invokevirtual 37, 3) := by decide +kernel
theorem dX0_fillStretches_78 : decode cX0_fillStretches 78 = .ok (.return_, 1) := by decide +kernel
theorem dX0_fillStretchesTo_0 : decode cX0_fillStretchesTo 0 = .ok (.aload 4, 2) := by decide +kernel
theorem dX0_fillStretchesTo_2 : decode cX0_fillStretchesTo 2 = .ok (.iload_n 2, 1) := by decide +kernel
theorem dX0_fillStretchesTo_3 : decode cX0_fillStretchesTo 3 = .ok (.invokevirtual 41, 3) := by decide +kernel
theorem dX0_fillStretchesTo_6 : decode cX0_fillStretchesTo 6 = .ok (.istore 5, 2) := by decide +kernel
theorem dX0_fillStretchesTo_8 : decode cX0_fillStretchesTo 8 = .ok (.aload_n 0, 1) := by decide +kernel
theorem dX0_fillStretchesTo_9 : decode cX0_fillStretchesTo 9 = .ok (.iload_n 1, 1) := by decide +kernel
theorem dX0_fillStretchesTo_10 : decode cX0_fillStretchesTo 10 = .ok (.iload_n 1, 1) := by decide +kernel
theorem dX0_fillStretchesTo_11 : decode cX0_fillStretchesTo 11 = .ok (.iload_n 2, 1) := by decide +kernel
theorem dX0_fillStretchesTo_12 : decode cX0_fillStretchesTo 12 = .ok (.iconst 0, 1) := by decide +kernel
theorem dX0_fillStretchesTo_13 : decode cX0_fillStretchesTo 13 = .ok (.invokevirtual 45, 3) := by decide +kernel
theorem dX0_fillStretchesTo_16 : decode cX0_fillStretchesTo 16 = .ok (.iload_n 1, 1) := by decide +kernel
theorem dX0_fillStretchesTo_17 : decode cX0_fillStretchesTo 17 = .ok (.iconst 1, 1) := by decide +kernel
theorem dX0_fillStretchesTo_18 : decode cX0_fillStretchesTo 18 = .ok (.isub, 1) := by decide +kernel
theorem dX0_fillStretchesTo_19 : decode cX0_fillStretchesTo 19 = .ok (.istore 6, 2) := by decide +kernel
theorem dX0_fillStretchesTo_21 : decode cX0_fillStretchesTo 21 = .ok (.iload 6, 2) := by decide +kernel
theorem dX0_fillStretchesTo_23 : decode cX0_fillStretchesTo 23 = .ok (.ifCond .lt 70, 3) := by decide +kernel
theorem dX0_fillStretchesTo_26 : decode cX0_fillStretchesTo 26 = .ok (.iconst 1, 1) := by decide +kernel
theorem dX0_fillStretchesTo_27 : decode cX0_fillStretchesTo 27 = .ok (.aload_n 0, 1) := by decide +kernel
theorem dX0_fillStretchesTo_28 : decode cX0_fillStretchesTo 28 = .ok (.iload 6, 2) := by decide +kernel
theorem dX0_fillStretchesTo_30 : decode cX0_fillStretchesTo 30 = .ok (.iconst 1, 1) := by decide +kernel
theorem dX0_fillStretchesTo_31 : decode cX0_fillStretchesTo 31 = .ok (.iadd, 1) := by decide +kernel
theorem dX0_fillStretchesTo_32 : decode cX0_fillStretchesTo 32 = .ok (.iload_n 1, 1) := by decide +kernel
theorem dX0_fillStretchesTo_33 : decode cX0_fillStretchesTo 33 = .ok (.iload_n 2, 1) := by decide +kernel
theorem dX0_fillStretchesTo_34 : decode cX0_fillStretchesTo 34 = .ok (.invokevirtual 49, 3) := by decide +kernel
theorem dX0_fillStretchesTo_37 : decode cX0_fillStretchesTo 37 = .ok (.iadd, 1) := by decide +kernel
theorem dX0_fillStretchesTo_38 : decode cX0_fillStretchesTo 38 = .ok (.istore 7, 2) := by decide +kernel
theorem dX0_fillStretchesTo_40 : decode cX0_fillStretchesTo 40 = .ok (.aload_n 3, 1) := by decide +kernel
theorem dX0_fillStretchesTo_41 : decode cX0_fillStretchesTo 41 = .ok (.getfield 53, 3) := by decide +kernel
theorem dX0_fillStretchesTo_44 : decode cX0_fillStretchesTo 44 = .ok (.iload 6, 2) := by decide +kernel
theorem dX0_fillStretchesTo_46 : decode cX0_fillStretchesTo 46 = .ok (.iaload, 1) := by decide +kernel
theorem dX0_fillStretchesTo_47 : decode cX0_fillStretchesTo 47 = .ok (.iload 5, 2) := by decide +kernel
theorem dX0_fillStretchesTo_49 : decode cX0_fillStretchesTo 49 = .ok (.iand, 1) := by decide +kernel
theorem dX0_fillStretchesTo_50 : decode cX0_fillStretchesTo 50 = .ok (.istore 8, 2) := by decide +kernel
theorem dX0_fillStretchesTo_52 : decode cX0_fillStretchesTo 52 = .ok (.iload 8, 2) := by decide +kernel
theorem dX0_fillStretchesTo_54 : decode cX0_fillStretchesTo 54 = .ok (.ifCond .eq 23, 3) := by decide +kernel
theorem dX0_fillStretchesTo_57 : decode cX0_fillStretchesTo 57 = .ok (.iload 7, 2) := by decide +kernel
theorem dX0_fillStretchesTo_59 : decode cX0_fillStretchesTo 59 = .ok (.aload_n 0, 1) := by decide +kernel
theorem dX0_fillStretchesTo_60 : decode cX0_fillStretchesTo 60 = .ok (.iload 6, 2) := by decide +kernel
theorem dX0_fillStretchesTo_62 : decode cX0_fillStretchesTo 62 = .ok (.iload_n 1, 1) := by decide +kernel
theorem dX0_fillStretchesTo_63 : decode cX0_fillStretchesTo 63 = .ok (.iload_n 2, 1) := by decide +kernel
theorem dX0_fillStretchesTo_64 : decode cX0_fillStretchesTo 64 = .ok (.iload 8, 2) := by decide +kernel
theorem dX0_fillStretchesTo_66 : decode cX0_fillStretchesTo 66 = .ok (.aload_n 3, 1) := by decide +kernel
theorem dX0_fillStretchesTo_67 : decode cX0_fillStretchesTo 67 = .ok (.aload 4, 2) := by decide +kernel
theorem dX0_fillStretchesTo_69 : decode cX0_fillStretchesTo 69 = .ok (.invokevirtual 56, 3) := by decide +kernel
theorem dX0_fillStretchesTo_72 : decode cX0_fillStretchesTo 72 = .ok (.invokestatic 60, 3) := by decide +kernel
theorem dX0_fillStretchesTo_75 : decode cX0_fillStretchesTo 75 = .ok (.istore 7, 2) := by decide +kernel
theorem dX0_fillStretchesTo_77 : decode cX0_fillStretchesTo 77 = .ok (.aload_n 0, 1) := by decide +kernel
theorem dX0_fillStretchesTo_78 : decode cX0_fillStretchesTo 78 = .ok (.iload 6, 2) := by decide +kernel
theorem dX0_fillStretchesTo_80 : decode cX0_fillStretchesTo 80 = .ok (.iload_n 1, 1) := by decide +kernel
theorem dX0_fillStretchesTo_81 : decode cX0_fillStretchesTo 81 = .ok (.iload_n 2, 1) := by decide +kernel
theorem dX0_fillStretchesTo_82 : decode cX0_fillStretchesTo 82 = .ok (.iload 7, 2) := by decide +kernel
theorem dX0_fillStretchesTo_84 : decode cX0_fillStretchesTo 84 = .ok (.invokevirtual 45, 3) := by decide +kernel
theorem dX0_fillStretchesTo_87 : decode cX0_fillStretchesTo 87 = .ok (.iinc 6 (-1), 3) := by decide +kernel
theorem dX0_fillStretchesTo_90 : decode cX0_fillStretchesTo 90 = .ok (.goto (-69), 3) := by decide +kernel
theorem dX0_fillStretchesTo_93 : decode cX0_fillStretchesTo 93 = .ok (.return_, 1) := by decide +kernel
theorem dX0_fewestIfOpening_0 : decode cX0_fewestIfOpening 0 = .ok (.bipush 48, 2) := by decide +kernel
theorem dX0_fewestIfOpening_2 : decode cX0_fewestIfOpening 2 = .ok (.istore 7, 2) := by decide +kernel
theorem dX0_fewestIfOpening_4 : decode cX0_fewestIfOpening 4 = .ok (.iload_n 1, 1) := by decide +kernel
theorem dX0_fewestIfOpening_5 : decode cX0_fewestIfOpening 5 = .ok (.iconst 1, 1) := by decide +kernel
theorem dX0_fewestIfOpening_6 : decode cX0_fewestIfOpening 6 = .ok (.iadd, 1) := by decide +kernel
theorem dX0_fewestIfOpening_7 : decode cX0_fewestIfOpening 7 = .ok (.istore 8, 2) := by decide +kernel
theorem dX0_fewestIfOpening_9 : decode cX0_fewestIfOpening 9 = .ok (.iload 8, 2) := by decide +kernel
theorem dX0_fewestIfOpening_11 : decode cX0_fewestIfOpening 11 = .ok (.iload_n 2, 1) := by decide +kernel
theorem dX0_fewestIfOpening_12 : decode cX0_fewestIfOpening 12 = .ok (.if_icmp .ge 65, 3) := by decide +kernel
theorem dX0_fewestIfOpening_15 : decode cX0_fewestIfOpening 15 = .ok (.iload 7, 2) := by decide +kernel
theorem dX0_fewestIfOpening_17 : decode cX0_fewestIfOpening 17 = .ok (.ifCond .le 60, 3) := by decide +kernel
theorem dX0_fewestIfOpening_20 : decode cX0_fewestIfOpening 20 = .ok (.iload 4, 2) := by decide +kernel
theorem dX0_fewestIfOpening_22 : decode cX0_fewestIfOpening 22 = .ok (.aload 5, 2) := by decide +kernel
theorem dX0_fewestIfOpening_24 : decode cX0_fewestIfOpening 24 = .ok (.getfield 25, 3) := by decide +kernel
theorem dX0_fewestIfOpening_27 : decode cX0_fewestIfOpening 27 = .ok (.iload 8, 2) := by decide +kernel
theorem dX0_fewestIfOpening_29 : decode cX0_fewestIfOpening 29 = .ok (.iaload, 1) := by decide +kernel
theorem dX0_fewestIfOpening_30 : decode cX0_fewestIfOpening 30 = .ok (.iand, 1) := by decide +kernel
theorem dX0_fewestIfOpening_31 : decode cX0_fewestIfOpening 31 = .ok (.istore 9, 2) := by decide +kernel
theorem dX0_fewestIfOpening_33 : decode cX0_fewestIfOpening 33 = .ok (.iload 9, 2) := by decide +kernel
theorem dX0_fewestIfOpening_35 : decode cX0_fewestIfOpening 35 = .ok (.ifCond .eq 36, 3) := by decide +kernel
theorem dX0_fewestIfOpening_38 : decode cX0_fewestIfOpening 38 = .ok (.aload_n 0, 1) := by decide +kernel
theorem dX0_fewestIfOpening_39 : decode cX0_fewestIfOpening 39 = .ok (.iload 8, 2) := by decide +kernel
theorem dX0_fewestIfOpening_41 : decode cX0_fewestIfOpening 41 = .ok (.iconst 1, 1) := by decide +kernel
theorem dX0_fewestIfOpening_42 : decode cX0_fewestIfOpening 42 = .ok (.iadd, 1) := by decide +kernel
theorem dX0_fewestIfOpening_43 : decode cX0_fewestIfOpening 43 = .ok (.iload_n 2, 1) := by decide +kernel
theorem dX0_fewestIfOpening_44 : decode cX0_fewestIfOpening 44 = .ok (.iload_n 3, 1) := by decide +kernel
theorem dX0_fewestIfOpening_45 : decode cX0_fewestIfOpening 45 = .ok (.invokevirtual 49, 3) := by decide +kernel
theorem dX0_fewestIfOpening_48 : decode cX0_fewestIfOpening 48 = .ok (.istore 10, 2) := by decide +kernel
theorem dX0_fewestIfOpening_50 : decode cX0_fewestIfOpening 50 = .ok (.iload 7, 2) := by decide +kernel
theorem dX0_fewestIfOpening_52 : decode cX0_fewestIfOpening 52 = .ok (.iload 10, 2) := by decide +kernel
theorem dX0_fewestIfOpening_54 : decode cX0_fewestIfOpening 54 = .ok (.aload_n 0, 1) := by decide +kernel
theorem dX0_fewestIfOpening_55 : decode cX0_fewestIfOpening 55 = .ok (.iload_n 1, 1) := by decide +kernel
theorem dX0_fewestIfOpening_56 : decode cX0_fewestIfOpening 56 = .ok (.iload 8, 2) := by decide +kernel
theorem dX0_fewestIfOpening_58 : decode cX0_fewestIfOpening 58 = .ok (.iload 9, 2) := by decide +kernel
theorem dX0_fewestIfOpening_60 : decode cX0_fewestIfOpening 60 = .ok (.aload 6, 2) := by decide +kernel
theorem dX0_fewestIfOpening_62 : decode cX0_fewestIfOpening 62 = .ok (.invokevirtual 66, 3) := by decide +kernel
theorem dX0_fewestIfOpening_65 : decode cX0_fewestIfOpening 65 = .ok (.iadd, 1) := by decide +kernel
theorem dX0_fewestIfOpening_66 : decode cX0_fewestIfOpening 66 = .ok (.invokestatic 60, 3) := by decide +kernel
theorem dX0_fewestIfOpening_69 : decode cX0_fewestIfOpening 69 = .ok (.istore 7, 2) := by decide +kernel
theorem dX0_fewestIfOpening_71 : decode cX0_fewestIfOpening 71 = .ok (.iinc 8 1, 3) := by decide +kernel
theorem dX0_fewestIfOpening_74 : decode cX0_fewestIfOpening 74 = .ok (.goto (-65), 3) := by decide +kernel
theorem dX0_fewestIfOpening_77 : decode cX0_fewestIfOpening 77 = .ok (.iload 7, 2) := by decide +kernel
theorem dX0_fewestIfOpening_79 : decode cX0_fewestIfOpening 79 = .ok (.ireturn, 1) := by decide +kernel
theorem dX0_fewestBetween_0 : decode cX0_fewestBetween 0 = .ok (.bipush 48, 2) := by decide +kernel
theorem dX0_fewestBetween_2 : decode cX0_fewestBetween 2 = .ok (.istore 5, 2) := by decide +kernel
theorem dX0_fewestBetween_4 : decode cX0_fewestBetween 4 = .ok (.iconst 0, 1) := by decide +kernel
theorem dX0_fewestBetween_5 : decode cX0_fewestBetween 5 = .ok (.istore 6, 2) := by decide +kernel
theorem dX0_fewestBetween_7 : decode cX0_fewestBetween 7 = .ok (.iload 6, 2) := by decide +kernel
theorem dX0_fewestBetween_9 : decode cX0_fewestBetween 9 = .ok (.bipush 6, 2) := by decide +kernel
theorem dX0_fewestBetween_11 : decode cX0_fewestBetween 11 = .ok (.if_icmp .ge 35, 3) := by decide +kernel
theorem dX0_fewestBetween_14 : decode cX0_fewestBetween 14 = .ok (.iload_n 3, 1) := by decide +kernel
theorem dX0_fewestBetween_15 : decode cX0_fewestBetween 15 = .ok (.iload 6, 2) := by decide +kernel
theorem dX0_fewestBetween_17 : decode cX0_fewestBetween 17 = .ok (.invokestatic 33, 3) := by decide +kernel
theorem dX0_fewestBetween_20 : decode cX0_fewestBetween 20 = .ok (.ifCond .eq 20, 3) := by decide +kernel
theorem dX0_fewestBetween_23 : decode cX0_fewestBetween 23 = .ok (.iload 5, 2) := by decide +kernel
theorem dX0_fewestBetween_25 : decode cX0_fewestBetween 25 = .ok (.aload_n 0, 1) := by decide +kernel
theorem dX0_fewestBetween_26 : decode cX0_fewestBetween 26 = .ok (.iload_n 1, 1) := by decide +kernel
theorem dX0_fewestBetween_27 : decode cX0_fewestBetween 27 = .ok (.iload_n 2, 1) := by decide +kernel
theorem dX0_fewestBetween_28 : decode cX0_fewestBetween 28 = .ok (.iload 6, 2) := by decide +kernel
theorem dX0_fewestBetween_30 : decode cX0_fewestBetween 30 = .ok (.aload 4, 2) := by decide +kernel
theorem dX0_fewestBetween_32 : decode cX0_fewestBetween 32 = .ok (.invokevirtual 70, 3) := by decide +kernel
theorem dX0_fewestBetween_35 : decode cX0_fewestBetween 35 = .ok (.invokestatic 60, 3) := by decide +kernel
theorem dX0_fewestBetween_38 : decode cX0_fewestBetween 38 = .ok (.istore 5, 2) := by decide +kernel
theorem dX0_fewestBetween_40 : decode cX0_fewestBetween 40 = .ok (.iinc 6 1, 3) := by decide +kernel
theorem dX0_fewestBetween_43 : decode cX0_fewestBetween 43 = .ok (.goto (-36), 3) := by decide +kernel
theorem dX0_fewestBetween_46 : decode cX0_fewestBetween 46 = .ok (.iload 5, 2) := by decide +kernel
theorem dX0_fewestBetween_48 : decode cX0_fewestBetween 48 = .ok (.ireturn, 1) := by decide +kernel
theorem dX0_fewestInside_0 : decode cX0_fewestInside 0 = .ok (.aload 4, 2) := by decide +kernel
theorem dX0_fewestInside_2 : decode cX0_fewestInside 2 = .ok (.getfield 28, 3) := by decide +kernel
theorem dX0_fewestInside_5 : decode cX0_fewestInside 5 = .ok (.iload_n 3, 1) := by decide +kernel
theorem dX0_fewestInside_6 : decode cX0_fewestInside 6 = .ok (.invokestatic 33, 3) := by decide +kernel
theorem dX0_fewestInside_9 : decode cX0_fewestInside 9 = .ok (.ifCond .eq 7, 3) := by decide +kernel
theorem dX0_fewestInside_12 : decode cX0_fewestInside 12 = .ok (.iconst 0, 1) := by decide +kernel
theorem dX0_fewestInside_13 : decode cX0_fewestInside 13 = .ok (.goto 12, 3) := by decide +kernel
theorem dX0_fewestInside_16 : decode cX0_fewestInside 16 = .ok (.aload_n 0, 1) := by decide +kernel
theorem dX0_fewestInside_17 : decode cX0_fewestInside 17 = .ok (.iload_n 1, 1) := by decide +kernel
theorem dX0_fewestInside_18 : decode cX0_fewestInside 18 = .ok (.iconst 1, 1) := by decide +kernel
theorem dX0_fewestInside_19 : decode cX0_fewestInside 19 = .ok (.iadd, 1) := by decide +kernel
theorem dX0_fewestInside_20 : decode cX0_fewestInside 20 = .ok (.iload_n 2, 1) := by decide +kernel
theorem dX0_fewestInside_21 : decode cX0_fewestInside 21 = .ok (.iload_n 3, 1) := by decide +kernel
theorem dX0_fewestInside_22 : decode cX0_fewestInside 22 = .ok (.invokevirtual 49, 3) := by decide +kernel
theorem dX0_fewestInside_25 : decode cX0_fewestInside 25 = .ok (.ireturn, 1) := by decide +kernel
theorem dX0_chooseIslands_0 : decode cX0_chooseIslands 0 = .ok (.aload_n 3, 1) := by decide +kernel
theorem dX0_chooseIslands_1 : decode cX0_chooseIslands 1 = .ok (.invokevirtual 73, 3) := by decide +kernel
theorem dX0_chooseIslands_4 : decode cX0_chooseIslands 4 = .ok (.iconst 0, 1) := by decide +kernel
theorem dX0_chooseIslands_5 : decode cX0_chooseIslands 5 = .ok (.istore 4, 2) := by decide +kernel
theorem dX0_chooseIslands_7 : decode cX0_chooseIslands 7 = .ok (.iload 4, 2) := by decide +kernel
theorem dX0_chooseIslands_9 : decode cX0_chooseIslands 9 = .ok (.aload_n 1, 1) := by decide +kernel
theorem dX0_chooseIslands_10 : decode cX0_chooseIslands 10 = .ok (.getfield 19, 3) := by decide +kernel
theorem dX0_chooseIslands_13 : decode cX0_chooseIslands 13 = .ok (.if_icmp .ge 71, 3) := by decide +kernel
theorem dX0_chooseIslands_16 : decode cX0_chooseIslands 16 = .ok (.aload_n 3, 1) := by decide +kernel
theorem dX0_chooseIslands_17 : decode cX0_chooseIslands 17 = .ok (.iconst 0, 1) := by decide +kernel
theorem dX0_chooseIslands_18 : decode cX0_chooseIslands 18 = .ok (.invokevirtual 78, 3) := by decide +kernel
theorem dX0_chooseIslands_21 : decode cX0_chooseIslands 21 = .ok (.istore 5, 2) := by decide +kernel
theorem dX0_chooseIslands_23 : decode cX0_chooseIslands 23 = .ok (.iload 5, 2) := by decide +kernel
theorem dX0_chooseIslands_25 : decode cX0_chooseIslands 25 = .ok (.iconst (-1), 1) := by decide +kernel
theorem dX0_chooseIslands_26 : decode cX0_chooseIslands 26 = .ok (.if_icmp .ne 10, 3) := by decide +kernel
theorem dX0_chooseIslands_29 : decode cX0_chooseIslands 29 = .ok (.aload_n 1, 1) := by decide +kernel
theorem dX0_chooseIslands_30 : decode cX0_chooseIslands 30 = .ok (.getfield 19, 3) := by decide +kernel
theorem dX0_chooseIslands_33 : decode cX0_chooseIslands 33 = .ok (.goto 10, 3) := by decide +kernel
theorem dX0_chooseIslands_36 : decode cX0_chooseIslands 36 = .ok (.aload_n 0, 1) := by decide +kernel
theorem dX0_chooseIslands_37 : decode cX0_chooseIslands 37 = .ok (.getfield 15, 3) := by decide +kernel
theorem dX0_chooseIslands_40 : decode cX0_chooseIslands 40 = .ok (.iload 5, 2) := by decide +kernel
theorem dX0_chooseIslands_42 : decode cX0_chooseIslands 42 = .ok (.iaload, 1) := by decide +kernel
theorem dX0_chooseIslands_43 : decode cX0_chooseIslands 43 = .ok (.istore 6, 2) := by decide +kernel
theorem dX0_chooseIslands_45 : decode cX0_chooseIslands 45 = .ok (.iload 4, 2) := by decide +kernel
theorem dX0_chooseIslands_47 : decode cX0_chooseIslands 47 = .ok (.iload 6, 2) := by decide +kernel
theorem dX0_chooseIslands_49 : decode cX0_chooseIslands 49 = .ok (.if_icmp .ne 18, 3) := by decide +kernel
theorem dX0_chooseIslands_52 : decode cX0_chooseIslands 52 = .ok (.aload_n 3, 1) := by decide +kernel
theorem dX0_chooseIslands_53 : decode cX0_chooseIslands 53 = .ok (.aload_n 1, 1) := by decide +kernel
theorem dX0_chooseIslands_54 : decode cX0_chooseIslands 54 = .ok (.getfield 81, 3) := by decide +kernel
theorem dX0_chooseIslands_57 : decode cX0_chooseIslands 57 = .ok (.iload 4, 2) := by decide +kernel
theorem dX0_chooseIslands_59 : decode cX0_chooseIslands 59 = .ok (.iaload, 1) := by decide +kernel
theorem dX0_chooseIslands_60 : decode cX0_chooseIslands 60 = .ok (.iconst 0, 1) := by decide +kernel
theorem dX0_chooseIslands_61 : decode cX0_chooseIslands 61 = .ok (.invokevirtual 84, 3) := by decide +kernel
theorem dX0_chooseIslands_64 : decode cX0_chooseIslands 64 = .ok (.goto 14, 3) := by decide +kernel
theorem dX0_chooseIslands_67 : decode cX0_chooseIslands 67 = .ok (.aload_n 0, 1) := by decide +kernel
theorem dX0_chooseIslands_68 : decode cX0_chooseIslands 68 = .ok (.iload 4, 2) := by decide +kernel
theorem dX0_chooseIslands_70 : decode cX0_chooseIslands 70 = .ok (.iload 6, 2) := by decide +kernel
theorem dX0_chooseIslands_72 : decode cX0_chooseIslands 72 = .ok (.aload_n 1, 1) := by decide +kernel
theorem dX0_chooseIslands_73 : decode cX0_chooseIslands 73 = .ok (.aload_n 2, 1) := by decide +kernel
theorem dX0_chooseIslands_74 : decode cX0_chooseIslands 74 = .ok (.aload_n 3, 1) := by decide +kernel
theorem dX0_chooseIslands_75 : decode cX0_chooseIslands 75 = .ok (.invokevirtual 88, 3) := by decide +kernel
theorem dX0_chooseIslands_78 : decode cX0_chooseIslands 78 = .ok (.iinc 4 1, 3) := by decide +kernel
theorem dX0_chooseIslands_81 : decode cX0_chooseIslands 81 = .ok (.goto (-74), 3) := by decide +kernel
theorem dX0_chooseIslands_84 : decode cX0_chooseIslands 84 = .ok (.aload_n 3, 1) := by decide +kernel
theorem dX0_chooseIslands_85 : decode cX0_chooseIslands 85 = .ok (.aload_n 0, 1) := by decide +kernel
theorem dX0_chooseIslands_86 : decode cX0_chooseIslands 86 = .ok (.iconst 0, 1) := by decide +kernel
theorem dX0_chooseIslands_87 : decode cX0_chooseIslands 87 = .ok (.aload_n 1, 1) := by decide +kernel
theorem dX0_chooseIslands_88 : decode cX0_chooseIslands 88 = .ok (.getfield 19, 3) := by decide +kernel
theorem dX0_chooseIslands_91 : decode cX0_chooseIslands 91 = .ok (.bipush 6, 2) := by decide +kernel
theorem dX0_chooseIslands_93 : decode cX0_chooseIslands 93 = .ok (.invokevirtual 49, 3) := by decide +kernel
theorem dX0_chooseIslands_96 : decode cX0_chooseIslands 96 = .ok (.putfield 92, 3) := by decide +kernel
theorem dX0_chooseIslands_99 : decode cX0_chooseIslands 99 = .ok (.return_, 1) := by decide +kernel
theorem dX0_beginAt_0 : decode cX0_beginAt 0 = .ok (.aload 5, 2) := by decide +kernel
theorem dX0_beginAt_2 : decode cX0_beginAt 2 = .ok (.invokevirtual 95, 3) := by decide +kernel
theorem dX0_beginAt_5 : decode cX0_beginAt 5 = .ok (.istore 6, 2) := by decide +kernel
theorem dX0_beginAt_7 : decode cX0_beginAt 7 = .ok (.aload_n 3, 1) := by decide +kernel
theorem dX0_beginAt_8 : decode cX0_beginAt 8 = .ok (.getfield 53, 3) := by decide +kernel
theorem dX0_beginAt_11 : decode cX0_beginAt 11 = .ok (.iload_n 1, 1) := by decide +kernel
theorem dX0_beginAt_12 : decode cX0_beginAt 12 = .ok (.iaload, 1) := by decide +kernel
theorem dX0_beginAt_13 : decode cX0_beginAt 13 = .ok (.aload 4, 2) := by decide +kernel
theorem dX0_beginAt_15 : decode cX0_beginAt 15 = .ok (.iload 6, 2) := by decide +kernel
theorem dX0_beginAt_17 : decode cX0_beginAt 17 = .ok (.invokevirtual 41, 3) := by decide +kernel
theorem dX0_beginAt_20 : decode cX0_beginAt 20 = .ok (.iand, 1) := by decide +kernel
theorem dX0_beginAt_21 : decode cX0_beginAt 21 = .ok (.istore 7, 2) := by decide +kernel
theorem dX0_beginAt_23 : decode cX0_beginAt 23 = .ok (.iconst 0, 1) := by decide +kernel
theorem dX0_beginAt_24 : decode cX0_beginAt 24 = .ok (.istore 8, 2) := by decide +kernel
theorem dX0_beginAt_26 : decode cX0_beginAt 26 = .ok (.iload 8, 2) := by decide +kernel
theorem dX0_beginAt_28 : decode cX0_beginAt 28 = .ok (.bipush 6, 2) := by decide +kernel
theorem dX0_beginAt_30 : decode cX0_beginAt 30 = .ok (.if_icmp .ge 80, 3) := by decide +kernel
theorem dX0_beginAt_33 : decode cX0_beginAt 33 = .ok (.iload 7, 2) := by decide +kernel
theorem dX0_beginAt_35 : decode cX0_beginAt 35 = .ok (.iload 8, 2) := by decide +kernel
theorem dX0_beginAt_37 : decode cX0_beginAt 37 = .ok (.invokestatic 33, 3) := by decide +kernel
theorem dX0_beginAt_40 : decode cX0_beginAt 40 = .ok (.ifCond .eq 19, 3) := by decide +kernel
theorem dX0_beginAt_43 : decode cX0_beginAt 43 = .ok (.aload_n 0, 1) := by decide +kernel
theorem dX0_beginAt_44 : decode cX0_beginAt 44 = .ok (.iload_n 1, 1) := by decide +kernel
theorem dX0_beginAt_45 : decode cX0_beginAt 45 = .ok (.iload_n 2, 1) := by decide +kernel
theorem dX0_beginAt_46 : decode cX0_beginAt 46 = .ok (.iload 8, 2) := by decide +kernel
theorem dX0_beginAt_48 : decode cX0_beginAt 48 = .ok (.iload 6, 2) := by decide +kernel
theorem dX0_beginAt_50 : decode cX0_beginAt 50 = .ok (.aload_n 3, 1) := by decide +kernel
theorem dX0_beginAt_51 : decode cX0_beginAt 51 = .ok (.aload 4, 2) := by decide +kernel
theorem dX0_beginAt_53 : decode cX0_beginAt 53 = .ok (.invokevirtual 99, 3) := by decide +kernel
theorem dX0_beginAt_56 : decode cX0_beginAt 56 = .ok (.goto 4, 3) := by decide +kernel
theorem dX0_beginAt_59 : decode cX0_beginAt 59 = .ok (.iconst (-1), 1) := by decide +kernel
theorem dX0_beginAt_60 : decode cX0_beginAt 60 = .ok (.istore 9, 2) := by decide +kernel
theorem dX0_beginAt_62 : decode cX0_beginAt 62 = .ok (.iload 9, 2) := by decide +kernel
theorem dX0_beginAt_64 : decode cX0_beginAt 64 = .ok (.iconst (-1), 1) := by decide +kernel
theorem dX0_beginAt_65 : decode cX0_beginAt 65 = .ok (.if_icmp .eq 39, 3) := by decide +kernel
theorem dX0_beginAt_68 : decode cX0_beginAt 68 = .ok (.aload 5, 2) := by decide +kernel
theorem dX0_beginAt_70 : decode cX0_beginAt 70 = .ok (.getfield 102, 3) := by decide +kernel
theorem dX0_beginAt_73 : decode cX0_beginAt 73 = .ok (.bipush 48, 2) := by decide +kernel
theorem dX0_beginAt_75 : decode cX0_beginAt 75 = .ok (.if_icmp .ge 29, 3) := by decide +kernel
theorem dX0_beginAt_78 : decode cX0_beginAt 78 = .ok (.aload_n 0, 1) := by decide +kernel
theorem dX0_beginAt_79 : decode cX0_beginAt 79 = .ok (.getfield 15, 3) := by decide +kernel
theorem dX0_beginAt_82 : decode cX0_beginAt 82 = .ok (.aload 5, 2) := by decide +kernel
theorem dX0_beginAt_84 : decode cX0_beginAt 84 = .ok (.getfield 102, 3) := by decide +kernel
theorem dX0_beginAt_87 : decode cX0_beginAt 87 = .ok (.iload 9, 2) := by decide +kernel
theorem dX0_beginAt_89 : decode cX0_beginAt 89 = .ok (.iastore, 1) := by decide +kernel
theorem dX0_beginAt_90 : decode cX0_beginAt 90 = .ok (.aload 5, 2) := by decide +kernel
theorem dX0_beginAt_92 : decode cX0_beginAt 92 = .ok (.iload 8, 2) := by decide +kernel
theorem dX0_beginAt_94 : decode cX0_beginAt 94 = .ok (.aload_n 3, 1) := by decide +kernel
theorem dX0_beginAt_95 : decode cX0_beginAt 95 = .ok (.getfield 103, 3) := by decide +kernel
theorem dX0_beginAt_98 : decode cX0_beginAt 98 = .ok (.iload_n 1, 1) := by decide +kernel
theorem dX0_beginAt_99 : decode cX0_beginAt 99 = .ok (.iaload, 1) := by decide +kernel
theorem dX0_beginAt_100 : decode cX0_beginAt 100 = .ok (.invokevirtual 106, 3) := by decide +kernel
theorem dX0_beginAt_103 : decode cX0_beginAt 103 = .ok (.return_, 1) := by decide +kernel
theorem dX0_beginAt_104 : decode cX0_beginAt 104 = .ok (.iinc 8 1, 3) := by decide +kernel
theorem dX0_beginAt_107 : decode cX0_beginAt 107 = .ok (.goto (-81), 3) := by decide +kernel
theorem dX0_beginAt_110 : decode cX0_beginAt 110 = .ok (.return_, 1) := by decide +kernel
theorem dX0_bestPartner_0 : decode cX0_bestPartner 0 = .ok (.aload_n 0, 1) := by decide +kernel
theorem dX0_bestPartner_1 : decode cX0_bestPartner 1 = .ok (.iload_n 1, 1) := by decide +kernel
theorem dX0_bestPartner_2 : decode cX0_bestPartner 2 = .ok (.iload_n 2, 1) := by decide +kernel
theorem dX0_bestPartner_3 : decode cX0_bestPartner 3 = .ok (.iload 4, 2) := by decide +kernel
theorem dX0_bestPartner_5 : decode cX0_bestPartner 5 = .ok (.invokevirtual 49, 3) := by decide +kernel
theorem dX0_bestPartner_8 : decode cX0_bestPartner 8 = .ok (.istore 7, 2) := by decide +kernel
theorem dX0_bestPartner_10 : decode cX0_bestPartner 10 = .ok (.iload_n 1, 1) := by decide +kernel
theorem dX0_bestPartner_11 : decode cX0_bestPartner 11 = .ok (.iconst 1, 1) := by decide +kernel
theorem dX0_bestPartner_12 : decode cX0_bestPartner 12 = .ok (.iadd, 1) := by decide +kernel
theorem dX0_bestPartner_13 : decode cX0_bestPartner 13 = .ok (.istore 8, 2) := by decide +kernel
theorem dX0_bestPartner_15 : decode cX0_bestPartner 15 = .ok (.iload 8, 2) := by decide +kernel
theorem dX0_bestPartner_17 : decode cX0_bestPartner 17 = .ok (.iload_n 2, 1) := by decide +kernel
theorem dX0_bestPartner_18 : decode cX0_bestPartner 18 = .ok (.if_icmp .ge 54, 3) := by decide +kernel
theorem dX0_bestPartner_21 : decode cX0_bestPartner 21 = .ok (.aload 5, 2) := by decide +kernel
theorem dX0_bestPartner_23 : decode cX0_bestPartner 23 = .ok (.getfield 25, 3) := by decide +kernel
theorem dX0_bestPartner_26 : decode cX0_bestPartner 26 = .ok (.iload 8, 2) := by decide +kernel
theorem dX0_bestPartner_28 : decode cX0_bestPartner 28 = .ok (.iaload, 1) := by decide +kernel
theorem dX0_bestPartner_29 : decode cX0_bestPartner 29 = .ok (.iload_n 3, 1) := by decide +kernel
theorem dX0_bestPartner_30 : decode cX0_bestPartner 30 = .ok (.invokestatic 33, 3) := by decide +kernel
theorem dX0_bestPartner_33 : decode cX0_bestPartner 33 = .ok (.ifCond .eq 33, 3) := by decide +kernel
theorem dX0_bestPartner_36 : decode cX0_bestPartner 36 = .ok (.aload_n 0, 1) := by decide +kernel
theorem dX0_bestPartner_37 : decode cX0_bestPartner 37 = .ok (.iload_n 1, 1) := by decide +kernel
theorem dX0_bestPartner_38 : decode cX0_bestPartner 38 = .ok (.iload 8, 2) := by decide +kernel
theorem dX0_bestPartner_40 : decode cX0_bestPartner 40 = .ok (.iload_n 3, 1) := by decide +kernel
theorem dX0_bestPartner_41 : decode cX0_bestPartner 41 = .ok (.aload 6, 2) := by decide +kernel
theorem dX0_bestPartner_43 : decode cX0_bestPartner 43 = .ok (.invokevirtual 70, 3) := by decide +kernel
theorem dX0_bestPartner_46 : decode cX0_bestPartner 46 = .ok (.aload_n 0, 1) := by decide +kernel
theorem dX0_bestPartner_47 : decode cX0_bestPartner 47 = .ok (.iload 8, 2) := by decide +kernel
theorem dX0_bestPartner_49 : decode cX0_bestPartner 49 = .ok (.iconst 1, 1) := by decide +kernel
theorem dX0_bestPartner_50 : decode cX0_bestPartner 50 = .ok (.iadd, 1) := by decide +kernel
theorem dX0_bestPartner_51 : decode cX0_bestPartner 51 = .ok (.iload_n 2, 1) := by decide +kernel
theorem dX0_bestPartner_52 : decode cX0_bestPartner 52 = .ok (.iload 4, 2) := by decide +kernel
theorem dX0_bestPartner_54 : decode cX0_bestPartner 54 = .ok (.invokevirtual 49, 3) := by decide +kernel
theorem dX0_bestPartner_57 : decode cX0_bestPartner 57 = .ok (.iadd, 1) := by decide +kernel
theorem dX0_bestPartner_58 : decode cX0_bestPartner 58 = .ok (.iload 7, 2) := by decide +kernel
theorem dX0_bestPartner_60 : decode cX0_bestPartner 60 = .ok (.if_icmp .ne 6, 3) := by decide +kernel
theorem dX0_bestPartner_63 : decode cX0_bestPartner 63 = .ok (.iload 8, 2) := by decide +kernel
theorem dX0_bestPartner_65 : decode cX0_bestPartner 65 = .ok (.ireturn, 1) := by decide +kernel
theorem dX0_bestPartner_66 : decode cX0_bestPartner 66 = .ok (.iinc 8 1, 3) := by decide +kernel
theorem dX0_bestPartner_69 : decode cX0_bestPartner 69 = .ok (.goto (-54), 3) := by decide +kernel
theorem dX0_bestPartner_72 : decode cX0_bestPartner 72 = .ok (.iconst (-1), 1) := by decide +kernel
theorem dX0_bestPartner_73 : decode cX0_bestPartner 73 = .ok (.ireturn, 1) := by decide +kernel
theorem dX0_fewest_0 : decode cX0_fewest 0 = .ok (.iload_n 1, 1) := by decide +kernel
theorem dX0_fewest_1 : decode cX0_fewest 1 = .ok (.bipush 49, 2) := by decide +kernel
theorem dX0_fewest_3 : decode cX0_fewest 3 = .ok (.imul, 1) := by decide +kernel
theorem dX0_fewest_4 : decode cX0_fewest 4 = .ok (.iload_n 2, 1) := by decide +kernel
theorem dX0_fewest_5 : decode cX0_fewest 5 = .ok (.iadd, 1) := by decide +kernel
theorem dX0_fewest_6 : decode cX0_fewest 6 = .ok (.istore 4, 2) := by decide +kernel
theorem dX0_fewest_8 : decode cX0_fewest 8 = .ok (.iload 4, 2) := by decide +kernel
theorem dX0_fewest_10 : decode cX0_fewest 10 = .ok (.ifCond .lt 13, 3) := by decide +kernel
theorem dX0_fewest_13 : decode cX0_fewest 13 = .ok (.iload 4, 2) := by decide +kernel
theorem dX0_fewest_15 : decode cX0_fewest 15 = .ok (.aload_n 0, 1) := by decide +kernel
theorem dX0_fewest_16 : decode cX0_fewest 16 = .ok (.getfield 11, 3) := by decide +kernel
theorem dX0_fewest_19 : decode cX0_fewest 19 = .ok (.arraylength, 1) := by decide +kernel
theorem dX0_fewest_20 : decode cX0_fewest 20 = .ok (.if_icmp .lt 5, 3) := by decide +kernel
theorem dX0_fewest_23 : decode cX0_fewest 23 = .ok (.iconst 0, 1) := by decide +kernel
theorem dX0_fewest_24 : decode cX0_fewest 24 = .ok (.ireturn, 1) := by decide +kernel
theorem dX0_fewest_25 : decode cX0_fewest 25 = .ok (.aload_n 0, 1) := by decide +kernel
theorem dX0_fewest_26 : decode cX0_fewest 26 = .ok (.getfield 11, 3) := by decide +kernel
theorem dX0_fewest_29 : decode cX0_fewest 29 = .ok (.iload 4, 2) := by decide +kernel
theorem dX0_fewest_31 : decode cX0_fewest 31 = .ok (.laload, 1) := by decide +kernel
theorem dX0_fewest_32 : decode cX0_fewest 32 = .ok (.bipush 8, 2) := by decide +kernel
theorem dX0_fewest_34 : decode cX0_fewest 34 = .ok (.iload_n 3, 1) := by decide +kernel
theorem dX0_fewest_35 : decode cX0_fewest 35 = .ok (.imul, 1) := by decide +kernel
theorem dX0_fewest_36 : decode cX0_fewest 36 = .ok (.lushr, 1) := by decide +kernel
theorem dX0_fewest_37 : decode cX0_fewest 37 = .ok (.l2i, 1) := by decide +kernel
theorem dX0_fewest_38 : decode cX0_fewest 38 = .ok (.sipush 255, 3) := by decide +kernel
theorem dX0_fewest_41 : decode cX0_fewest 41 = .ok (.iand, 1) := by decide +kernel
theorem dX0_fewest_42 : decode cX0_fewest 42 = .ok (.ireturn, 1) := by decide +kernel
theorem dX0_keep_0 : decode cX0_keep 0 = .ok (.iload_n 1, 1) := by decide +kernel
theorem dX0_keep_1 : decode cX0_keep 1 = .ok (.bipush 49, 2) := by decide +kernel
theorem dX0_keep_3 : decode cX0_keep 3 = .ok (.imul, 1) := by decide +kernel
theorem dX0_keep_4 : decode cX0_keep 4 = .ok (.iload_n 2, 1) := by decide +kernel
theorem dX0_keep_5 : decode cX0_keep 5 = .ok (.iadd, 1) := by decide +kernel
theorem dX0_keep_6 : decode cX0_keep 6 = .ok (.istore 5, 2) := by decide +kernel
theorem dX0_keep_8 : decode cX0_keep 8 = .ok (.iload 5, 2) := by decide +kernel
theorem dX0_keep_10 : decode cX0_keep 10 = .ok (.ifCond .lt 51, 3) := by decide +kernel
theorem dX0_keep_13 : decode cX0_keep 13 = .ok (.iload 5, 2) := by decide +kernel
theorem dX0_keep_15 : decode cX0_keep 15 = .ok (.aload_n 0, 1) := by decide +kernel
theorem dX0_keep_16 : decode cX0_keep 16 = .ok (.getfield 11, 3) := by decide +kernel
theorem dX0_keep_19 : decode cX0_keep 19 = .ok (.arraylength, 1) := by decide +kernel
theorem dX0_keep_20 : decode cX0_keep 20 = .ok (.if_icmp .ge 41, 3) := by decide +kernel
theorem dX0_keep_23 : decode cX0_keep 23 = .ok (.bipush 8, 2) := by decide +kernel
theorem dX0_keep_25 : decode cX0_keep 25 = .ok (.iload_n 3, 1) := by decide +kernel
theorem dX0_keep_26 : decode cX0_keep 26 = .ok (.imul, 1) := by decide +kernel
theorem dX0_keep_27 : decode cX0_keep 27 = .ok (.istore 6, 2) := by decide +kernel
theorem dX0_keep_29 : decode cX0_keep 29 = .ok (.aload_n 0, 1) := by decide +kernel
theorem dX0_keep_30 : decode cX0_keep 30 = .ok (.getfield 11, 3) := by decide +kernel
theorem dX0_keep_33 : decode cX0_keep 33 = .ok (.iload 5, 2) := by decide +kernel
theorem dX0_keep_35 : decode cX0_keep 35 = .ok (.aload_n 0, 1) := by decide +kernel
theorem dX0_keep_36 : decode cX0_keep 36 = .ok (.getfield 11, 3) := by decide +kernel
theorem dX0_keep_39 : decode cX0_keep 39 = .ok (.iload 5, 2) := by decide +kernel
theorem dX0_keep_41 : decode cX0_keep 41 = .ok (.laload, 1) := by decide +kernel
theorem dX0_keep_42 : decode cX0_keep 42 = .ok (.ldc2_w 109, 3) := by decide +kernel
theorem dX0_keep_45 : decode cX0_keep 45 = .ok (.iload 6, 2) := by decide +kernel
theorem dX0_keep_47 : decode cX0_keep 47 = .ok (.lshl, 1) := by decide +kernel
theorem dX0_keep_48 : decode cX0_keep 48 = .ok (.ldc2_w 111, 3) := by decide +kernel
theorem dX0_keep_51 : decode cX0_keep 51 = .ok (.lxor, 1) := by decide +kernel
theorem dX0_keep_52 : decode cX0_keep 52 = .ok (.land, 1) := by decide +kernel
theorem dX0_keep_53 : decode cX0_keep 53 = .ok (.iload 4, 2) := by decide +kernel
theorem dX0_keep_55 : decode cX0_keep 55 = .ok (.i2l, 1) := by decide +kernel
theorem dX0_keep_56 : decode cX0_keep 56 = .ok (.iload 6, 2) := by decide +kernel
theorem dX0_keep_58 : decode cX0_keep 58 = .ok (.lshl, 1) := by decide +kernel
theorem dX0_keep_59 : decode cX0_keep 59 = .ok (.lor, 1) := by decide +kernel
theorem dX0_keep_60 : decode cX0_keep 60 = .ok (.lastore, 1) := by decide +kernel
theorem dX0_keep_61 : decode cX0_keep 61 = .ok (.return_, 1) := by decide +kernel
theorem dX1_init_0 : decode cX1_init 0 = .ok (.aload_n 0, 1) := by decide +kernel
theorem dX1_init_1 : decode cX1_init 1 = .ok (.invokespecial 3, 3) := by decide +kernel
theorem dX1_init_4 : decode cX1_init 4 = .ok (.aload_n 0, 1) := by decide +kernel
theorem dX1_init_5 : decode cX1_init 5 = .ok (.bipush 48, 2) := by decide +kernel
theorem dX1_init_7 : decode cX1_init 7 = .ok (.newarray .int, 2) := by decide +kernel
theorem dX1_init_9 : decode cX1_init 9 = .ok (.putfield 9, 3) := by decide +kernel
theorem dX1_init_12 : decode cX1_init 12 = .ok (.aload_n 0, 1) := by decide +kernel
theorem dX1_init_13 : decode cX1_init 13 = .ok (.bipush 48, 2) := by decide +kernel
theorem dX1_init_15 : decode cX1_init 15 = .ok (.newarray .int, 2) := by decide +kernel
theorem dX1_init_17 : decode cX1_init 17 = .ok (.putfield 15, 3) := by decide +kernel
theorem dX1_init_20 : decode cX1_init 20 = .ok (.aload_n 0, 1) := by decide +kernel
theorem dX1_init_21 : decode cX1_init 21 = .ok (.bipush 48, 2) := by decide +kernel
theorem dX1_init_23 : decode cX1_init 23 = .ok (.newarray .int, 2) := by decide +kernel
theorem dX1_init_25 : decode cX1_init 25 = .ok (.putfield 18, 3) := by decide +kernel
theorem dX1_init_28 : decode cX1_init 28 = .ok (.aload_n 0, 1) := by decide +kernel
theorem dX1_init_29 : decode cX1_init 29 = .ok (.bipush 48, 2) := by decide +kernel
theorem dX1_init_31 : decode cX1_init 31 = .ok (.newarray .int, 2) := by decide +kernel
theorem dX1_init_33 : decode cX1_init 33 = .ok (.putfield 21, 3) := by decide +kernel
theorem dX1_init_36 : decode cX1_init 36 = .ok (.aload_n 0, 1) := by decide +kernel
theorem dX1_init_37 : decode cX1_init 37 = .ok (.bipush 48, 2) := by decide +kernel
theorem dX1_init_39 : decode cX1_init 39 = .ok (.newarray .int, 2) := by decide +kernel
theorem dX1_init_41 : decode cX1_init 41 = .ok (.putfield 24, 3) := by decide +kernel
theorem dX1_init_44 : decode cX1_init 44 = .ok (.aload_n 0, 1) := by decide +kernel
theorem dX1_init_45 : decode cX1_init 45 = .ok (.bipush 48, 2) := by decide +kernel
theorem dX1_init_47 : decode cX1_init 47 = .ok (.newarray .int, 2) := by decide +kernel
theorem dX1_init_49 : decode cX1_init 49 = .ok (.putfield 27, 3) := by decide +kernel
theorem dX1_init_52 : decode cX1_init 52 = .ok (.aload_n 0, 1) := by decide +kernel
theorem dX1_init_53 : decode cX1_init 53 = .ok (.bipush 48, 2) := by decide +kernel
theorem dX1_init_55 : decode cX1_init 55 = .ok (.newarray .int, 2) := by decide +kernel
theorem dX1_init_57 : decode cX1_init 57 = .ok (.putfield 30, 3) := by decide +kernel
theorem dX1_init_60 : decode cX1_init 60 = .ok (.aload_n 0, 1) := by decide +kernel
theorem dX1_init_61 : decode cX1_init 61 = .ok (.iconst 0, 1) := by decide +kernel
theorem dX1_init_62 : decode cX1_init 62 = .ok (.putfield 33, 3) := by decide +kernel
theorem dX1_init_65 : decode cX1_init 65 = .ok (.aload_n 0, 1) := by decide +kernel
theorem dX1_init_66 : decode cX1_init 66 = .ok (.iconst 0, 1) := by decide +kernel
theorem dX1_init_67 : decode cX1_init 67 = .ok (.putfield 37, 3) := by decide +kernel
theorem dX1_init_70 : decode cX1_init 70 = .ok (.aload_n 0, 1) := by decide +kernel
theorem dX1_init_71 : decode cX1_init 71 = .ok (.iconst 0, 1) := by decide +kernel
theorem dX1_init_72 : decode cX1_init 72 = .ok (.putfield 40, 3) := by decide +kernel
theorem dX1_init_75 : decode cX1_init 75 = .ok (.aload_n 0, 1) := by decide +kernel
theorem dX1_init_76 : decode cX1_init 76 = .ok (.iconst 0, 1) := by decide +kernel
theorem dX1_init_77 : decode cX1_init 77 = .ok (.putfield 43, 3) := by decide +kernel
theorem dX1_init_80 : decode cX1_init 80 = .ok (.return_, 1) := by decide +kernel
theorem dX1_forget_0 : decode cX1_forget 0 = .ok (.aload_n 0, 1) := by decide +kernel
theorem dX1_forget_1 : decode cX1_forget 1 = .ok (.iconst 0, 1) := by decide +kernel
theorem dX1_forget_2 : decode cX1_forget 2 = .ok (.putfield 43, 3) := by decide +kernel
theorem dX1_forget_5 : decode cX1_forget 5 = .ok (.return_, 1) := by decide +kernel
theorem dX1_startReading_0 : decode cX1_startReading 0 = .ok (.aload_n 0, 1) := by decide +kernel
theorem dX1_startReading_1 : decode cX1_startReading 1 = .ok (.iconst 0, 1) := by decide +kernel
theorem dX1_startReading_2 : decode cX1_startReading 2 = .ok (.putfield 33, 3) := by decide +kernel
theorem dX1_startReading_5 : decode cX1_startReading 5 = .ok (.aload_n 0, 1) := by decide +kernel
theorem dX1_startReading_6 : decode cX1_startReading 6 = .ok (.iconst 0, 1) := by decide +kernel
theorem dX1_startReading_7 : decode cX1_startReading 7 = .ok (.putfield 37, 3) := by decide +kernel
theorem dX1_startReading_10 : decode cX1_startReading 10 = .ok (.aload_n 0, 1) := by decide +kernel
theorem dX1_startReading_11 : decode cX1_startReading 11 = .ok (.iconst 0, 1) := by decide +kernel
theorem dX1_startReading_12 : decode cX1_startReading 12 = .ok (.putfield 40, 3) := by decide +kernel
theorem dX1_startReading_15 : decode cX1_startReading 15 = .ok (.aload_n 0, 1) := by decide +kernel
theorem dX1_startReading_16 : decode cX1_startReading 16 = .ok (.iconst 1, 1) := by decide +kernel
theorem dX1_startReading_17 : decode cX1_startReading 17 = .ok (.putfield 43, 3) := by decide +kernel
theorem dX1_startReading_20 : decode cX1_startReading 20 = .ok (.return_, 1) := by decide +kernel
theorem dX1_begin_0 : decode cX1_begin 0 = .ok (.aload_n 0, 1) := by decide +kernel
theorem dX1_begin_1 : decode cX1_begin 1 = .ok (.getfield 33, 3) := by decide +kernel
theorem dX1_begin_4 : decode cX1_begin 4 = .ok (.bipush 48, 2) := by decide +kernel
theorem dX1_begin_6 : decode cX1_begin 6 = .ok (.if_icmp .ge 12, 3) := by decide +kernel
theorem dX1_begin_9 : decode cX1_begin 9 = .ok (.aload_n 0, 1) := by decide +kernel
theorem dX1_begin_10 : decode cX1_begin 10 = .ok (.getfield 37, 3) := by decide +kernel
theorem dX1_begin_13 : decode cX1_begin 13 = .ok (.bipush 48, 2) := by decide +kernel
theorem dX1_begin_15 : decode cX1_begin 15 = .ok (.if_icmp .lt 4, 3) := by decide +kernel
theorem dX1_begin_18 : decode cX1_begin 18 = .ok (.return_, 1) := by decide +kernel
theorem dX1_begin_19 : decode cX1_begin 19 = .ok (.aload_n 0, 1) := by decide +kernel
theorem dX1_begin_20 : decode cX1_begin 20 = .ok (.getfield 9, 3) := by decide +kernel
theorem dX1_begin_23 : decode cX1_begin 23 = .ok (.aload_n 0, 1) := by decide +kernel
theorem dX1_begin_24 : decode cX1_begin 24 = .ok (.getfield 33, 3) := by decide +kernel
theorem dX1_begin_27 : decode cX1_begin 27 = .ok (.iload_n 1, 1) := by decide +kernel
theorem dX1_begin_28 : decode cX1_begin 28 = .ok (.iastore, 1) := by decide +kernel
theorem dX1_begin_29 : decode cX1_begin 29 = .ok (.aload_n 0, 1) := by decide +kernel
theorem dX1_begin_30 : decode cX1_begin 30 = .ok (.getfield 15, 3) := by decide +kernel
theorem dX1_begin_33 : decode cX1_begin 33 = .ok (.aload_n 0, 1) := by decide +kernel
theorem dX1_begin_34 : decode cX1_begin 34 = .ok (.getfield 33, 3) := by decide +kernel
theorem dX1_begin_37 : decode cX1_begin 37 = .ok (.iload_n 2, 1) := by decide +kernel
theorem dX1_begin_38 : decode cX1_begin 38 = .ok (.iastore, 1) := by decide +kernel
theorem dX1_begin_39 : decode cX1_begin 39 = .ok (.aload_n 0, 1) := by decide +kernel
theorem dX1_begin_40 : decode cX1_begin 40 = .ok (.getfield 24, 3) := by decide +kernel
theorem dX1_begin_43 : decode cX1_begin 43 = .ok (.aload_n 0, 1) := by decide +kernel
theorem dX1_begin_44 : decode cX1_begin 44 = .ok (.getfield 33, 3) := by decide +kernel
theorem dX1_begin_47 : decode cX1_begin 47 = .ok (.aload_n 0, 1) := by decide +kernel
theorem dX1_begin_48 : decode cX1_begin 48 = .ok (.iconst 0, 1) := by decide +kernel
theorem dX1_begin_49 : decode cX1_begin 49 = .ok (.invokevirtual 47, 3) := by decide +kernel
theorem dX1_begin_52 : decode cX1_begin 52 = .ok (.iastore, 1) := by decide +kernel
theorem dX1_begin_53 : decode cX1_begin 53 = .ok (.aload_n 0, 1) := by decide +kernel
theorem dX1_begin_54 : decode cX1_begin 54 = .ok (.getfield 27, 3) := by decide +kernel
theorem dX1_begin_57 : decode cX1_begin 57 = .ok (.aload_n 0, 1) := by decide +kernel
theorem dX1_begin_58 : decode cX1_begin 58 = .ok (.getfield 33, 3) := by decide +kernel
theorem dX1_begin_61 : decode cX1_begin 61 = .ok (.aload_n 0, 1) := by decide +kernel
theorem dX1_begin_62 : decode cX1_begin 62 = .ok (.getfield 37, 3) := by decide +kernel
theorem dX1_begin_65 : decode cX1_begin 65 = .ok (.iastore, 1) := by decide +kernel
theorem dX1_begin_66 : decode cX1_begin 66 = .ok (.aload_n 0, 1) := by decide +kernel
theorem dX1_begin_67 : decode cX1_begin 67 = .ok (.getfield 30, 3) := by decide +kernel
theorem dX1_begin_70 : decode cX1_begin 70 = .ok (.aload_n 0, 1) := by decide +kernel
theorem dX1_begin_71 : decode cX1_begin 71 = .ok (.getfield 37, 3) := by decide +kernel
theorem dX1_begin_74 : decode cX1_begin 74 = .ok (.aload_n 0, 1) := by decide +kernel
theorem dX1_begin_75 : decode cX1_begin 75 = .ok (.getfield 33, 3) := by decide +kernel
theorem dX1_begin_78 : decode cX1_begin 78 = .ok (.iastore, 1) := by decide +kernel
theorem dX1_begin_79 : decode cX1_begin 79 = .ok (.aload_n 0, 1) := by decide +kernel
theorem dX1_begin_80 : decode cX1_begin 80 = .ok (.dup, 1) := by decide +kernel
theorem dX1_begin_81 : decode cX1_begin 81 = .ok (.getfield 37, 3) := by decide +kernel
theorem dX1_begin_84 : decode cX1_begin 84 = .ok (.iconst 1, 1) := by decide +kernel
theorem dX1_begin_85 : decode cX1_begin 85 = .ok (.iadd, 1) := by decide +kernel
theorem dX1_begin_86 : decode cX1_begin 86 = .ok (.putfield 37, 3) := by decide +kernel
theorem dX1_begin_89 : decode cX1_begin 89 = .ok (.aload_n 0, 1) := by decide +kernel
theorem dX1_begin_90 : decode cX1_begin 90 = .ok (.dup, 1) := by decide +kernel
theorem dX1_begin_91 : decode cX1_begin 91 = .ok (.getfield 33, 3) := by decide +kernel
theorem dX1_begin_94 : decode cX1_begin 94 = .ok (.iconst 1, 1) := by decide +kernel
theorem dX1_begin_95 : decode cX1_begin 95 = .ok (.iadd, 1) := by decide +kernel
theorem dX1_begin_96 : decode cX1_begin 96 = .ok (.putfield 33, 3) := by decide +kernel
theorem dX1_begin_99 : decode cX1_begin 99 = .ok (.return_, 1) := by decide +kernel
theorem dX1_finish_0 : decode cX1_finish 0 = .ok (.aload_n 0, 1) := by decide +kernel
theorem dX1_finish_1 : decode cX1_finish 1 = .ok (.iconst 0, 1) := by decide +kernel
theorem dX1_finish_2 : decode cX1_finish 2 = .ok (.invokevirtual 47, 3) := by decide +kernel
theorem dX1_finish_5 : decode cX1_finish 5 = .ok (.istore_n 3, 1) := by decide +kernel
theorem dX1_finish_6 : decode cX1_finish 6 = .ok (.iload_n 3, 1) := by decide +kernel
theorem dX1_finish_7 : decode cX1_finish 7 = .ok (.iconst (-1), 1) := by decide +kernel
theorem dX1_finish_8 : decode cX1_finish 8 = .ok (.if_icmp .eq 27, 3) := by decide +kernel
theorem dX1_finish_11 : decode cX1_finish 11 = .ok (.aload_n 0, 1) := by decide +kernel
theorem dX1_finish_12 : decode cX1_finish 12 = .ok (.getfield 18, 3) := by decide +kernel
theorem dX1_finish_15 : decode cX1_finish 15 = .ok (.iload_n 3, 1) := by decide +kernel
theorem dX1_finish_16 : decode cX1_finish 16 = .ok (.iload_n 1, 1) := by decide +kernel
theorem dX1_finish_17 : decode cX1_finish 17 = .ok (.iastore, 1) := by decide +kernel
theorem dX1_finish_18 : decode cX1_finish 18 = .ok (.aload_n 0, 1) := by decide +kernel
theorem dX1_finish_19 : decode cX1_finish 19 = .ok (.getfield 21, 3) := by decide +kernel
theorem dX1_finish_22 : decode cX1_finish 22 = .ok (.iload_n 3, 1) := by decide +kernel
theorem dX1_finish_23 : decode cX1_finish 23 = .ok (.iload_n 2, 1) := by decide +kernel
theorem dX1_finish_24 : decode cX1_finish 24 = .ok (.iastore, 1) := by decide +kernel
theorem dX1_finish_25 : decode cX1_finish 25 = .ok (.aload_n 0, 1) := by decide +kernel
theorem dX1_finish_26 : decode cX1_finish 26 = .ok (.dup, 1) := by decide +kernel
theorem dX1_finish_27 : decode cX1_finish 27 = .ok (.getfield 37, 3) := by decide +kernel
theorem dX1_finish_30 : decode cX1_finish 30 = .ok (.iconst 1, 1) := by decide +kernel
theorem dX1_finish_31 : decode cX1_finish 31 = .ok (.isub, 1) := by decide +kernel
theorem dX1_finish_32 : decode cX1_finish 32 = .ok (.putfield 37, 3) := by decide +kernel
theorem dX1_finish_35 : decode cX1_finish 35 = .ok (.return_, 1) := by decide +kernel
theorem dX1_openIsland_0 : decode cX1_openIsland 0 = .ok (.aload_n 0, 1) := by decide +kernel
theorem dX1_openIsland_1 : decode cX1_openIsland 1 = .ok (.getfield 37, 3) := by decide +kernel
theorem dX1_openIsland_4 : decode cX1_openIsland 4 = .ok (.iconst 1, 1) := by decide +kernel
theorem dX1_openIsland_5 : decode cX1_openIsland 5 = .ok (.isub, 1) := by decide +kernel
theorem dX1_openIsland_6 : decode cX1_openIsland 6 = .ok (.iload_n 1, 1) := by decide +kernel
theorem dX1_openIsland_7 : decode cX1_openIsland 7 = .ok (.isub, 1) := by decide +kernel
theorem dX1_openIsland_8 : decode cX1_openIsland 8 = .ok (.istore_n 2, 1) := by decide +kernel
theorem dX1_openIsland_9 : decode cX1_openIsland 9 = .ok (.iload_n 2, 1) := by decide +kernel
theorem dX1_openIsland_10 : decode cX1_openIsland 10 = .ok (.ifCond .lt 9, 3) := by decide +kernel
theorem dX1_openIsland_13 : decode cX1_openIsland 13 = .ok (.iload_n 2, 1) := by decide +kernel
theorem dX1_openIsland_14 : decode cX1_openIsland 14 = .ok (.bipush 48, 2) := by decide +kernel
theorem dX1_openIsland_16 : decode cX1_openIsland 16 = .ok (.if_icmp .lt 7, 3) := by decide +kernel
theorem dX1_openIsland_19 : decode cX1_openIsland 19 = .ok (.iconst (-1), 1) := by decide +kernel
theorem dX1_openIsland_20 : decode cX1_openIsland 20 = .ok (.goto 9, 3) := by decide +kernel
theorem dX1_openIsland_23 : decode cX1_openIsland 23 = .ok (.aload_n 0, 1) := by decide +kernel
theorem dX1_openIsland_24 : decode cX1_openIsland 24 = .ok (.getfield 30, 3) := by decide +kernel
theorem dX1_openIsland_27 : decode cX1_openIsland 27 = .ok (.iload_n 2, 1) := by decide +kernel
theorem dX1_openIsland_28 : decode cX1_openIsland 28 = .ok (.iaload, 1) := by decide +kernel
theorem dX1_openIsland_29 : decode cX1_openIsland 29 = .ok (.ireturn, 1) := by decide +kernel
theorem dX1_openKind_0 : decode cX1_openKind 0 = .ok (.aload_n 0, 1) := by decide +kernel
theorem dX1_openKind_1 : decode cX1_openKind 1 = .ok (.iload_n 1, 1) := by decide +kernel
theorem dX1_openKind_2 : decode cX1_openKind 2 = .ok (.invokevirtual 47, 3) := by decide +kernel
theorem dX1_openKind_5 : decode cX1_openKind 5 = .ok (.istore_n 2, 1) := by decide +kernel
theorem dX1_openKind_6 : decode cX1_openKind 6 = .ok (.iload_n 2, 1) := by decide +kernel
theorem dX1_openKind_7 : decode cX1_openKind 7 = .ok (.iconst (-1), 1) := by decide +kernel
theorem dX1_openKind_8 : decode cX1_openKind 8 = .ok (.if_icmp .ne 8, 3) := by decide +kernel
theorem dX1_openKind_11 : decode cX1_openKind 11 = .ok (.bipush 6, 2) := by decide +kernel
theorem dX1_openKind_13 : decode cX1_openKind 13 = .ok (.goto 9, 3) := by decide +kernel
theorem dX1_openKind_16 : decode cX1_openKind 16 = .ok (.aload_n 0, 1) := by decide +kernel
theorem dX1_openKind_17 : decode cX1_openKind 17 = .ok (.getfield 9, 3) := by decide +kernel
theorem dX1_openKind_20 : decode cX1_openKind 20 = .ok (.iload_n 2, 1) := by decide +kernel
theorem dX1_openKind_21 : decode cX1_openKind 21 = .ok (.iaload, 1) := by decide +kernel
theorem dX1_openKind_22 : decode cX1_openKind 22 = .ok (.ireturn, 1) := by decide +kernel
theorem dX1_innermostKind_0 : decode cX1_innermostKind 0 = .ok (.aload_n 0, 1) := by decide +kernel
theorem dX1_innermostKind_1 : decode cX1_innermostKind 1 = .ok (.iconst 0, 1) := by decide +kernel
theorem dX1_innermostKind_2 : decode cX1_innermostKind 2 = .ok (.invokevirtual 51, 3) := by decide +kernel
theorem dX1_innermostKind_5 : decode cX1_innermostKind 5 = .ok (.ireturn, 1) := by decide +kernel
theorem dX1_bytesOfChildren_0 : decode cX1_bytesOfChildren 0 = .ok (.iconst 0, 1) := by decide +kernel
theorem dX1_bytesOfChildren_1 : decode cX1_bytesOfChildren 1 = .ok (.istore_n 2, 1) := by decide +kernel
theorem dX1_bytesOfChildren_2 : decode cX1_bytesOfChildren 2 = .ok (.iconst 0, 1) := by decide +kernel
theorem dX1_bytesOfChildren_3 : decode cX1_bytesOfChildren 3 = .ok (.istore_n 3, 1) := by decide +kernel
theorem dX1_bytesOfChildren_4 : decode cX1_bytesOfChildren 4 = .ok (.iload_n 3, 1) := by decide +kernel
theorem dX1_bytesOfChildren_5 : decode cX1_bytesOfChildren 5 = .ok (.aload_n 0, 1) := by decide +kernel
theorem dX1_bytesOfChildren_6 : decode cX1_bytesOfChildren 6 = .ok (.getfield 33, 3) := by decide +kernel
theorem dX1_bytesOfChildren_9 : decode cX1_bytesOfChildren 9 = .ok (.if_icmp .ge 35, 3) := by decide +kernel
theorem dX1_bytesOfChildren_12 : decode cX1_bytesOfChildren 12 = .ok (.aload_n 0, 1) := by decide +kernel
theorem dX1_bytesOfChildren_13 : decode cX1_bytesOfChildren 13 = .ok (.getfield 24, 3) := by decide +kernel
theorem dX1_bytesOfChildren_16 : decode cX1_bytesOfChildren 16 = .ok (.iload_n 3, 1) := by decide +kernel
theorem dX1_bytesOfChildren_17 : decode cX1_bytesOfChildren 17 = .ok (.iaload, 1) := by decide +kernel
theorem dX1_bytesOfChildren_18 : decode cX1_bytesOfChildren 18 = .ok (.iload_n 1, 1) := by decide +kernel
theorem dX1_bytesOfChildren_19 : decode cX1_bytesOfChildren 19 = .ok (.if_icmp .ne 19, 3) := by decide +kernel
theorem dX1_bytesOfChildren_22 : decode cX1_bytesOfChildren 22 = .ok (.iload_n 2, 1) := by decide +kernel
theorem dX1_bytesOfChildren_23 : decode cX1_bytesOfChildren 23 = .ok (.aload_n 0, 1) := by decide +kernel
theorem dX1_bytesOfChildren_24 : decode cX1_bytesOfChildren 24 = .ok (.getfield 18, 3) := by decide +kernel
theorem dX1_bytesOfChildren_27 : decode cX1_bytesOfChildren 27 = .ok (.iload_n 3, 1) := by decide +kernel
theorem dX1_bytesOfChildren_28 : decode cX1_bytesOfChildren 28 = .ok (.iaload, 1) := by decide +kernel
theorem dX1_bytesOfChildren_29 : decode cX1_bytesOfChildren 29 = .ok (.aload_n 0, 1) := by decide +kernel
theorem dX1_bytesOfChildren_30 : decode cX1_bytesOfChildren 30 = .ok (.getfield 15, 3) := by decide +kernel
theorem dX1_bytesOfChildren_33 : decode cX1_bytesOfChildren 33 = .ok (.iload_n 3, 1) := by decide +kernel
theorem dX1_bytesOfChildren_34 : decode cX1_bytesOfChildren 34 = .ok (.iaload, 1) := by decide +kernel
theorem dX1_bytesOfChildren_35 : decode cX1_bytesOfChildren 35 = .ok (.isub, 1) := by decide +kernel
theorem dX1_bytesOfChildren_36 : decode cX1_bytesOfChildren 36 = .ok (.iadd, 1) := by decide +kernel
theorem dX1_bytesOfChildren_37 : decode cX1_bytesOfChildren 37 = .ok (.istore_n 2, 1) := by decide +kernel
theorem dX1_bytesOfChildren_38 : decode cX1_bytesOfChildren 38 = .ok (.iinc 3 1, 3) := by decide +kernel
theorem dX1_bytesOfChildren_41 : decode cX1_bytesOfChildren 41 = .ok (.goto (-37), 3) := by decide +kernel
theorem dX1_bytesOfChildren_44 : decode cX1_bytesOfChildren 44 = .ok (.iload_n 2, 1) := by decide +kernel
theorem dX1_bytesOfChildren_45 : decode cX1_bytesOfChildren 45 = .ok (.ireturn, 1) := by decide +kernel
theorem dX1_innermostAround_0 : decode cX1_innermostAround 0 = .ok (.aload_n 0, 1) := by decide +kernel
theorem dX1_innermostAround_1 : decode cX1_innermostAround 1 = .ok (.getfield 33, 3) := by decide +kernel
theorem dX1_innermostAround_4 : decode cX1_innermostAround 4 = .ok (.iconst 1, 1) := by decide +kernel
theorem dX1_innermostAround_5 : decode cX1_innermostAround 5 = .ok (.isub, 1) := by decide +kernel
theorem dX1_innermostAround_6 : decode cX1_innermostAround 6 = .ok (.istore_n 2, 1) := by decide +kernel
theorem dX1_innermostAround_7 : decode cX1_innermostAround 7 = .ok (.iload_n 2, 1) := by decide +kernel
theorem dX1_innermostAround_8 : decode cX1_innermostAround 8 = .ok (.ifCond .lt 31, 3) := by decide +kernel
theorem dX1_innermostAround_11 : decode cX1_innermostAround 11 = .ok (.aload_n 0, 1) := by decide +kernel
theorem dX1_innermostAround_12 : decode cX1_innermostAround 12 = .ok (.getfield 15, 3) := by decide +kernel
theorem dX1_innermostAround_15 : decode cX1_innermostAround 15 = .ok (.iload_n 2, 1) := by decide +kernel
theorem dX1_innermostAround_16 : decode cX1_innermostAround 16 = .ok (.iaload, 1) := by decide +kernel
theorem dX1_innermostAround_17 : decode cX1_innermostAround 17 = .ok (.iload_n 1, 1) := by decide +kernel
theorem dX1_innermostAround_18 : decode cX1_innermostAround 18 = .ok (.if_icmp .gt 15, 3) := by decide +kernel
theorem dX1_innermostAround_21 : decode cX1_innermostAround 21 = .ok (.iload_n 1, 1) := by decide +kernel
theorem dX1_innermostAround_22 : decode cX1_innermostAround 22 = .ok (.aload_n 0, 1) := by decide +kernel
theorem dX1_innermostAround_23 : decode cX1_innermostAround 23 = .ok (.getfield 18, 3) := by decide +kernel
theorem dX1_innermostAround_26 : decode cX1_innermostAround 26 = .ok (.iload_n 2, 1) := by decide +kernel
theorem dX1_innermostAround_27 : decode cX1_innermostAround 27 = .ok (.iaload, 1) := by decide +kernel
theorem dX1_innermostAround_28 : decode cX1_innermostAround 28 = .ok (.if_icmp .ge 5, 3) := by decide +kernel
theorem dX1_innermostAround_31 : decode cX1_innermostAround 31 = .ok (.iload_n 2, 1) := by decide +kernel
theorem dX1_innermostAround_32 : decode cX1_innermostAround 32 = .ok (.ireturn, 1) := by decide +kernel
theorem dX1_innermostAround_33 : decode cX1_innermostAround 33 = .ok (.iinc 2 (-1), 3) := by decide +kernel
theorem dX1_innermostAround_36 : decode cX1_innermostAround 36 = .ok (.goto (-29), 3) := by decide +kernel
theorem dX1_innermostAround_39 : decode cX1_innermostAround 39 = .ok (.iconst (-1), 1) := by decide +kernel
theorem dX1_innermostAround_40 : decode cX1_innermostAround 40 = .ok (.ireturn, 1) := by decide +kernel
theorem dX2_init_0 : decode cX2_init 0 = .ok (.aload_n 0, 1) := by decide +kernel
theorem dX2_init_1 : decode cX2_init 1 = .ok (.invokespecial 3, 3) := by decide +kernel
theorem dX2_init_4 : decode cX2_init 4 = .ok (.aload_n 0, 1) := by decide +kernel
theorem dX2_init_5 : decode cX2_init 5 = .ok (.bipush 6, 2) := by decide +kernel
theorem dX2_init_7 : decode cX2_init 7 = .ok (.newarray .int, 2) := by decide +kernel
theorem dX2_init_9 : decode cX2_init 9 = .ok (.putfield 9, 3) := by decide +kernel
theorem dX2_init_12 : decode cX2_init 12 = .ok (.aload_n 0, 1) := by decide +kernel
theorem dX2_init_13 : decode cX2_init 13 = .ok (.bipush 6, 2) := by decide +kernel
theorem dX2_init_15 : decode cX2_init 15 = .ok (.newarray .int, 2) := by decide +kernel
theorem dX2_init_17 : decode cX2_init 17 = .ok (.putfield 15, 3) := by decide +kernel
theorem dX2_init_20 : decode cX2_init 20 = .ok (.aload_n 0, 1) := by decide +kernel
theorem dX2_init_21 : decode cX2_init 21 = .ok (.bipush 6, 2) := by decide +kernel
theorem dX2_init_23 : decode cX2_init 23 = .ok (.newarray .int, 2) := by decide +kernel
theorem dX2_init_25 : decode cX2_init 25 = .ok (.putfield 18, 3) := by decide +kernel
theorem dX2_init_28 : decode cX2_init 28 = .ok (.iconst 0, 1) := by decide +kernel
theorem dX2_init_29 : decode cX2_init 29 = .ok (.istore_n 1, 1) := by decide +kernel
theorem dX2_init_30 : decode cX2_init 30 = .ok (.iload_n 1, 1) := by decide +kernel
theorem dX2_init_31 : decode cX2_init 31 = .ok (.bipush 6, 2) := by decide +kernel
theorem dX2_init_33 : decode cX2_init 33 = .ok (.if_icmp .ge 17, 3) := by decide +kernel
theorem dX2_init_36 : decode cX2_init 36 = .ok (.aload_n 0, 1) := by decide +kernel
theorem dX2_init_37 : decode cX2_init 37 = .ok (.getfield 18, 3) := by decide +kernel
theorem dX2_init_40 : decode cX2_init 40 = .ok (.iload_n 1, 1) := by decide +kernel
theorem dX2_init_41 : decode cX2_init 41 = .ok (.bipush 63, 2) := by decide +kernel
theorem dX2_init_43 : decode cX2_init 43 = .ok (.iastore, 1) := by decide +kernel
theorem dX2_init_44 : decode cX2_init 44 = .ok (.iinc 1 1, 3) := by decide +kernel
theorem dX2_init_47 : decode cX2_init 47 = .ok (.goto (-17), 3) := by decide +kernel
theorem dX2_init_50 : decode cX2_init 50 = .ok (.aload_n 0, 1) := by decide +kernel
theorem dX2_init_51 : decode cX2_init 51 = .ok (.iconst 0, 1) := by decide +kernel
theorem dX2_init_52 : decode cX2_init 52 = .ok (.putfield 21, 3) := by decide +kernel
theorem dX2_init_55 : decode cX2_init 55 = .ok (.aload_n 0, 1) := by decide +kernel
theorem dX2_init_56 : decode cX2_init 56 = .ok (.bipush 63, 2) := by decide +kernel
theorem dX2_init_58 : decode cX2_init 58 = .ok (.putfield 25, 3) := by decide +kernel
theorem dX2_init_61 : decode cX2_init 61 = .ok (.return_, 1) := by decide +kernel
theorem dX2_isComplete_0 : decode cX2_isComplete 0 = .ok (.iload_n 1, 1) := by decide +kernel
theorem dX2_isComplete_1 : decode cX2_isComplete 1 = .ok (.ifCond .lt 31, 3) := by decide +kernel
theorem dX2_isComplete_4 : decode cX2_isComplete 4 = .ok (.iload_n 1, 1) := by decide +kernel
theorem dX2_isComplete_5 : decode cX2_isComplete 5 = .ok (.bipush 6, 2) := by decide +kernel
theorem dX2_isComplete_7 : decode cX2_isComplete 7 = .ok (.if_icmp .ge 25, 3) := by decide +kernel
theorem dX2_isComplete_10 : decode cX2_isComplete 10 = .ok (.aload_n 0, 1) := by decide +kernel
theorem dX2_isComplete_11 : decode cX2_isComplete 11 = .ok (.getfield 9, 3) := by decide +kernel
theorem dX2_isComplete_14 : decode cX2_isComplete 14 = .ok (.iload_n 1, 1) := by decide +kernel
theorem dX2_isComplete_15 : decode cX2_isComplete 15 = .ok (.iaload, 1) := by decide +kernel
theorem dX2_isComplete_16 : decode cX2_isComplete 16 = .ok (.ifCond .eq 16, 3) := by decide +kernel
theorem dX2_isComplete_19 : decode cX2_isComplete 19 = .ok (.aload_n 0, 1) := by decide +kernel
theorem dX2_isComplete_20 : decode cX2_isComplete 20 = .ok (.getfield 15, 3) := by decide +kernel
theorem dX2_isComplete_23 : decode cX2_isComplete 23 = .ok (.iload_n 1, 1) := by decide +kernel
theorem dX2_isComplete_24 : decode cX2_isComplete 24 = .ok (.iaload, 1) := by decide +kernel
theorem dX2_isComplete_25 : decode cX2_isComplete 25 = .ok (.ifCond .eq 7, 3) := by decide +kernel
theorem dX2_isComplete_28 : decode cX2_isComplete 28 = .ok (.iconst 1, 1) := by decide +kernel
theorem dX2_isComplete_29 : decode cX2_isComplete 29 = .ok (.goto 4, 3) := by decide +kernel
theorem dX2_isComplete_32 : decode cX2_isComplete 32 = .ok (.iconst 0, 1) := by decide +kernel
theorem dX2_isComplete_33 : decode cX2_isComplete 33 = .ok (.ireturn, 1) := by decide +kernel
theorem dX2_isClosedBy_0 : decode cX2_isClosedBy 0 = .ok (.aload_n 0, 1) := by decide +kernel
theorem dX2_isClosedBy_1 : decode cX2_isClosedBy 1 = .ok (.iload_n 1, 1) := by decide +kernel
theorem dX2_isClosedBy_2 : decode cX2_isClosedBy 2 = .ok (.invokevirtual 28, 3) := by decide +kernel
theorem dX2_isClosedBy_5 : decode cX2_isClosedBy 5 = .ok (.ifCond .eq 17, 3) := by decide +kernel
theorem dX2_isClosedBy_8 : decode cX2_isClosedBy 8 = .ok (.aload_n 0, 1) := by decide +kernel
theorem dX2_isClosedBy_9 : decode cX2_isClosedBy 9 = .ok (.getfield 15, 3) := by decide +kernel
theorem dX2_isClosedBy_12 : decode cX2_isClosedBy 12 = .ok (.iload_n 1, 1) := by decide +kernel
theorem dX2_isClosedBy_13 : decode cX2_isClosedBy 13 = .ok (.iaload, 1) := by decide +kernel
theorem dX2_isClosedBy_14 : decode cX2_isClosedBy 14 = .ok (.iload_n 2, 1) := by decide +kernel
theorem dX2_isClosedBy_15 : decode cX2_isClosedBy 15 = .ok (.if_icmp .ne 7, 3) := by decide +kernel
theorem dX2_isClosedBy_18 : decode cX2_isClosedBy 18 = .ok (.iconst 1, 1) := by decide +kernel
theorem dX2_isClosedBy_19 : decode cX2_isClosedBy 19 = .ok (.goto 4, 3) := by decide +kernel
theorem dX2_isClosedBy_22 : decode cX2_isClosedBy 22 = .ok (.iconst 0, 1) := by decide +kernel
theorem dX2_isClosedBy_23 : decode cX2_isClosedBy 23 = .ok (.ireturn, 1) := by decide +kernel
theorem dX2_openedBy_0 : decode cX2_openedBy 0 = .ok (.aload_n 0, 1) := by decide +kernel
theorem dX2_openedBy_1 : decode cX2_openedBy 1 = .ok (.aload_n 0, 1) := by decide +kernel
theorem dX2_openedBy_2 : decode cX2_openedBy 2 = .ok (.getfield 9, 3) := by decide +kernel
theorem dX2_openedBy_5 : decode cX2_openedBy 5 = .ok (.iload_n 1, 1) := by decide +kernel
theorem dX2_openedBy_6 : decode cX2_openedBy 6 = .ok (.invokevirtual 32, 3) := by decide +kernel
theorem dX2_openedBy_9 : decode cX2_openedBy 9 = .ok (.ireturn, 1) := by decide +kernel
theorem dX2_closedBy_0 : decode cX2_closedBy 0 = .ok (.aload_n 0, 1) := by decide +kernel
theorem dX2_closedBy_1 : decode cX2_closedBy 1 = .ok (.aload_n 0, 1) := by decide +kernel
theorem dX2_closedBy_2 : decode cX2_closedBy 2 = .ok (.getfield 15, 3) := by decide +kernel
theorem dX2_closedBy_5 : decode cX2_closedBy 5 = .ok (.iload_n 1, 1) := by decide +kernel
theorem dX2_closedBy_6 : decode cX2_closedBy 6 = .ok (.invokevirtual 32, 3) := by decide +kernel
theorem dX2_closedBy_9 : decode cX2_closedBy 9 = .ok (.ireturn, 1) := by decide +kernel
theorem dX2_kindsWith_0 : decode cX2_kindsWith 0 = .ok (.iconst 0, 1) := by decide +kernel
theorem dX2_kindsWith_1 : decode cX2_kindsWith 1 = .ok (.istore_n 3, 1) := by decide +kernel
theorem dX2_kindsWith_2 : decode cX2_kindsWith 2 = .ok (.iconst 0, 1) := by decide +kernel
theorem dX2_kindsWith_3 : decode cX2_kindsWith 3 = .ok (.istore 4, 2) := by decide +kernel
theorem dX2_kindsWith_5 : decode cX2_kindsWith 5 = .ok (.iload 4, 2) := by decide +kernel
theorem dX2_kindsWith_7 : decode cX2_kindsWith 7 = .ok (.bipush 6, 2) := by decide +kernel
theorem dX2_kindsWith_9 : decode cX2_kindsWith 9 = .ok (.if_icmp .ge 40, 3) := by decide +kernel
theorem dX2_kindsWith_12 : decode cX2_kindsWith 12 = .ok (.iload 4, 2) := by decide +kernel
theorem dX2_kindsWith_14 : decode cX2_kindsWith 14 = .ok (.aload_n 1, 1) := by decide +kernel
theorem dX2_kindsWith_15 : decode cX2_kindsWith 15 = .ok (.arraylength, 1) := by decide +kernel
theorem dX2_kindsWith_16 : decode cX2_kindsWith 16 = .ok (.if_icmp .ge 33, 3) := by decide +kernel
theorem dX2_kindsWith_19 : decode cX2_kindsWith 19 = .ok (.aload_n 1, 1) := by decide +kernel
theorem dX2_kindsWith_20 : decode cX2_kindsWith 20 = .ok (.iload 4, 2) := by decide +kernel
theorem dX2_kindsWith_22 : decode cX2_kindsWith 22 = .ok (.iaload, 1) := by decide +kernel
theorem dX2_kindsWith_23 : decode cX2_kindsWith 23 = .ok (.iload_n 2, 1) := by decide +kernel
theorem dX2_kindsWith_24 : decode cX2_kindsWith 24 = .ok (.if_icmp .ne 19, 3) := by decide +kernel
theorem dX2_kindsWith_27 : decode cX2_kindsWith 27 = .ok (.aload_n 0, 1) := by decide +kernel
theorem dX2_kindsWith_28 : decode cX2_kindsWith 28 = .ok (.iload 4, 2) := by decide +kernel
theorem dX2_kindsWith_30 : decode cX2_kindsWith 30 = .ok (.invokevirtual 28, 3) := by decide +kernel
theorem dX2_kindsWith_33 : decode cX2_kindsWith 33 = .ok (.ifCond .eq 10, 3) := by decide +kernel
theorem dX2_kindsWith_36 : decode cX2_kindsWith 36 = .ok (.iload_n 3, 1) := by decide +kernel
theorem dX2_kindsWith_37 : decode cX2_kindsWith 37 = .ok (.iconst 1, 1) := by decide +kernel
theorem dX2_kindsWith_38 : decode cX2_kindsWith 38 = .ok (.iload 4, 2) := by decide +kernel
theorem dX2_kindsWith_40 : decode cX2_kindsWith 40 = .ok (.ishl, 1) := by decide +kernel
theorem dX2_kindsWith_41 : decode cX2_kindsWith 41 = .ok (.ior, 1) := by decide +kernel
theorem dX2_kindsWith_42 : decode cX2_kindsWith 42 = .ok (.istore_n 3, 1) := by decide +kernel
theorem dX2_kindsWith_43 : decode cX2_kindsWith 43 = .ok (.iinc 4 1, 3) := by decide +kernel
theorem dX2_kindsWith_46 : decode cX2_kindsWith 46 = .ok (.goto (-41), 3) := by decide +kernel
theorem dX2_kindsWith_49 : decode cX2_kindsWith 49 = .ok (.iload_n 3, 1) := by decide +kernel
theorem dX2_kindsWith_50 : decode cX2_kindsWith 50 = .ok (.ireturn, 1) := by decide +kernel
theorem dX2_allowedIn_0 : decode cX2_allowedIn 0 = .ok (.iload_n 1, 1) := by decide +kernel
theorem dX2_allowedIn_1 : decode cX2_allowedIn 1 = .ok (.bipush 6, 2) := by decide +kernel
theorem dX2_allowedIn_3 : decode cX2_allowedIn 3 = .ok (.if_icmp .ne 8, 3) := by decide +kernel
theorem dX2_allowedIn_6 : decode cX2_allowedIn 6 = .ok (.aload_n 0, 1) := by decide +kernel
theorem dX2_allowedIn_7 : decode cX2_allowedIn 7 = .ok (.getfield 25, 3) := by decide +kernel
theorem dX2_allowedIn_10 : decode cX2_allowedIn 10 = .ok (.ireturn, 1) := by decide +kernel
theorem dX2_allowedIn_11 : decode cX2_allowedIn 11 = .ok (.iload_n 1, 1) := by decide +kernel
theorem dX2_allowedIn_12 : decode cX2_allowedIn 12 = .ok (.ifCond .lt 20, 3) := by decide +kernel
theorem dX2_allowedIn_15 : decode cX2_allowedIn 15 = .ok (.iload_n 1, 1) := by decide +kernel
theorem dX2_allowedIn_16 : decode cX2_allowedIn 16 = .ok (.bipush 6, 2) := by decide +kernel
theorem dX2_allowedIn_18 : decode cX2_allowedIn 18 = .ok (.if_icmp .ge 14, 3) := by decide +kernel
theorem dX2_allowedIn_21 : decode cX2_allowedIn 21 = .ok (.aload_n 0, 1) := by decide +kernel
theorem dX2_allowedIn_22 : decode cX2_allowedIn 22 = .ok (.getfield 21, 3) := by decide +kernel
theorem dX2_allowedIn_25 : decode cX2_allowedIn 25 = .ok (.iload_n 1, 1) := by decide +kernel
theorem dX2_allowedIn_26 : decode cX2_allowedIn 26 = .ok (.invokestatic 36, 3) := by decide +kernel
theorem dX2_allowedIn_29 : decode cX2_allowedIn 29 = .ok (.ifCond .eq 5, 3) := by decide +kernel
theorem dX2_allowedIn_32 : decode cX2_allowedIn 32 = .ok (.iconst 0, 1) := by decide +kernel
theorem dX2_allowedIn_33 : decode cX2_allowedIn 33 = .ok (.ireturn, 1) := by decide +kernel
theorem dX2_allowedIn_34 : decode cX2_allowedIn 34 = .ok (.aload_n 0, 1) := by decide +kernel
theorem dX2_allowedIn_35 : decode cX2_allowedIn 35 = .ok (.getfield 18, 3) := by decide +kernel
theorem dX2_allowedIn_38 : decode cX2_allowedIn 38 = .ok (.iload_n 1, 1) := by decide +kernel
theorem dX2_allowedIn_39 : decode cX2_allowedIn 39 = .ok (.iaload, 1) := by decide +kernel
theorem dX2_allowedIn_40 : decode cX2_allowedIn 40 = .ok (.ireturn, 1) := by decide +kernel
theorem dX3_init_0 : decode cX3_init 0 = .ok (.aload_n 0, 1) := by decide +kernel
theorem dX3_init_1 : decode cX3_init 1 = .ok (.invokespecial 3, 3) := by decide +kernel
theorem dX3_init_4 : decode cX3_init 4 = .ok (.aload_n 0, 1) := by decide +kernel
theorem dX3_init_5 : decode cX3_init 5 = .ok (.bipush 48, 2) := by decide +kernel
theorem dX3_init_7 : decode cX3_init 7 = .ok (.newarray .int, 2) := by decide +kernel
theorem dX3_init_9 : decode cX3_init 9 = .ok (.putfield 9, 3) := by decide +kernel
theorem dX3_init_12 : decode cX3_init 12 = .ok (.aload_n 0, 1) := by decide +kernel
theorem dX3_init_13 : decode cX3_init 13 = .ok (.bipush 48, 2) := by decide +kernel
theorem dX3_init_15 : decode cX3_init 15 = .ok (.newarray .int, 2) := by decide +kernel
theorem dX3_init_17 : decode cX3_init 17 = .ok (.putfield 15, 3) := by decide +kernel
theorem dX3_init_20 : decode cX3_init 20 = .ok (.aload_n 0, 1) := by decide +kernel
theorem dX3_init_21 : decode cX3_init 21 = .ok (.bipush 48, 2) := by decide +kernel
theorem dX3_init_23 : decode cX3_init 23 = .ok (.newarray .int, 2) := by decide +kernel
theorem dX3_init_25 : decode cX3_init 25 = .ok (.putfield 18, 3) := by decide +kernel
theorem dX3_init_28 : decode cX3_init 28 = .ok (.aload_n 0, 1) := by decide +kernel
theorem dX3_init_29 : decode cX3_init 29 = .ok (.bipush 48, 2) := by decide +kernel
theorem dX3_init_31 : decode cX3_init 31 = .ok (.newarray .int, 2) := by decide +kernel
theorem dX3_init_33 : decode cX3_init 33 = .ok (.putfield 21, 3) := by decide +kernel
theorem dX3_init_36 : decode cX3_init 36 = .ok (.aload_n 0, 1) := by decide +kernel
theorem dX3_init_37 : decode cX3_init 37 = .ok (.iconst 0, 1) := by decide +kernel
theorem dX3_init_38 : decode cX3_init 38 = .ok (.putfield 24, 3) := by decide +kernel
theorem dX3_init_41 : decode cX3_init 41 = .ok (.return_, 1) := by decide +kernel
theorem dX3_find_0 : decode cX3_find 0 = .ok (.aload_n 0, 1) := by decide +kernel
theorem dX3_find_1 : decode cX3_find 1 = .ok (.iconst 0, 1) := by decide +kernel
theorem dX3_find_2 : decode cX3_find 2 = .ok (.putfield 24, 3) := by decide +kernel
theorem dX3_find_5 : decode cX3_find 5 = .ok (.iconst 0, 1) := by decide +kernel
theorem dX3_find_6 : decode cX3_find 6 = .ok (.istore_n 3, 1) := by decide +kernel
theorem dX3_find_7 : decode cX3_find 7 = .ok (.iconst 0, 1) := by decide +kernel
theorem dX3_find_8 : decode cX3_find 8 = .ok (.istore 4, 2) := by decide +kernel
theorem dX3_find_10 : decode cX3_find 10 = .ok (.iload 4, 2) := by decide +kernel
theorem dX3_find_12 : decode cX3_find 12 = .ok (.aload_n 1, 1) := by decide +kernel
theorem dX3_find_13 : decode cX3_find 13 = .ok (.getfield 28, 3) := by decide +kernel
theorem dX3_find_16 : decode cX3_find 16 = .ok (.if_icmp .ge 40, 3) := by decide +kernel
theorem dX3_find_19 : decode cX3_find 19 = .ok (.iload 4, 2) := by decide +kernel
theorem dX3_find_21 : decode cX3_find 21 = .ok (.iload_n 3, 1) := by decide +kernel
theorem dX3_find_22 : decode cX3_find 22 = .ok (.if_icmp .ne 28, 3) := by decide +kernel
theorem dX3_find_25 : decode cX3_find 25 = .ok (.iload 4, 2) := by decide +kernel
theorem dX3_find_27 : decode cX3_find 27 = .ok (.aload_n 1, 1) := by decide +kernel
theorem dX3_find_28 : decode cX3_find 28 = .ok (.iload 4, 2) := by decide +kernel
theorem dX3_find_30 : decode cX3_find 30 = .ok (.invokevirtual 31, 3) := by decide +kernel
theorem dX3_find_33 : decode cX3_find 33 = .ok (.ifCond .eq 7, 3) := by decide +kernel
theorem dX3_find_36 : decode cX3_find 36 = .ok (.iconst 2, 1) := by decide +kernel
theorem dX3_find_37 : decode cX3_find 37 = .ok (.goto 11, 3) := by decide +kernel
theorem dX3_find_40 : decode cX3_find 40 = .ok (.aload_n 0, 1) := by decide +kernel
theorem dX3_find_41 : decode cX3_find 41 = .ok (.aload_n 1, 1) := by decide +kernel
theorem dX3_find_42 : decode cX3_find 42 = .ok (.aload_n 2, 1) := by decide +kernel
theorem dX3_find_43 : decode cX3_find 43 = .ok (.iload 4, 2) := by decide +kernel
theorem dX3_find_45 : decode cX3_find 45 = .ok (.invokevirtual 35, 3) := by decide +kernel
theorem dX3_find_48 : decode cX3_find 48 = .ok (.iadd, 1) := by decide +kernel
theorem dX3_find_49 : decode cX3_find 49 = .ok (.istore_n 3, 1) := by decide +kernel
theorem dX3_find_50 : decode cX3_find 50 = .ok (.iinc 4 1, 3) := by decide +kernel
theorem dX3_find_53 : decode cX3_find 53 = .ok (.goto (-43), 3) := by decide +kernel
theorem dX3_find_56 : decode cX3_find 56 = .ok (.return_, 1) := by decide +kernel
theorem dX3_findAt_0 : decode cX3_findAt 0 = .ok (.iconst 3, 1) := by decide +kernel
theorem dX3_findAt_1 : decode cX3_findAt 1 = .ok (.istore 4, 2) := by decide +kernel
theorem dX3_findAt_3 : decode cX3_findAt 3 = .ok (.iload 4, 2) := by decide +kernel
theorem dX3_findAt_5 : decode cX3_findAt 5 = .ok (.iconst 1, 1) := by decide +kernel
theorem dX3_findAt_6 : decode cX3_findAt 6 = .ok (.if_icmp .lt 109, 3) := by decide +kernel
theorem dX3_findAt_9 : decode cX3_findAt 9 = .ok (.aload_n 1, 1) := by decide +kernel
theorem dX3_findAt_10 : decode cX3_findAt 10 = .ok (.iload_n 3, 1) := by decide +kernel
theorem dX3_findAt_11 : decode cX3_findAt 11 = .ok (.iload 4, 2) := by decide +kernel
theorem dX3_findAt_13 : decode cX3_findAt 13 = .ok (.invokevirtual 39, 3) := by decide +kernel
theorem dX3_findAt_16 : decode cX3_findAt 16 = .ok (.istore 5, 2) := by decide +kernel
theorem dX3_findAt_18 : decode cX3_findAt 18 = .ok (.aload_n 2, 1) := by decide +kernel
theorem dX3_findAt_19 : decode cX3_findAt 19 = .ok (.iload 5, 2) := by decide +kernel
theorem dX3_findAt_21 : decode cX3_findAt 21 = .ok (.invokevirtual 43, 3) := by decide +kernel
theorem dX3_findAt_24 : decode cX3_findAt 24 = .ok (.istore 6, 2) := by decide +kernel
theorem dX3_findAt_26 : decode cX3_findAt 26 = .ok (.aload_n 2, 1) := by decide +kernel
theorem dX3_findAt_27 : decode cX3_findAt 27 = .ok (.iload 5, 2) := by decide +kernel
theorem dX3_findAt_29 : decode cX3_findAt 29 = .ok (.invokevirtual 49, 3) := by decide +kernel
theorem dX3_findAt_32 : decode cX3_findAt 32 = .ok (.istore 7, 2) := by decide +kernel
theorem dX3_findAt_34 : decode cX3_findAt 34 = .ok (.iload 6, 2) := by decide +kernel
theorem dX3_findAt_36 : decode cX3_findAt 36 = .ok (.iload 7, 2) := by decide +kernel
theorem dX3_findAt_38 : decode cX3_findAt 38 = .ok (.ior, 1) := by decide +kernel
theorem dX3_findAt_39 : decode cX3_findAt 39 = .ok (.ifCond .eq 70, 3) := by decide +kernel
theorem dX3_findAt_42 : decode cX3_findAt 42 = .ok (.aload_n 0, 1) := by decide +kernel
theorem dX3_findAt_43 : decode cX3_findAt 43 = .ok (.getfield 24, 3) := by decide +kernel
theorem dX3_findAt_46 : decode cX3_findAt 46 = .ok (.bipush 48, 2) := by decide +kernel
theorem dX3_findAt_48 : decode cX3_findAt 48 = .ok (.if_icmp .ge 61, 3) := by decide +kernel
theorem dX3_findAt_51 : decode cX3_findAt 51 = .ok (.aload_n 0, 1) := by decide +kernel
theorem dX3_findAt_52 : decode cX3_findAt 52 = .ok (.getfield 9, 3) := by decide +kernel
theorem dX3_findAt_55 : decode cX3_findAt 55 = .ok (.aload_n 0, 1) := by decide +kernel
theorem dX3_findAt_56 : decode cX3_findAt 56 = .ok (.getfield 24, 3) := by decide +kernel
theorem dX3_findAt_59 : decode cX3_findAt 59 = .ok (.iload_n 3, 1) := by decide +kernel
theorem dX3_findAt_60 : decode cX3_findAt 60 = .ok (.iastore, 1) := by decide +kernel
theorem dX3_findAt_61 : decode cX3_findAt 61 = .ok (.aload_n 0, 1) := by decide +kernel
theorem dX3_findAt_62 : decode cX3_findAt 62 = .ok (.getfield 15, 3) := by decide +kernel
theorem dX3_findAt_65 : decode cX3_findAt 65 = .ok (.aload_n 0, 1) := by decide +kernel
theorem dX3_findAt_66 : decode cX3_findAt 66 = .ok (.getfield 24, 3) := by decide +kernel
theorem dX3_findAt_69 : decode cX3_findAt 69 = .ok (.iload_n 3, 1) := by decide +kernel
theorem dX3_findAt_70 : decode cX3_findAt 70 = .ok (.iload 4, 2) := by decide +kernel
theorem dX3_findAt_72 : decode cX3_findAt 72 = .ok (.iadd, 1) := by decide +kernel
theorem dX3_findAt_73 : decode cX3_findAt 73 = .ok (.iastore, 1) := by decide +kernel
theorem dX3_findAt_74 : decode cX3_findAt 74 = .ok (.aload_n 0, 1) := by decide +kernel
theorem dX3_findAt_75 : decode cX3_findAt 75 = .ok (.getfield 18, 3) := by decide +kernel
theorem dX3_findAt_78 : decode cX3_findAt 78 = .ok (.aload_n 0, 1) := by decide +kernel
theorem dX3_findAt_79 : decode cX3_findAt 79 = .ok (.getfield 24, 3) := by decide +kernel
theorem dX3_findAt_82 : decode cX3_findAt 82 = .ok (.iload 6, 2) := by decide +kernel
theorem dX3_findAt_84 : decode cX3_findAt 84 = .ok (.iastore, 1) := by decide +kernel
theorem dX3_findAt_85 : decode cX3_findAt 85 = .ok (.aload_n 0, 1) := by decide +kernel
theorem dX3_findAt_86 : decode cX3_findAt 86 = .ok (.getfield 21, 3) := by decide +kernel
theorem dX3_findAt_89 : decode cX3_findAt 89 = .ok (.aload_n 0, 1) := by decide +kernel
theorem dX3_findAt_90 : decode cX3_findAt 90 = .ok (.getfield 24, 3) := by decide +kernel
theorem dX3_findAt_93 : decode cX3_findAt 93 = .ok (.iload 7, 2) := by decide +kernel
theorem dX3_findAt_95 : decode cX3_findAt 95 = .ok (.iastore, 1) := by decide +kernel
theorem dX3_findAt_96 : decode cX3_findAt 96 = .ok (.aload_n 0, 1) := by decide +kernel
theorem dX3_findAt_97 : decode cX3_findAt 97 = .ok (.dup, 1) := by decide +kernel
theorem dX3_findAt_98 : decode cX3_findAt 98 = .ok (.getfield 24, 3) := by decide +kernel
theorem dX3_findAt_101 : decode cX3_findAt 101 = .ok (.iconst 1, 1) := by decide +kernel
theorem dX3_findAt_102 : decode cX3_findAt 102 = .ok (.iadd, 1) := by decide +kernel
theorem dX3_findAt_103 : decode cX3_findAt 103 = .ok (.putfield 24, 3) := by decide +kernel
theorem dX3_findAt_106 : decode cX3_findAt 106 = .ok (.iload 4, 2) := by decide +kernel
theorem dX3_findAt_108 : decode cX3_findAt 108 = .ok (.ireturn, 1) := by decide +kernel
theorem dX3_findAt_109 : decode cX3_findAt 109 = .ok (.iinc 4 (-1), 3) := by decide +kernel
theorem dX3_findAt_112 : decode cX3_findAt 112 = .ok (.goto (-109), 3) := by decide +kernel
theorem dX3_findAt_115 : decode cX3_findAt 115 = .ok (.iconst 1, 1) := by decide +kernel
theorem dX3_findAt_116 : decode cX3_findAt 116 = .ok (.ireturn, 1) := by decide +kernel
theorem dX4_init_0 : decode cX4_init 0 = .ok (.aload_n 0, 1) := by decide +kernel
theorem dX4_init_1 : decode cX4_init 1 = .ok (.invokespecial 3, 3) := by decide +kernel
theorem dX4_init_4 : decode cX4_init 4 = .ok (.aload_n 0, 1) := by decide +kernel
theorem dX4_init_5 : decode cX4_init 5 = .ok (.bipush 48, 2) := by decide +kernel
theorem dX4_init_7 : decode cX4_init 7 = .ok (.newarray .int, 2) := by decide +kernel
theorem dX4_init_9 : decode cX4_init 9 = .ok (.putfield 9, 3) := by decide +kernel
theorem dX4_init_12 : decode cX4_init 12 = .ok (.aload_n 0, 1) := by decide +kernel
theorem dX4_init_13 : decode cX4_init 13 = .ok (.iconst 0, 1) := by decide +kernel
theorem dX4_init_14 : decode cX4_init 14 = .ok (.putfield 15, 3) := by decide +kernel
theorem dX4_init_17 : decode cX4_init 17 = .ok (.aload_n 0, 1) := by decide +kernel
theorem dX4_init_18 : decode cX4_init 18 = .ok (.iconst (-1), 1) := by decide +kernel
theorem dX4_init_19 : decode cX4_init 19 = .ok (.putfield 19, 3) := by decide +kernel
theorem dX4_init_22 : decode cX4_init 22 = .ok (.return_, 1) := by decide +kernel
theorem dX4_hasPlace_0 : decode cX4_hasPlace 0 = .ok (.iload_n 1, 1) := by decide +kernel
theorem dX4_hasPlace_1 : decode cX4_hasPlace 1 = .ok (.ifCond .lt 15, 3) := by decide +kernel
theorem dX4_hasPlace_4 : decode cX4_hasPlace 4 = .ok (.iload_n 1, 1) := by decide +kernel
theorem dX4_hasPlace_5 : decode cX4_hasPlace 5 = .ok (.aload_n 0, 1) := by decide +kernel
theorem dX4_hasPlace_6 : decode cX4_hasPlace 6 = .ok (.getfield 15, 3) := by decide +kernel
theorem dX4_hasPlace_9 : decode cX4_hasPlace 9 = .ok (.if_icmp .ge 7, 3) := by decide +kernel
theorem dX4_hasPlace_12 : decode cX4_hasPlace 12 = .ok (.iconst 1, 1) := by decide +kernel
theorem dX4_hasPlace_13 : decode cX4_hasPlace 13 = .ok (.goto 4, 3) := by decide +kernel
theorem dX4_hasPlace_16 : decode cX4_hasPlace 16 = .ok (.iconst 0, 1) := by decide +kernel
theorem dX4_hasPlace_17 : decode cX4_hasPlace 17 = .ok (.ireturn, 1) := by decide +kernel
theorem dX4_append_0 : decode cX4_append 0 = .ok (.aload_n 0, 1) := by decide +kernel
theorem dX4_append_1 : decode cX4_append 1 = .ok (.getfield 15, 3) := by decide +kernel
theorem dX4_append_4 : decode cX4_append 4 = .ok (.bipush 48, 2) := by decide +kernel
theorem dX4_append_6 : decode cX4_append 6 = .ok (.if_icmp .ge 23, 3) := by decide +kernel
theorem dX4_append_9 : decode cX4_append 9 = .ok (.aload_n 0, 1) := by decide +kernel
theorem dX4_append_10 : decode cX4_append 10 = .ok (.getfield 9, 3) := by decide +kernel
theorem dX4_append_13 : decode cX4_append 13 = .ok (.aload_n 0, 1) := by decide +kernel
theorem dX4_append_14 : decode cX4_append 14 = .ok (.getfield 15, 3) := by decide +kernel
theorem dX4_append_17 : decode cX4_append 17 = .ok (.iload_n 1, 1) := by decide +kernel
theorem dX4_append_18 : decode cX4_append 18 = .ok (.iastore, 1) := by decide +kernel
theorem dX4_append_19 : decode cX4_append 19 = .ok (.aload_n 0, 1) := by decide +kernel
theorem dX4_append_20 : decode cX4_append 20 = .ok (.dup, 1) := by decide +kernel
theorem dX4_append_21 : decode cX4_append 21 = .ok (.getfield 15, 3) := by decide +kernel
theorem dX4_append_24 : decode cX4_append 24 = .ok (.iconst 1, 1) := by decide +kernel
theorem dX4_append_25 : decode cX4_append 25 = .ok (.iadd, 1) := by decide +kernel
theorem dX4_append_26 : decode cX4_append 26 = .ok (.putfield 15, 3) := by decide +kernel
theorem dX4_append_29 : decode cX4_append 29 = .ok (.return_, 1) := by decide +kernel
theorem dX4_isEscape_0 : decode cX4_isEscape 0 = .ok (.aload_n 0, 1) := by decide +kernel
theorem dX4_isEscape_1 : decode cX4_isEscape 1 = .ok (.iload_n 1, 1) := by decide +kernel
theorem dX4_isEscape_2 : decode cX4_isEscape 2 = .ok (.invokevirtual 22, 3) := by decide +kernel
theorem dX4_isEscape_5 : decode cX4_isEscape 5 = .ok (.ifCond .eq 20, 3) := by decide +kernel
theorem dX4_isEscape_8 : decode cX4_isEscape 8 = .ok (.aload_n 0, 1) := by decide +kernel
theorem dX4_isEscape_9 : decode cX4_isEscape 9 = .ok (.getfield 9, 3) := by decide +kernel
theorem dX4_isEscape_12 : decode cX4_isEscape 12 = .ok (.iload_n 1, 1) := by decide +kernel
theorem dX4_isEscape_13 : decode cX4_isEscape 13 = .ok (.iaload, 1) := by decide +kernel
theorem dX4_isEscape_14 : decode cX4_isEscape 14 = .ok (.aload_n 0, 1) := by decide +kernel
theorem dX4_isEscape_15 : decode cX4_isEscape 15 = .ok (.getfield 19, 3) := by decide +kernel
theorem dX4_isEscape_18 : decode cX4_isEscape 18 = .ok (.if_icmp .ne 7, 3) := by decide +kernel
theorem dX4_isEscape_21 : decode cX4_isEscape 21 = .ok (.iconst 1, 1) := by decide +kernel
theorem dX4_isEscape_22 : decode cX4_isEscape 22 = .ok (.goto 4, 3) := by decide +kernel
theorem dX4_isEscape_25 : decode cX4_isEscape 25 = .ok (.iconst 0, 1) := by decide +kernel
theorem dX4_isEscape_26 : decode cX4_isEscape 26 = .ok (.ireturn, 1) := by decide +kernel
theorem dX4_wordAt_0 : decode cX4_wordAt 0 = .ok (.iload_n 1, 1) := by decide +kernel
theorem dX4_wordAt_1 : decode cX4_wordAt 1 = .ok (.ifCond .lt 18, 3) := by decide +kernel
theorem dX4_wordAt_4 : decode cX4_wordAt 4 = .ok (.iload_n 2, 1) := by decide +kernel
theorem dX4_wordAt_5 : decode cX4_wordAt 5 = .ok (.iconst 1, 1) := by decide +kernel
theorem dX4_wordAt_6 : decode cX4_wordAt 6 = .ok (.if_icmp .lt 13, 3) := by decide +kernel
theorem dX4_wordAt_9 : decode cX4_wordAt 9 = .ok (.iload_n 2, 1) := by decide +kernel
theorem dX4_wordAt_10 : decode cX4_wordAt 10 = .ok (.aload_n 0, 1) := by decide +kernel
theorem dX4_wordAt_11 : decode cX4_wordAt 11 = .ok (.getfield 15, 3) := by decide +kernel
theorem dX4_wordAt_14 : decode cX4_wordAt 14 = .ok (.iload_n 1, 1) := by decide +kernel
theorem dX4_wordAt_15 : decode cX4_wordAt 15 = .ok (.isub, 1) := by decide +kernel
theorem dX4_wordAt_16 : decode cX4_wordAt 16 = .ok (.if_icmp .le 5, 3) := by decide +kernel
theorem dX4_wordAt_19 : decode cX4_wordAt 19 = .ok (.iconst 0, 1) := by decide +kernel
theorem dX4_wordAt_20 : decode cX4_wordAt 20 = .ok (.ireturn, 1) := by decide +kernel
theorem dX4_wordAt_21 : decode cX4_wordAt 21 = .ok (.iconst 0, 1) := by decide +kernel
theorem dX4_wordAt_22 : decode cX4_wordAt 22 = .ok (.istore_n 3, 1) := by decide +kernel
theorem dX4_wordAt_23 : decode cX4_wordAt 23 = .ok (.iload_n 1, 1) := by decide +kernel
theorem dX4_wordAt_24 : decode cX4_wordAt 24 = .ok (.istore 4, 2) := by decide +kernel
theorem dX4_wordAt_26 : decode cX4_wordAt 26 = .ok (.iload 4, 2) := by decide +kernel
theorem dX4_wordAt_28 : decode cX4_wordAt 28 = .ok (.iload_n 1, 1) := by decide +kernel
theorem dX4_wordAt_29 : decode cX4_wordAt 29 = .ok (.iload_n 2, 1) := by decide +kernel
theorem dX4_wordAt_30 : decode cX4_wordAt 30 = .ok (.iadd, 1) := by decide +kernel
theorem dX4_wordAt_31 : decode cX4_wordAt 31 = .ok (.if_icmp .ge 33, 3) := by decide +kernel
theorem dX4_wordAt_34 : decode cX4_wordAt 34 = .ok (.aload_n 0, 1) := by decide +kernel
theorem dX4_wordAt_35 : decode cX4_wordAt 35 = .ok (.iload 4, 2) := by decide +kernel
theorem dX4_wordAt_37 : decode cX4_wordAt 37 = .ok (.invokevirtual 26, 3) := by decide +kernel
theorem dX4_wordAt_40 : decode cX4_wordAt 40 = .ok (.ifCond .eq 5, 3) := by decide +kernel
theorem dX4_wordAt_43 : decode cX4_wordAt 43 = .ok (.iconst 0, 1) := by decide +kernel
theorem dX4_wordAt_44 : decode cX4_wordAt 44 = .ok (.ireturn, 1) := by decide +kernel
theorem dX4_wordAt_45 : decode cX4_wordAt 45 = .ok (.iload_n 3, 1) := by decide +kernel
theorem dX4_wordAt_46 : decode cX4_wordAt 46 = .ok (.bipush 8, 2) := by decide +kernel
theorem dX4_wordAt_48 : decode cX4_wordAt 48 = .ok (.ishl, 1) := by decide +kernel
theorem dX4_wordAt_49 : decode cX4_wordAt 49 = .ok (.aload_n 0, 1) := by decide +kernel
theorem dX4_wordAt_50 : decode cX4_wordAt 50 = .ok (.getfield 9, 3) := by decide +kernel
theorem dX4_wordAt_53 : decode cX4_wordAt 53 = .ok (.iload 4, 2) := by decide +kernel
theorem dX4_wordAt_55 : decode cX4_wordAt 55 = .ok (.iaload, 1) := by decide +kernel
theorem dX4_wordAt_56 : decode cX4_wordAt 56 = .ok (.ior, 1) := by decide +kernel
theorem dX4_wordAt_57 : decode cX4_wordAt 57 = .ok (.istore_n 3, 1) := by decide +kernel
theorem dX4_wordAt_58 : decode cX4_wordAt 58 = .ok (.iinc 4 1, 3) := by decide +kernel
theorem dX4_wordAt_61 : decode cX4_wordAt 61 = .ok (.goto (-35), 3) := by decide +kernel
theorem dX4_wordAt_64 : decode cX4_wordAt 64 = .ok (.iload_n 3, 1) := by decide +kernel
theorem dX4_wordAt_65 : decode cX4_wordAt 65 = .ok (.ireturn, 1) := by decide +kernel
end
section
theorem dX5_init_0 : decode cX5_init 0 = .ok (.aload_n 0, 1) := by decide +kernel
theorem dX5_init_1 : decode cX5_init 1 = .ok (.invokespecial 1, 3) := by decide +kernel
theorem dX5_init_4 : decode cX5_init 4 = .ok (.aload_n 0, 1) := by decide +kernel
theorem dX5_init_5 : decode cX5_init 5 = .ok (.new 7, 3) := by decide +kernel
theorem dX5_init_8 : decode cX5_init 8 = .ok (.dup, 1) := by decide +kernel
theorem dX5_init_9 : decode cX5_init 9 = .ok (.invokespecial 9, 3) := by decide +kernel
theorem dX5_init_12 : decode cX5_init 12 = .ok (.putfield 10, 3) := by decide +kernel
theorem dX5_init_15 : decode cX5_init 15 = .ok (.aload_n 0, 1) := by decide +kernel
theorem dX5_init_16 : decode cX5_init 16 = .ok (.new 16, 3) := by decide +kernel
theorem dX5_init_19 : decode cX5_init 19 = .ok (.dup, 1) := by decide +kernel
theorem dX5_init_20 : decode cX5_init 20 = .ok (.invokespecial 18, 3) := by decide +kernel
theorem dX5_init_23 : decode cX5_init 23 = .ok (.putfield 19, 3) := by decide +kernel
theorem dX5_init_26 : decode cX5_init 26 = .ok (.aload_n 0, 1) := by decide +kernel
theorem dX5_init_27 : decode cX5_init 27 = .ok (.new 23, 3) := by decide +kernel
theorem dX5_init_30 : decode cX5_init 30 = .ok (.dup, 1) := by decide +kernel
theorem dX5_init_31 : decode cX5_init 31 = .ok (.invokespecial 25, 3) := by decide +kernel
theorem dX5_init_34 : decode cX5_init 34 = .ok (.putfield 26, 3) := by decide +kernel
theorem dX5_init_37 : decode cX5_init 37 = .ok (.aload_n 0, 1) := by decide +kernel
theorem dX5_init_38 : decode cX5_init 38 = .ok (.new 30, 3) := by decide +kernel
theorem dX5_init_41 : decode cX5_init 41 = .ok (.dup, 1) := by decide +kernel
theorem dX5_init_42 : decode cX5_init 42 = .ok (.invokespecial 32, 3) := by decide +kernel
theorem dX5_init_45 : decode cX5_init 45 = .ok (.putfield 33, 3) := by decide +kernel
theorem dX5_init_48 : decode cX5_init 48 = .ok (.aload_n 0, 1) := by decide +kernel
theorem dX5_init_49 : decode cX5_init 49 = .ok (.new 37, 3) := by decide +kernel
theorem dX5_init_52 : decode cX5_init 52 = .ok (.dup, 1) := by decide +kernel
theorem dX5_init_53 : decode cX5_init 53 = .ok (.invokespecial 39, 3) := by decide +kernel
theorem dX5_init_56 : decode cX5_init 56 = .ok (.putfield 40, 3) := by decide +kernel
theorem dX5_init_59 : decode cX5_init 59 = .ok (.aload_n 0, 1) := by decide +kernel
theorem dX5_init_60 : decode cX5_init 60 = .ok (.iconst 1, 1) := by decide +kernel
theorem dX5_init_61 : decode cX5_init 61 = .ok (.putfield 44, 3) := by decide +kernel
theorem dX5_init_64 : decode cX5_init 64 = .ok (.return_, 1) := by decide +kernel
theorem dX5_feed_0 : decode cX5_feed 0 = .ok (.iconst 0, 1) := by decide +kernel
theorem dX5_feed_1 : decode cX5_feed 1 = .ok (.istore_n 3, 1) := by decide +kernel
theorem dX5_feed_2 : decode cX5_feed 2 = .ok (.bipush 56, 2) := by decide +kernel
theorem dX5_feed_4 : decode cX5_feed 4 = .ok (.istore 4, 2) := by decide +kernel
theorem dX5_feed_6 : decode cX5_feed 6 = .ok (.iload 4, 2) := by decide +kernel
theorem dX5_feed_8 : decode cX5_feed 8 = .ok (.ifCond .lt 56, 3) := by decide +kernel
theorem dX5_feed_11 : decode cX5_feed 11 = .ok (.lload_n 1, 1) := by decide +kernel
theorem dX5_feed_12 : decode cX5_feed 12 = .ok (.iload 4, 2) := by decide +kernel
theorem dX5_feed_14 : decode cX5_feed 14 = .ok (.lushr, 1) := by decide +kernel
theorem dX5_feed_15 : decode cX5_feed 15 = .ok (.l2i, 1) := by decide +kernel
theorem dX5_feed_16 : decode cX5_feed 16 = .ok (.sipush 255, 3) := by decide +kernel
theorem dX5_feed_19 : decode cX5_feed 19 = .ok (.iand, 1) := by decide +kernel
theorem dX5_feed_20 : decode cX5_feed 20 = .ok (.istore 5, 2) := by decide +kernel
theorem dX5_feed_22 : decode cX5_feed 22 = .ok (.iload 5, 2) := by decide +kernel
theorem dX5_feed_24 : decode cX5_feed 24 = .ok (.ifCond .eq 21, 3) := by decide +kernel
theorem dX5_feed_27 : decode cX5_feed 27 = .ok (.iload 5, 2) := by decide +kernel
theorem dX5_feed_29 : decode cX5_feed 29 = .ok (.invokestatic 48, 3) := by decide +kernel
theorem dX5_feed_32 : decode cX5_feed 32 = .ok (.ifCond .ne 13, 3) := by decide +kernel
theorem dX5_feed_35 : decode cX5_feed 35 = .ok (.new 52, 3) := by decide +kernel
theorem dX5_feed_38 : decode cX5_feed 38 = .ok (.dup, 1) := by decide +kernel
theorem dX5_feed_39 : decode cX5_feed 39 = .ok (.ldc 54, 2) := by decide +kernel
theorem dX5_feed_41 : decode cX5_feed 41 = .ok (.invokespecial 56, 3) := by decide +kernel
theorem dX5_feed_44 : decode cX5_feed 44 = .ok (.athrow, 1) := by decide +kernel
theorem dX5_feed_45 : decode cX5_feed 45 = .ok (.iload_n 3, 1) := by decide +kernel
theorem dX5_feed_46 : decode cX5_feed 46 = .ok (.iload 5, 2) := by decide +kernel
theorem dX5_feed_48 : decode cX5_feed 48 = .ok (.ifCond .eq 7, 3) := by decide +kernel
theorem dX5_feed_51 : decode cX5_feed 51 = .ok (.iconst 1, 1) := by decide +kernel
theorem dX5_feed_52 : decode cX5_feed 52 = .ok (.goto 4, 3) := by decide +kernel
theorem dX5_feed_55 : decode cX5_feed 55 = .ok (.iconst 0, 1) := by decide +kernel
theorem dX5_feed_56 : decode cX5_feed 56 = .ok (.iadd, 1) := by decide +kernel
theorem dX5_feed_57 : decode cX5_feed 57 = .ok (.istore_n 3, 1) := by decide +kernel
theorem dX5_feed_58 : decode cX5_feed 58 = .ok (.iinc 4 (-8), 3) := by decide +kernel
theorem dX5_feed_61 : decode cX5_feed 61 = .ok (.goto (-55), 3) := by decide +kernel
theorem dX5_feed_64 : decode cX5_feed 64 = .ok (.iload_n 3, 1) := by decide +kernel
theorem dX5_feed_65 : decode cX5_feed 65 = .ok (.bipush 48, 2) := by decide +kernel
theorem dX5_feed_67 : decode cX5_feed 67 = .ok (.aload_n 0, 1) := by decide +kernel
theorem dX5_feed_68 : decode cX5_feed 68 = .ok (.getfield 10, 3) := by decide +kernel
theorem dX5_feed_71 : decode cX5_feed 71 = .ok (.getfield 59, 3) := by decide +kernel
theorem dX5_feed_74 : decode cX5_feed 74 = .ok (.isub, 1) := by decide +kernel
theorem dX5_feed_75 : decode cX5_feed 75 = .ok (.if_icmp .le 13, 3) := by decide +kernel
theorem dX5_feed_78 : decode cX5_feed 78 = .ok (.new 63, 3) := by decide +kernel
theorem dX5_feed_81 : decode cX5_feed 81 = .ok (.dup, 1) := by decide +kernel
theorem dX5_feed_82 : decode cX5_feed 82 = .ok (.ldc 65, 2) := by decide +kernel
theorem dX5_feed_84 : decode cX5_feed 84 = .ok (.invokespecial 67, 3) := by decide +kernel
theorem dX5_feed_87 : decode cX5_feed 87 = .ok (.athrow, 1) := by decide +kernel
theorem dX5_feed_88 : decode cX5_feed 88 = .ok (.bipush 56, 2) := by decide +kernel
theorem dX5_feed_90 : decode cX5_feed 90 = .ok (.istore 4, 2) := by decide +kernel
theorem dX5_feed_92 : decode cX5_feed 92 = .ok (.iload 4, 2) := by decide +kernel
theorem dX5_feed_94 : decode cX5_feed 94 = .ok (.ifCond .lt 34, 3) := by decide +kernel
theorem dX5_feed_97 : decode cX5_feed 97 = .ok (.lload_n 1, 1) := by decide +kernel
theorem dX5_feed_98 : decode cX5_feed 98 = .ok (.iload 4, 2) := by decide +kernel
theorem dX5_feed_100 : decode cX5_feed 100 = .ok (.lushr, 1) := by decide +kernel
theorem dX5_feed_101 : decode cX5_feed 101 = .ok (.l2i, 1) := by decide +kernel
theorem dX5_feed_102 : decode cX5_feed 102 = .ok (.sipush 255, 3) := by decide +kernel
theorem dX5_feed_105 : decode cX5_feed 105 = .ok (.iand, 1) := by decide +kernel
theorem dX5_feed_106 : decode cX5_feed 106 = .ok (.istore 5, 2) := by decide +kernel
theorem dX5_feed_108 : decode cX5_feed 108 = .ok (.iload 5, 2) := by decide +kernel
theorem dX5_feed_110 : decode cX5_feed 110 = .ok (.ifCond .eq 12, 3) := by decide +kernel
theorem dX5_feed_113 : decode cX5_feed 113 = .ok (.aload_n 0, 1) := by decide +kernel
theorem dX5_feed_114 : decode cX5_feed 114 = .ok (.getfield 10, 3) := by decide +kernel
theorem dX5_feed_117 : decode cX5_feed 117 = .ok (.iload 5, 2) := by decide +kernel
theorem dX5_feed_119 : decode cX5_feed 119 = .ok (.invokevirtual 68, 3) := by decide +kernel
theorem dX5_feed_122 : decode cX5_feed 122 = .ok (.iinc 4 (-8), 3) := by decide +kernel
theorem dX5_feed_125 : decode cX5_feed 125 = .ok (.goto (-33), 3) := by decide +kernel
theorem dX5_feed_128 : decode cX5_feed 128 = .ok (.aload_n 0, 1) := by decide +kernel
theorem dX5_feed_129 : decode cX5_feed 129 = .ok (.getfield 26, 3) := by decide +kernel
theorem dX5_feed_132 : decode cX5_feed 132 = .ok (.invokevirtual 72, 3) := by decide +kernel
theorem dX5_feed_135 : decode cX5_feed 135 = .ok (.aload_n 0, 1) := by decide +kernel
theorem dX5_feed_136 : decode cX5_feed 136 = .ok (.getfield 10, 3) := by decide +kernel
theorem dX5_feed_139 : decode cX5_feed 139 = .ok (.getfield 59, 3) := by decide +kernel
theorem dX5_feed_142 : decode cX5_feed 142 = .ok (.ireturn, 1) := by decide +kernel
theorem dX5_cut_0 : decode cX5_cut 0 = .ok (.iload_n 1, 1) := by decide +kernel
theorem dX5_cut_1 : decode cX5_cut 1 = .ok (.ifCond .lt 14, 3) := by decide +kernel
theorem dX5_cut_4 : decode cX5_cut 4 = .ok (.iload_n 1, 1) := by decide +kernel
theorem dX5_cut_5 : decode cX5_cut 5 = .ok (.aload_n 0, 1) := by decide +kernel
theorem dX5_cut_6 : decode cX5_cut 6 = .ok (.getfield 10, 3) := by decide +kernel
theorem dX5_cut_9 : decode cX5_cut 9 = .ok (.getfield 59, 3) := by decide +kernel
theorem dX5_cut_12 : decode cX5_cut 12 = .ok (.if_icmp .le 13, 3) := by decide +kernel
theorem dX5_cut_15 : decode cX5_cut 15 = .ok (.new 52, 3) := by decide +kernel
theorem dX5_cut_18 : decode cX5_cut 18 = .ok (.dup, 1) := by decide +kernel
theorem dX5_cut_19 : decode cX5_cut 19 = .ok (.ldc 75, 2) := by decide +kernel
theorem dX5_cut_21 : decode cX5_cut 21 = .ok (.invokespecial 56, 3) := by decide +kernel
theorem dX5_cut_24 : decode cX5_cut 24 = .ok (.athrow, 1) := by decide +kernel
theorem dX5_cut_25 : decode cX5_cut 25 = .ok (.aload_n 0, 1) := by decide +kernel
theorem dX5_cut_26 : decode cX5_cut 26 = .ok (.getfield 10, 3) := by decide +kernel
theorem dX5_cut_29 : decode cX5_cut 29 = .ok (.dup, 1) := by decide +kernel
theorem dX5_cut_30 : decode cX5_cut 30 = .ok (.getfield 59, 3) := by decide +kernel
theorem dX5_cut_33 : decode cX5_cut 33 = .ok (.iload_n 1, 1) := by decide +kernel
theorem dX5_cut_34 : decode cX5_cut 34 = .ok (.isub, 1) := by decide +kernel
theorem dX5_cut_35 : decode cX5_cut 35 = .ok (.putfield 59, 3) := by decide +kernel
theorem dX5_cut_38 : decode cX5_cut 38 = .ok (.aload_n 0, 1) := by decide +kernel
theorem dX5_cut_39 : decode cX5_cut 39 = .ok (.getfield 26, 3) := by decide +kernel
theorem dX5_cut_42 : decode cX5_cut 42 = .ok (.invokevirtual 72, 3) := by decide +kernel
theorem dX5_cut_45 : decode cX5_cut 45 = .ok (.aload_n 0, 1) := by decide +kernel
theorem dX5_cut_46 : decode cX5_cut 46 = .ok (.getfield 10, 3) := by decide +kernel
theorem dX5_cut_49 : decode cX5_cut 49 = .ok (.getfield 59, 3) := by decide +kernel
theorem dX5_cut_52 : decode cX5_cut 52 = .ok (.ireturn, 1) := by decide +kernel
theorem dX5_set_0 : decode cX5_set 0 = .ok (.aload_n 0, 1) := by decide +kernel
theorem dX5_set_1 : decode cX5_set 1 = .ok (.iload_n 1, 1) := by decide +kernel
theorem dX5_set_2 : decode cX5_set 2 = .ok (.invokevirtual 77, 3) := by decide +kernel
theorem dX5_set_5 : decode cX5_set 5 = .ok (.iload_n 2, 1) := by decide +kernel
theorem dX5_set_6 : decode cX5_set 6 = .ok (.invokestatic 48, 3) := by decide +kernel
theorem dX5_set_9 : decode cX5_set 9 = .ok (.ifCond .ne 13, 3) := by decide +kernel
theorem dX5_set_12 : decode cX5_set 12 = .ok (.new 52, 3) := by decide +kernel
theorem dX5_set_15 : decode cX5_set 15 = .ok (.dup, 1) := by decide +kernel
theorem dX5_set_16 : decode cX5_set 16 = .ok (.ldc 80, 2) := by decide +kernel
theorem dX5_set_18 : decode cX5_set 18 = .ok (.invokespecial 56, 3) := by decide +kernel
theorem dX5_set_21 : decode cX5_set 21 = .ok (.athrow, 1) := by decide +kernel
theorem dX5_set_22 : decode cX5_set 22 = .ok (.aload_n 0, 1) := by decide +kernel
theorem dX5_set_23 : decode cX5_set 23 = .ok (.getfield 10, 3) := by decide +kernel
theorem dX5_set_26 : decode cX5_set 26 = .ok (.getfield 82, 3) := by decide +kernel
theorem dX5_set_29 : decode cX5_set 29 = .ok (.iload_n 1, 1) := by decide +kernel
theorem dX5_set_30 : decode cX5_set 30 = .ok (.iaload, 1) := by decide +kernel
theorem dX5_set_31 : decode cX5_set 31 = .ok (.istore_n 3, 1) := by decide +kernel
theorem dX5_set_32 : decode cX5_set 32 = .ok (.aload_n 0, 1) := by decide +kernel
theorem dX5_set_33 : decode cX5_set 33 = .ok (.getfield 10, 3) := by decide +kernel
theorem dX5_set_36 : decode cX5_set 36 = .ok (.getfield 82, 3) := by decide +kernel
theorem dX5_set_39 : decode cX5_set 39 = .ok (.iload_n 1, 1) := by decide +kernel
theorem dX5_set_40 : decode cX5_set 40 = .ok (.iload_n 2, 1) := by decide +kernel
theorem dX5_set_41 : decode cX5_set 41 = .ok (.iastore, 1) := by decide +kernel
theorem dX5_set_42 : decode cX5_set 42 = .ok (.aload_n 0, 1) := by decide +kernel
theorem dX5_set_43 : decode cX5_set 43 = .ok (.getfield 26, 3) := by decide +kernel
theorem dX5_set_46 : decode cX5_set 46 = .ok (.invokevirtual 72, 3) := by decide +kernel
theorem dX5_set_49 : decode cX5_set 49 = .ok (.iload_n 3, 1) := by decide +kernel
theorem dX5_set_50 : decode cX5_set 50 = .ok (.ireturn, 1) := by decide +kernel
theorem dX5_size_0 : decode cX5_size 0 = .ok (.aload_n 0, 1) := by decide +kernel
theorem dX5_size_1 : decode cX5_size 1 = .ok (.getfield 10, 3) := by decide +kernel
theorem dX5_size_4 : decode cX5_size 4 = .ok (.getfield 59, 3) := by decide +kernel
theorem dX5_size_7 : decode cX5_size 7 = .ok (.ireturn, 1) := by decide +kernel
theorem dX5_byteAt_0 : decode cX5_byteAt 0 = .ok (.aload_n 0, 1) := by decide +kernel
theorem dX5_byteAt_1 : decode cX5_byteAt 1 = .ok (.iload_n 1, 1) := by decide +kernel
theorem dX5_byteAt_2 : decode cX5_byteAt 2 = .ok (.invokevirtual 77, 3) := by decide +kernel
theorem dX5_byteAt_5 : decode cX5_byteAt 5 = .ok (.aload_n 0, 1) := by decide +kernel
theorem dX5_byteAt_6 : decode cX5_byteAt 6 = .ok (.getfield 10, 3) := by decide +kernel
theorem dX5_byteAt_9 : decode cX5_byteAt 9 = .ok (.getfield 82, 3) := by decide +kernel
theorem dX5_byteAt_12 : decode cX5_byteAt 12 = .ok (.iload_n 1, 1) := by decide +kernel
theorem dX5_byteAt_13 : decode cX5_byteAt 13 = .ok (.iaload, 1) := by decide +kernel
theorem dX5_byteAt_14 : decode cX5_byteAt 14 = .ok (.ireturn, 1) := by decide +kernel
theorem dX5_setEscape_0 : decode cX5_setEscape 0 = .ok (.iload_n 1, 1) := by decide +kernel
theorem dX5_setEscape_1 : decode cX5_setEscape 1 = .ok (.iconst (-1), 1) := by decide +kernel
theorem dX5_setEscape_2 : decode cX5_setEscape 2 = .ok (.if_icmp .eq 20, 3) := by decide +kernel
theorem dX5_setEscape_5 : decode cX5_setEscape 5 = .ok (.iload_n 1, 1) := by decide +kernel
theorem dX5_setEscape_6 : decode cX5_setEscape 6 = .ok (.invokestatic 48, 3) := by decide +kernel
theorem dX5_setEscape_9 : decode cX5_setEscape 9 = .ok (.ifCond .ne 13, 3) := by decide +kernel
theorem dX5_setEscape_12 : decode cX5_setEscape 12 = .ok (.new 52, 3) := by decide +kernel
theorem dX5_setEscape_15 : decode cX5_setEscape 15 = .ok (.dup, 1) := by decide +kernel
theorem dX5_setEscape_16 : decode cX5_setEscape 16 = .ok (.ldc 86, 2) := by decide +kernel
theorem dX5_setEscape_18 : decode cX5_setEscape 18 = .ok (.invokespecial 56, 3) := by decide +kernel
theorem dX5_setEscape_21 : decode cX5_setEscape 21 = .ok (.athrow, 1) := by decide +kernel
theorem dX5_setEscape_22 : decode cX5_setEscape 22 = .ok (.aload_n 0, 1) := by decide +kernel
theorem dX5_setEscape_23 : decode cX5_setEscape 23 = .ok (.getfield 10, 3) := by decide +kernel
theorem dX5_setEscape_26 : decode cX5_setEscape 26 = .ok (.getfield 88, 3) := by decide +kernel
theorem dX5_setEscape_29 : decode cX5_setEscape 29 = .ok (.istore_n 2, 1) := by decide +kernel
theorem dX5_setEscape_30 : decode cX5_setEscape 30 = .ok (.aload_n 0, 1) := by decide +kernel
theorem dX5_setEscape_31 : decode cX5_setEscape 31 = .ok (.getfield 10, 3) := by decide +kernel
theorem dX5_setEscape_34 : decode cX5_setEscape 34 = .ok (.iload_n 1, 1) := by decide +kernel
theorem dX5_setEscape_35 : decode cX5_setEscape 35 = .ok (.putfield 88, 3) := by decide +kernel
theorem dX5_setEscape_38 : decode cX5_setEscape 38 = .ok (.aload_n 0, 1) := by decide +kernel
theorem dX5_setEscape_39 : decode cX5_setEscape 39 = .ok (.getfield 26, 3) := by decide +kernel
theorem dX5_setEscape_42 : decode cX5_setEscape 42 = .ok (.invokevirtual 72, 3) := by decide +kernel
theorem dX5_setEscape_45 : decode cX5_setEscape 45 = .ok (.iload_n 2, 1) := by decide +kernel
theorem dX5_setEscape_46 : decode cX5_setEscape 46 = .ok (.ireturn, 1) := by decide +kernel
theorem dX5_setWord_0 : decode cX5_setWord 0 = .ok (.aload_n 0, 1) := by decide +kernel
theorem dX5_setWord_1 : decode cX5_setWord 1 = .ok (.iload_n 1, 1) := by decide +kernel
theorem dX5_setWord_2 : decode cX5_setWord 2 = .ok (.invokevirtual 91, 3) := by decide +kernel
theorem dX5_setWord_5 : decode cX5_setWord 5 = .ok (.iload 4, 2) := by decide +kernel
theorem dX5_setWord_7 : decode cX5_setWord 7 = .ok (.ifCond .lt 9, 3) := by decide +kernel
theorem dX5_setWord_10 : decode cX5_setWord 10 = .ok (.iload 4, 2) := by decide +kernel
theorem dX5_setWord_12 : decode cX5_setWord 12 = .ok (.iconst 3, 1) := by decide +kernel
theorem dX5_setWord_13 : decode cX5_setWord 13 = .ok (.if_icmp .le 13, 3) := by decide +kernel
theorem dX5_setWord_16 : decode cX5_setWord 16 = .ok (.new 52, 3) := by decide +kernel
theorem dX5_setWord_19 : decode cX5_setWord 19 = .ok (.dup, 1) := by decide +kernel
theorem dX5_setWord_20 : decode cX5_setWord 20 = .ok (.ldc 94, 2) := by decide +kernel
theorem dX5_setWord_22 : decode cX5_setWord 22 = .ok (.invokespecial 56, 3) := by decide +kernel
theorem dX5_setWord_25 : decode cX5_setWord 25 = .ok (.athrow, 1) := by decide +kernel
theorem dX5_setWord_26 : decode cX5_setWord 26 = .ok (.iconst 0, 1) := by decide +kernel
theorem dX5_setWord_27 : decode cX5_setWord 27 = .ok (.istore 5, 2) := by decide +kernel
theorem dX5_setWord_29 : decode cX5_setWord 29 = .ok (.bipush 8, 2) := by decide +kernel
theorem dX5_setWord_31 : decode cX5_setWord 31 = .ok (.iload 4, 2) := by decide +kernel
theorem dX5_setWord_33 : decode cX5_setWord 33 = .ok (.iconst 1, 1) := by decide +kernel
theorem dX5_setWord_34 : decode cX5_setWord 34 = .ok (.isub, 1) := by decide +kernel
theorem dX5_setWord_35 : decode cX5_setWord 35 = .ok (.imul, 1) := by decide +kernel
theorem dX5_setWord_36 : decode cX5_setWord 36 = .ok (.istore 6, 2) := by decide +kernel
theorem dX5_setWord_38 : decode cX5_setWord 38 = .ok (.iload 6, 2) := by decide +kernel
theorem dX5_setWord_40 : decode cX5_setWord 40 = .ok (.ifCond .lt 47, 3) := by decide +kernel
theorem dX5_setWord_43 : decode cX5_setWord 43 = .ok (.iload_n 3, 1) := by decide +kernel
theorem dX5_setWord_44 : decode cX5_setWord 44 = .ok (.iload 6, 2) := by decide +kernel
theorem dX5_setWord_46 : decode cX5_setWord 46 = .ok (.iushr, 1) := by decide +kernel
theorem dX5_setWord_47 : decode cX5_setWord 47 = .ok (.sipush 255, 3) := by decide +kernel
theorem dX5_setWord_50 : decode cX5_setWord 50 = .ok (.iand, 1) := by decide +kernel
theorem dX5_setWord_51 : decode cX5_setWord 51 = .ok (.istore 7, 2) := by decide +kernel
theorem dX5_setWord_53 : decode cX5_setWord 53 = .ok (.iload 7, 2) := by decide +kernel
theorem dX5_setWord_55 : decode cX5_setWord 55 = .ok (.invokestatic 48, 3) := by decide +kernel
theorem dX5_setWord_58 : decode cX5_setWord 58 = .ok (.ifCond .ne 13, 3) := by decide +kernel
theorem dX5_setWord_61 : decode cX5_setWord 61 = .ok (.new 52, 3) := by decide +kernel
theorem dX5_setWord_64 : decode cX5_setWord 64 = .ok (.dup, 1) := by decide +kernel
theorem dX5_setWord_65 : decode cX5_setWord 65 = .ok (.ldc 96, 2) := by decide +kernel
theorem dX5_setWord_67 : decode cX5_setWord 67 = .ok (.invokespecial 56, 3) := by decide +kernel
theorem dX5_setWord_70 : decode cX5_setWord 70 = .ok (.athrow, 1) := by decide +kernel
theorem dX5_setWord_71 : decode cX5_setWord 71 = .ok (.iload 5, 2) := by decide +kernel
theorem dX5_setWord_73 : decode cX5_setWord 73 = .ok (.bipush 8, 2) := by decide +kernel
theorem dX5_setWord_75 : decode cX5_setWord 75 = .ok (.ishl, 1) := by decide +kernel
theorem dX5_setWord_76 : decode cX5_setWord 76 = .ok (.iload 7, 2) := by decide +kernel
theorem dX5_setWord_78 : decode cX5_setWord 78 = .ok (.ior, 1) := by decide +kernel
theorem dX5_setWord_79 : decode cX5_setWord 79 = .ok (.istore 5, 2) := by decide +kernel
theorem dX5_setWord_81 : decode cX5_setWord 81 = .ok (.iinc 6 (-8), 3) := by decide +kernel
theorem dX5_setWord_84 : decode cX5_setWord 84 = .ok (.goto (-46), 3) := by decide +kernel
theorem dX5_setWord_87 : decode cX5_setWord 87 = .ok (.iload_n 2, 1) := by decide +kernel
theorem dX5_setWord_88 : decode cX5_setWord 88 = .ok (.ifCond .eq 17, 3) := by decide +kernel
theorem dX5_setWord_91 : decode cX5_setWord 91 = .ok (.aload_n 0, 1) := by decide +kernel
theorem dX5_setWord_92 : decode cX5_setWord 92 = .ok (.getfield 19, 3) := by decide +kernel
theorem dX5_setWord_95 : decode cX5_setWord 95 = .ok (.getfield 98, 3) := by decide +kernel
theorem dX5_setWord_98 : decode cX5_setWord 98 = .ok (.iload_n 1, 1) := by decide +kernel
theorem dX5_setWord_99 : decode cX5_setWord 99 = .ok (.iload 5, 2) := by decide +kernel
theorem dX5_setWord_101 : decode cX5_setWord 101 = .ok (.iastore, 1) := by decide +kernel
theorem dX5_setWord_102 : decode cX5_setWord 102 = .ok (.goto 14, 3) := by decide +kernel
theorem dX5_setWord_105 : decode cX5_setWord 105 = .ok (.aload_n 0, 1) := by decide +kernel
theorem dX5_setWord_106 : decode cX5_setWord 106 = .ok (.getfield 19, 3) := by decide +kernel
theorem dX5_setWord_109 : decode cX5_setWord 109 = .ok (.getfield 101, 3) := by decide +kernel
theorem dX5_setWord_112 : decode cX5_setWord 112 = .ok (.iload_n 1, 1) := by decide +kernel
theorem dX5_setWord_113 : decode cX5_setWord 113 = .ok (.iload 5, 2) := by decide +kernel
theorem dX5_setWord_115 : decode cX5_setWord 115 = .ok (.iastore, 1) := by decide +kernel
theorem dX5_setWord_116 : decode cX5_setWord 116 = .ok (.aload_n 0, 1) := by decide +kernel
theorem dX5_setWord_117 : decode cX5_setWord 117 = .ok (.getfield 26, 3) := by decide +kernel
theorem dX5_setWord_120 : decode cX5_setWord 120 = .ok (.invokevirtual 72, 3) := by decide +kernel
theorem dX5_setWord_123 : decode cX5_setWord 123 = .ok (.aload_n 0, 1) := by decide +kernel
theorem dX5_setWord_124 : decode cX5_setWord 124 = .ok (.getfield 19, 3) := by decide +kernel
theorem dX5_setWord_127 : decode cX5_setWord 127 = .ok (.iload_n 1, 1) := by decide +kernel
theorem dX5_setWord_128 : decode cX5_setWord 128 = .ok (.invokevirtual 104, 3) := by decide +kernel
theorem dX5_setWord_131 : decode cX5_setWord 131 = .ok (.ireturn, 1) := by decide +kernel
theorem dX5_setKind_0 : decode cX5_setKind 0 = .ok (.aload_n 0, 1) := by decide +kernel
theorem dX5_setKind_1 : decode cX5_setKind 1 = .ok (.iload_n 1, 1) := by decide +kernel
theorem dX5_setKind_2 : decode cX5_setKind 2 = .ok (.invokevirtual 91, 3) := by decide +kernel
theorem dX5_setKind_5 : decode cX5_setKind 5 = .ok (.iload 4, 2) := by decide +kernel
theorem dX5_setKind_7 : decode cX5_setKind 7 = .ok (.ifCond .lt 10, 3) := by decide +kernel
theorem dX5_setKind_10 : decode cX5_setKind 10 = .ok (.iload 4, 2) := by decide +kernel
theorem dX5_setKind_12 : decode cX5_setKind 12 = .ok (.bipush 63, 2) := by decide +kernel
theorem dX5_setKind_14 : decode cX5_setKind 14 = .ok (.if_icmp .le 13, 3) := by decide +kernel
theorem dX5_setKind_17 : decode cX5_setKind 17 = .ok (.new 52, 3) := by decide +kernel
theorem dX5_setKind_20 : decode cX5_setKind 20 = .ok (.dup, 1) := by decide +kernel
theorem dX5_setKind_21 : decode cX5_setKind 21 = .ok (.ldc 107, 2) := by decide +kernel
theorem dX5_setKind_23 : decode cX5_setKind 23 = .ok (.invokespecial 56, 3) := by decide +kernel
theorem dX5_setKind_26 : decode cX5_setKind 26 = .ok (.athrow, 1) := by decide +kernel
theorem dX5_setKind_27 : decode cX5_setKind 27 = .ok (.aload_n 0, 1) := by decide +kernel
theorem dX5_setKind_28 : decode cX5_setKind 28 = .ok (.getfield 19, 3) := by decide +kernel
theorem dX5_setKind_31 : decode cX5_setKind 31 = .ok (.getfield 109, 3) := by decide +kernel
theorem dX5_setKind_34 : decode cX5_setKind 34 = .ok (.iload_n 1, 1) := by decide +kernel
theorem dX5_setKind_35 : decode cX5_setKind 35 = .ok (.iaload, 1) := by decide +kernel
theorem dX5_setKind_36 : decode cX5_setKind 36 = .ok (.istore 5, 2) := by decide +kernel
theorem dX5_setKind_38 : decode cX5_setKind 38 = .ok (.aload_n 0, 1) := by decide +kernel
theorem dX5_setKind_39 : decode cX5_setKind 39 = .ok (.getfield 19, 3) := by decide +kernel
theorem dX5_setKind_42 : decode cX5_setKind 42 = .ok (.getfield 109, 3) := by decide +kernel
theorem dX5_setKind_45 : decode cX5_setKind 45 = .ok (.iload_n 1, 1) := by decide +kernel
theorem dX5_setKind_46 : decode cX5_setKind 46 = .ok (.iload 4, 2) := by decide +kernel
theorem dX5_setKind_48 : decode cX5_setKind 48 = .ok (.iastore, 1) := by decide +kernel
theorem dX5_setKind_49 : decode cX5_setKind 49 = .ok (.aload_n 0, 1) := by decide +kernel
theorem dX5_setKind_50 : decode cX5_setKind 50 = .ok (.getfield 19, 3) := by decide +kernel
theorem dX5_setKind_53 : decode cX5_setKind 53 = .ok (.aload_n 0, 1) := by decide +kernel
theorem dX5_setKind_54 : decode cX5_setKind 54 = .ok (.getfield 19, 3) := by decide +kernel
theorem dX5_setKind_57 : decode cX5_setKind 57 = .ok (.getfield 112, 3) := by decide +kernel
theorem dX5_setKind_60 : decode cX5_setKind 60 = .ok (.iload_n 1, 1) := by decide +kernel
theorem dX5_setKind_61 : decode cX5_setKind 61 = .ok (.iload_n 2, 1) := by decide +kernel
theorem dX5_setKind_62 : decode cX5_setKind 62 = .ok (.invokestatic 115, 3) := by decide +kernel
theorem dX5_setKind_65 : decode cX5_setKind 65 = .ok (.putfield 112, 3) := by decide +kernel
theorem dX5_setKind_68 : decode cX5_setKind 68 = .ok (.aload_n 0, 1) := by decide +kernel
theorem dX5_setKind_69 : decode cX5_setKind 69 = .ok (.getfield 19, 3) := by decide +kernel
theorem dX5_setKind_72 : decode cX5_setKind 72 = .ok (.aload_n 0, 1) := by decide +kernel
theorem dX5_setKind_73 : decode cX5_setKind 73 = .ok (.getfield 19, 3) := by decide +kernel
theorem dX5_setKind_76 : decode cX5_setKind 76 = .ok (.getfield 119, 3) := by decide +kernel
theorem dX5_setKind_79 : decode cX5_setKind 79 = .ok (.iload_n 1, 1) := by decide +kernel
theorem dX5_setKind_80 : decode cX5_setKind 80 = .ok (.iload_n 3, 1) := by decide +kernel
theorem dX5_setKind_81 : decode cX5_setKind 81 = .ok (.invokestatic 115, 3) := by decide +kernel
theorem dX5_setKind_84 : decode cX5_setKind 84 = .ok (.putfield 119, 3) := by decide +kernel
theorem dX5_setKind_87 : decode cX5_setKind 87 = .ok (.aload_n 0, 1) := by decide +kernel
theorem dX5_setKind_88 : decode cX5_setKind 88 = .ok (.getfield 26, 3) := by decide +kernel
theorem dX5_setKind_91 : decode cX5_setKind 91 = .ok (.invokevirtual 72, 3) := by decide +kernel
theorem dX5_setKind_94 : decode cX5_setKind 94 = .ok (.iload 5, 2) := by decide +kernel
theorem dX5_setKind_96 : decode cX5_setKind 96 = .ok (.ireturn, 1) := by decide +kernel
theorem dX5_setLenient_0 : decode cX5_setLenient 0 = .ok (.aload_n 0, 1) := by decide +kernel
theorem dX5_setLenient_1 : decode cX5_setLenient 1 = .ok (.getfield 44, 3) := by decide +kernel
theorem dX5_setLenient_4 : decode cX5_setLenient 4 = .ok (.istore_n 2, 1) := by decide +kernel
theorem dX5_setLenient_5 : decode cX5_setLenient 5 = .ok (.aload_n 0, 1) := by decide +kernel
theorem dX5_setLenient_6 : decode cX5_setLenient 6 = .ok (.iload_n 1, 1) := by decide +kernel
theorem dX5_setLenient_7 : decode cX5_setLenient 7 = .ok (.putfield 44, 3) := by decide +kernel
theorem dX5_setLenient_10 : decode cX5_setLenient 10 = .ok (.aload_n 0, 1) := by decide +kernel
theorem dX5_setLenient_11 : decode cX5_setLenient 11 = .ok (.getfield 26, 3) := by decide +kernel
theorem dX5_setLenient_14 : decode cX5_setLenient 14 = .ok (.invokevirtual 72, 3) := by decide +kernel
theorem dX5_setLenient_17 : decode cX5_setLenient 17 = .ok (.iload_n 2, 1) := by decide +kernel
theorem dX5_setLenient_18 : decode cX5_setLenient 18 = .ok (.ireturn, 1) := by decide +kernel
theorem dX5_quick_0 : decode cX5_quick 0 = .ok (.aload_n 0, 1) := by decide +kernel
theorem dX5_quick_1 : decode cX5_quick 1 = .ok (.getfield 26, 3) := by decide +kernel
theorem dX5_quick_4 : decode cX5_quick 4 = .ok (.invokevirtual 122, 3) := by decide +kernel
theorem dX5_quick_7 : decode cX5_quick 7 = .ok (.iconst 0, 1) := by decide +kernel
theorem dX5_quick_8 : decode cX5_quick 8 = .ok (.istore_n 1, 1) := by decide +kernel
theorem dX5_quick_9 : decode cX5_quick 9 = .ok (.iconst 0, 1) := by decide +kernel
theorem dX5_quick_10 : decode cX5_quick 10 = .ok (.istore_n 2, 1) := by decide +kernel
theorem dX5_quick_11 : decode cX5_quick 11 = .ok (.iload_n 2, 1) := by decide +kernel
theorem dX5_quick_12 : decode cX5_quick 12 = .ok (.aload_n 0, 1) := by decide +kernel
theorem dX5_quick_13 : decode cX5_quick 13 = .ok (.getfield 10, 3) := by decide +kernel
theorem dX5_quick_16 : decode cX5_quick 16 = .ok (.getfield 59, 3) := by decide +kernel
theorem dX5_quick_19 : decode cX5_quick 19 = .ok (.if_icmp .ge 37, 3) := by decide +kernel
theorem dX5_quick_22 : decode cX5_quick 22 = .ok (.iload_n 2, 1) := by decide +kernel
theorem dX5_quick_23 : decode cX5_quick 23 = .ok (.iload_n 1, 1) := by decide +kernel
theorem dX5_quick_24 : decode cX5_quick 24 = .ok (.if_icmp .ne 26, 3) := by decide +kernel
theorem dX5_quick_27 : decode cX5_quick 27 = .ok (.iload_n 2, 1) := by decide +kernel
theorem dX5_quick_28 : decode cX5_quick 28 = .ok (.aload_n 0, 1) := by decide +kernel
theorem dX5_quick_29 : decode cX5_quick 29 = .ok (.getfield 10, 3) := by decide +kernel
theorem dX5_quick_32 : decode cX5_quick 32 = .ok (.iload_n 2, 1) := by decide +kernel
theorem dX5_quick_33 : decode cX5_quick 33 = .ok (.invokevirtual 125, 3) := by decide +kernel
theorem dX5_quick_36 : decode cX5_quick 36 = .ok (.ifCond .eq 7, 3) := by decide +kernel
theorem dX5_quick_39 : decode cX5_quick 39 = .ok (.iconst 2, 1) := by decide +kernel
theorem dX5_quick_40 : decode cX5_quick 40 = .ok (.goto 8, 3) := by decide +kernel
theorem dX5_quick_43 : decode cX5_quick 43 = .ok (.aload_n 0, 1) := by decide +kernel
theorem dX5_quick_44 : decode cX5_quick 44 = .ok (.iload_n 2, 1) := by decide +kernel
theorem dX5_quick_45 : decode cX5_quick 45 = .ok (.invokevirtual 128, 3) := by decide +kernel
theorem dX5_quick_48 : decode cX5_quick 48 = .ok (.iadd, 1) := by decide +kernel
theorem dX5_quick_49 : decode cX5_quick 49 = .ok (.istore_n 1, 1) := by decide +kernel
theorem dX5_quick_50 : decode cX5_quick 50 = .ok (.iinc 2 1, 3) := by decide +kernel
theorem dX5_quick_53 : decode cX5_quick 53 = .ok (.goto (-42), 3) := by decide +kernel
theorem dX5_quick_56 : decode cX5_quick 56 = .ok (.aload_n 0, 1) := by decide +kernel
theorem dX5_quick_57 : decode cX5_quick 57 = .ok (.aload_n 0, 1) := by decide +kernel
theorem dX5_quick_58 : decode cX5_quick 58 = .ok (.getfield 26, 3) := by decide +kernel
theorem dX5_quick_61 : decode cX5_quick 61 = .ok (.getfield 132, 3) := by decide +kernel
theorem dX5_quick_64 : decode cX5_quick 64 = .ok (.aload_n 0, 1) := by decide +kernel
theorem dX5_quick_65 : decode cX5_quick 65 = .ok (.getfield 10, 3) := by decide +kernel
theorem dX5_quick_68 : decode cX5_quick 68 = .ok (.getfield 59, 3) := by decide +kernel
theorem dX5_quick_71 : decode cX5_quick 71 = .ok (.iconst 2, 1) := by decide +kernel
theorem dX5_quick_72 : decode cX5_quick 72 = .ok (.invokevirtual 135, 3) := by decide +kernel
theorem dX5_quick_75 : decode cX5_quick 75 = .ok (.aload_n 0, 1) := by decide +kernel
theorem dX5_quick_76 : decode cX5_quick 76 = .ok (.getfield 26, 3) := by decide +kernel
theorem dX5_quick_79 : decode cX5_quick 79 = .ok (.getfield 139, 3) := by decide +kernel
theorem dX5_quick_82 : decode cX5_quick 82 = .ok (.ireturn, 1) := by decide +kernel
theorem dX5_best_0 : decode cX5_best 0 = .ok (.aload_n 0, 1) := by decide +kernel
theorem dX5_best_1 : decode cX5_best 1 = .ok (.getfield 33, 3) := by decide +kernel
theorem dX5_best_4 : decode cX5_best 4 = .ok (.aload_n 0, 1) := by decide +kernel
theorem dX5_best_5 : decode cX5_best 5 = .ok (.getfield 10, 3) := by decide +kernel
theorem dX5_best_8 : decode cX5_best 8 = .ok (.aload_n 0, 1) := by decide +kernel
theorem dX5_best_9 : decode cX5_best 9 = .ok (.getfield 19, 3) := by decide +kernel
theorem dX5_best_12 : decode cX5_best 12 = .ok (.invokevirtual 140, 3) := by decide +kernel
theorem dX5_best_15 : decode cX5_best 15 = .ok (.aload_n 0, 1) := by decide +kernel
theorem dX5_best_16 : decode cX5_best 16 = .ok (.getfield 40, 3) := by decide +kernel
theorem dX5_best_19 : decode cX5_best 19 = .ok (.aload_n 0, 1) := by decide +kernel
theorem dX5_best_20 : decode cX5_best 20 = .ok (.getfield 33, 3) := by decide +kernel
theorem dX5_best_23 : decode cX5_best 23 = .ok (.aload_n 0, 1) := by decide +kernel
theorem dX5_best_24 : decode cX5_best 24 = .ok (.getfield 19, 3) := by decide +kernel
theorem dX5_best_27 : decode cX5_best 27 = .ok (.invokevirtual 144, 3) := by decide +kernel
theorem dX5_best_30 : decode cX5_best 30 = .ok (.aload_n 0, 1) := by decide +kernel
theorem dX5_best_31 : decode cX5_best 31 = .ok (.getfield 40, 3) := by decide +kernel
theorem dX5_best_34 : decode cX5_best 34 = .ok (.aload_n 0, 1) := by decide +kernel
theorem dX5_best_35 : decode cX5_best 35 = .ok (.getfield 33, 3) := by decide +kernel
theorem dX5_best_38 : decode cX5_best 38 = .ok (.aload_n 0, 1) := by decide +kernel
theorem dX5_best_39 : decode cX5_best 39 = .ok (.getfield 19, 3) := by decide +kernel
theorem dX5_best_42 : decode cX5_best 42 = .ok (.aload_n 0, 1) := by decide +kernel
theorem dX5_best_43 : decode cX5_best 43 = .ok (.getfield 26, 3) := by decide +kernel
theorem dX5_best_46 : decode cX5_best 46 = .ok (.invokevirtual 148, 3) := by decide +kernel
theorem dX5_best_49 : decode cX5_best 49 = .ok (.aload_n 0, 1) := by decide +kernel
theorem dX5_best_50 : decode cX5_best 50 = .ok (.getfield 26, 3) := by decide +kernel
theorem dX5_best_53 : decode cX5_best 53 = .ok (.getfield 152, 3) := by decide +kernel
theorem dX5_best_56 : decode cX5_best 56 = .ok (.ireturn, 1) := by decide +kernel
theorem dX5_hasReading_0 : decode cX5_hasReading 0 = .ok (.aload_n 0, 1) := by decide +kernel
theorem dX5_hasReading_1 : decode cX5_hasReading 1 = .ok (.getfield 26, 3) := by decide +kernel
theorem dX5_hasReading_4 : decode cX5_hasReading 4 = .ok (.getfield 155, 3) := by decide +kernel
theorem dX5_hasReading_7 : decode cX5_hasReading 7 = .ok (.ireturn, 1) := by decide +kernel
theorem dX5_markCount_0 : decode cX5_markCount 0 = .ok (.aload_n 0, 1) := by decide +kernel
theorem dX5_markCount_1 : decode cX5_markCount 1 = .ok (.getfield 33, 3) := by decide +kernel
theorem dX5_markCount_4 : decode cX5_markCount 4 = .ok (.aload_n 0, 1) := by decide +kernel
theorem dX5_markCount_5 : decode cX5_markCount 5 = .ok (.getfield 10, 3) := by decide +kernel
theorem dX5_markCount_8 : decode cX5_markCount 8 = .ok (.aload_n 0, 1) := by decide +kernel
theorem dX5_markCount_9 : decode cX5_markCount 9 = .ok (.getfield 19, 3) := by decide +kernel
theorem dX5_markCount_12 : decode cX5_markCount 12 = .ok (.invokevirtual 140, 3) := by decide +kernel
theorem dX5_markCount_15 : decode cX5_markCount 15 = .ok (.aload_n 0, 1) := by decide +kernel
theorem dX5_markCount_16 : decode cX5_markCount 16 = .ok (.getfield 33, 3) := by decide +kernel
theorem dX5_markCount_19 : decode cX5_markCount 19 = .ok (.getfield 158, 3) := by decide +kernel
theorem dX5_markCount_22 : decode cX5_markCount 22 = .ok (.ireturn, 1) := by decide +kernel
theorem dX5_mark_0 : decode cX5_mark 0 = .ok (.aload_n 0, 1) := by decide +kernel
theorem dX5_mark_1 : decode cX5_mark 1 = .ok (.getfield 33, 3) := by decide +kernel
theorem dX5_mark_4 : decode cX5_mark 4 = .ok (.aload_n 0, 1) := by decide +kernel
theorem dX5_mark_5 : decode cX5_mark 5 = .ok (.getfield 10, 3) := by decide +kernel
theorem dX5_mark_8 : decode cX5_mark 8 = .ok (.aload_n 0, 1) := by decide +kernel
theorem dX5_mark_9 : decode cX5_mark 9 = .ok (.getfield 19, 3) := by decide +kernel
theorem dX5_mark_12 : decode cX5_mark 12 = .ok (.invokevirtual 140, 3) := by decide +kernel
theorem dX5_mark_15 : decode cX5_mark 15 = .ok (.iload_n 1, 1) := by decide +kernel
theorem dX5_mark_16 : decode cX5_mark 16 = .ok (.ifCond .lt 14, 3) := by decide +kernel
theorem dX5_mark_19 : decode cX5_mark 19 = .ok (.iload_n 1, 1) := by decide +kernel
theorem dX5_mark_20 : decode cX5_mark 20 = .ok (.aload_n 0, 1) := by decide +kernel
theorem dX5_mark_21 : decode cX5_mark 21 = .ok (.getfield 33, 3) := by decide +kernel
theorem dX5_mark_24 : decode cX5_mark 24 = .ok (.getfield 158, 3) := by decide +kernel
theorem dX5_mark_27 : decode cX5_mark 27 = .ok (.if_icmp .lt 13, 3) := by decide +kernel
theorem dX5_mark_30 : decode cX5_mark 30 = .ok (.new 159, 3) := by decide +kernel
theorem dX5_mark_33 : decode cX5_mark 33 = .ok (.dup, 1) := by decide +kernel
theorem dX5_mark_34 : decode cX5_mark 34 = .ok (.ldc 161, 2) := by decide +kernel
theorem dX5_mark_36 : decode cX5_mark 36 = .ok (.invokespecial 163, 3) := by decide +kernel
theorem dX5_mark_39 : decode cX5_mark 39 = .ok (.athrow, 1) := by decide +kernel
theorem dX5_mark_40 : decode cX5_mark 40 = .ok (.aload_n 0, 1) := by decide +kernel
theorem dX5_mark_41 : decode cX5_mark 41 = .ok (.getfield 33, 3) := by decide +kernel
theorem dX5_mark_44 : decode cX5_mark 44 = .ok (.getfield 164, 3) := by decide +kernel
theorem dX5_mark_47 : decode cX5_mark 47 = .ok (.iload_n 1, 1) := by decide +kernel
theorem dX5_mark_48 : decode cX5_mark 48 = .ok (.iaload, 1) := by decide +kernel
theorem dX5_mark_49 : decode cX5_mark 49 = .ok (.ireturn, 1) := by decide +kernel
theorem dX5_islandCount_0 : decode cX5_islandCount 0 = .ok (.aload_n 0, 1) := by decide +kernel
theorem dX5_islandCount_1 : decode cX5_islandCount 1 = .ok (.invokevirtual 167, 3) := by decide +kernel
theorem dX5_islandCount_4 : decode cX5_islandCount 4 = .ok (.aload_n 0, 1) := by decide +kernel
theorem dX5_islandCount_5 : decode cX5_islandCount 5 = .ok (.getfield 26, 3) := by decide +kernel
theorem dX5_islandCount_8 : decode cX5_islandCount 8 = .ok (.getfield 139, 3) := by decide +kernel
theorem dX5_islandCount_11 : decode cX5_islandCount 11 = .ok (.ireturn, 1) := by decide +kernel
theorem dX5_kind_0 : decode cX5_kind 0 = .ok (.aload_n 0, 1) := by decide +kernel
theorem dX5_kind_1 : decode cX5_kind 1 = .ok (.iload_n 1, 1) := by decide +kernel
theorem dX5_kind_2 : decode cX5_kind 2 = .ok (.invokevirtual 170, 3) := by decide +kernel
theorem dX5_kind_5 : decode cX5_kind 5 = .ok (.aload_n 0, 1) := by decide +kernel
theorem dX5_kind_6 : decode cX5_kind 6 = .ok (.getfield 26, 3) := by decide +kernel
theorem dX5_kind_9 : decode cX5_kind 9 = .ok (.getfield 173, 3) := by decide +kernel
theorem dX5_kind_12 : decode cX5_kind 12 = .ok (.iload_n 1, 1) := by decide +kernel
theorem dX5_kind_13 : decode cX5_kind 13 = .ok (.iaload, 1) := by decide +kernel
theorem dX5_kind_14 : decode cX5_kind 14 = .ok (.ireturn, 1) := by decide +kernel
theorem dX5_start_0 : decode cX5_start 0 = .ok (.aload_n 0, 1) := by decide +kernel
theorem dX5_start_1 : decode cX5_start 1 = .ok (.iload_n 1, 1) := by decide +kernel
theorem dX5_start_2 : decode cX5_start 2 = .ok (.invokevirtual 170, 3) := by decide +kernel
theorem dX5_start_5 : decode cX5_start 5 = .ok (.aload_n 0, 1) := by decide +kernel
theorem dX5_start_6 : decode cX5_start 6 = .ok (.getfield 26, 3) := by decide +kernel
theorem dX5_start_9 : decode cX5_start 9 = .ok (.getfield 175, 3) := by decide +kernel
theorem dX5_start_12 : decode cX5_start 12 = .ok (.iload_n 1, 1) := by decide +kernel
theorem dX5_start_13 : decode cX5_start 13 = .ok (.iaload, 1) := by decide +kernel
theorem dX5_start_14 : decode cX5_start 14 = .ok (.ireturn, 1) := by decide +kernel
theorem dX5_end_0 : decode cX5_end 0 = .ok (.aload_n 0, 1) := by decide +kernel
theorem dX5_end_1 : decode cX5_end 1 = .ok (.iload_n 1, 1) := by decide +kernel
theorem dX5_end_2 : decode cX5_end 2 = .ok (.invokevirtual 170, 3) := by decide +kernel
theorem dX5_end_5 : decode cX5_end 5 = .ok (.aload_n 0, 1) := by decide +kernel
theorem dX5_end_6 : decode cX5_end 6 = .ok (.getfield 26, 3) := by decide +kernel
theorem dX5_end_9 : decode cX5_end 9 = .ok (.getfield 178, 3) := by decide +kernel
theorem dX5_end_12 : decode cX5_end 12 = .ok (.iload_n 1, 1) := by decide +kernel
theorem dX5_end_13 : decode cX5_end 13 = .ok (.iaload, 1) := by decide +kernel
theorem dX5_end_14 : decode cX5_end 14 = .ok (.ireturn, 1) := by decide +kernel
theorem dX5_state_0 : decode cX5_state 0 = .ok (.aload_n 0, 1) := by decide +kernel
theorem dX5_state_1 : decode cX5_state 1 = .ok (.iload_n 1, 1) := by decide +kernel
theorem dX5_state_2 : decode cX5_state 2 = .ok (.invokevirtual 170, 3) := by decide +kernel
theorem dX5_state_5 : decode cX5_state 5 = .ok (.aload_n 0, 1) := by decide +kernel
theorem dX5_state_6 : decode cX5_state 6 = .ok (.getfield 26, 3) := by decide +kernel
theorem dX5_state_9 : decode cX5_state 9 = .ok (.getfield 181, 3) := by decide +kernel
theorem dX5_state_12 : decode cX5_state 12 = .ok (.iload_n 1, 1) := by decide +kernel
theorem dX5_state_13 : decode cX5_state 13 = .ok (.iaload, 1) := by decide +kernel
theorem dX5_state_14 : decode cX5_state 14 = .ok (.ireturn, 1) := by decide +kernel
theorem dX5_parent_0 : decode cX5_parent 0 = .ok (.aload_n 0, 1) := by decide +kernel
theorem dX5_parent_1 : decode cX5_parent 1 = .ok (.iload_n 1, 1) := by decide +kernel
theorem dX5_parent_2 : decode cX5_parent 2 = .ok (.invokevirtual 170, 3) := by decide +kernel
theorem dX5_parent_5 : decode cX5_parent 5 = .ok (.aload_n 0, 1) := by decide +kernel
theorem dX5_parent_6 : decode cX5_parent 6 = .ok (.getfield 26, 3) := by decide +kernel
theorem dX5_parent_9 : decode cX5_parent 9 = .ok (.getfield 184, 3) := by decide +kernel
theorem dX5_parent_12 : decode cX5_parent 12 = .ok (.iload_n 1, 1) := by decide +kernel
theorem dX5_parent_13 : decode cX5_parent 13 = .ok (.iaload, 1) := by decide +kernel
theorem dX5_parent_14 : decode cX5_parent 14 = .ok (.ireturn, 1) := by decide +kernel
theorem dX5_depth_0 : decode cX5_depth 0 = .ok (.aload_n 0, 1) := by decide +kernel
theorem dX5_depth_1 : decode cX5_depth 1 = .ok (.iload_n 1, 1) := by decide +kernel
theorem dX5_depth_2 : decode cX5_depth 2 = .ok (.invokevirtual 170, 3) := by decide +kernel
theorem dX5_depth_5 : decode cX5_depth 5 = .ok (.aload_n 0, 1) := by decide +kernel
theorem dX5_depth_6 : decode cX5_depth 6 = .ok (.getfield 26, 3) := by decide +kernel
theorem dX5_depth_9 : decode cX5_depth 9 = .ok (.getfield 187, 3) := by decide +kernel
theorem dX5_depth_12 : decode cX5_depth 12 = .ok (.iload_n 1, 1) := by decide +kernel
theorem dX5_depth_13 : decode cX5_depth 13 = .ok (.iaload, 1) := by decide +kernel
theorem dX5_depth_14 : decode cX5_depth 14 = .ok (.ireturn, 1) := by decide +kernel
theorem dX5_own_0 : decode cX5_own 0 = .ok (.aload_n 0, 1) := by decide +kernel
theorem dX5_own_1 : decode cX5_own 1 = .ok (.iload_n 1, 1) := by decide +kernel
theorem dX5_own_2 : decode cX5_own 2 = .ok (.invokevirtual 170, 3) := by decide +kernel
theorem dX5_own_5 : decode cX5_own 5 = .ok (.aload_n 0, 1) := by decide +kernel
theorem dX5_own_6 : decode cX5_own 6 = .ok (.getfield 26, 3) := by decide +kernel
theorem dX5_own_9 : decode cX5_own 9 = .ok (.getfield 178, 3) := by decide +kernel
theorem dX5_own_12 : decode cX5_own 12 = .ok (.iload_n 1, 1) := by decide +kernel
theorem dX5_own_13 : decode cX5_own 13 = .ok (.iaload, 1) := by decide +kernel
theorem dX5_own_14 : decode cX5_own 14 = .ok (.aload_n 0, 1) := by decide +kernel
theorem dX5_own_15 : decode cX5_own 15 = .ok (.getfield 26, 3) := by decide +kernel
theorem dX5_own_18 : decode cX5_own 18 = .ok (.getfield 175, 3) := by decide +kernel
theorem dX5_own_21 : decode cX5_own 21 = .ok (.iload_n 1, 1) := by decide +kernel
theorem dX5_own_22 : decode cX5_own 22 = .ok (.iaload, 1) := by decide +kernel
theorem dX5_own_23 : decode cX5_own 23 = .ok (.isub, 1) := by decide +kernel
theorem dX5_own_24 : decode cX5_own 24 = .ok (.aload_n 0, 1) := by decide +kernel
theorem dX5_own_25 : decode cX5_own 25 = .ok (.getfield 26, 3) := by decide +kernel
theorem dX5_own_28 : decode cX5_own 28 = .ok (.iload_n 1, 1) := by decide +kernel
theorem dX5_own_29 : decode cX5_own 29 = .ok (.invokevirtual 190, 3) := by decide +kernel
theorem dX5_own_32 : decode cX5_own 32 = .ok (.isub, 1) := by decide +kernel
theorem dX5_own_33 : decode cX5_own 33 = .ok (.ireturn, 1) := by decide +kernel
theorem dX5_at_0 : decode cX5_at 0 = .ok (.aload_n 0, 1) := by decide +kernel
theorem dX5_at_1 : decode cX5_at 1 = .ok (.invokevirtual 167, 3) := by decide +kernel
theorem dX5_at_4 : decode cX5_at 4 = .ok (.aload_n 0, 1) := by decide +kernel
theorem dX5_at_5 : decode cX5_at 5 = .ok (.iload_n 1, 1) := by decide +kernel
theorem dX5_at_6 : decode cX5_at 6 = .ok (.invokevirtual 77, 3) := by decide +kernel
theorem dX5_at_9 : decode cX5_at 9 = .ok (.aload_n 0, 1) := by decide +kernel
theorem dX5_at_10 : decode cX5_at 10 = .ok (.getfield 26, 3) := by decide +kernel
theorem dX5_at_13 : decode cX5_at 13 = .ok (.iload_n 1, 1) := by decide +kernel
theorem dX5_at_14 : decode cX5_at 14 = .ok (.invokevirtual 193, 3) := by decide +kernel
theorem dX5_at_17 : decode cX5_at 17 = .ok (.ireturn, 1) := by decide +kernel
theorem dX5_count_0 : decode cX5_count 0 = .ok (.aload_n 0, 1) := by decide +kernel
theorem dX5_count_1 : decode cX5_count 1 = .ok (.invokevirtual 167, 3) := by decide +kernel
theorem dX5_count_4 : decode cX5_count 4 = .ok (.aload_n 0, 1) := by decide +kernel
theorem dX5_count_5 : decode cX5_count 5 = .ok (.iload_n 1, 1) := by decide +kernel
theorem dX5_count_6 : decode cX5_count 6 = .ok (.invokevirtual 91, 3) := by decide +kernel
theorem dX5_count_9 : decode cX5_count 9 = .ok (.iload_n 2, 1) := by decide +kernel
theorem dX5_count_10 : decode cX5_count 10 = .ok (.ifCond .lt 8, 3) := by decide +kernel
theorem dX5_count_13 : decode cX5_count 13 = .ok (.iload_n 2, 1) := by decide +kernel
theorem dX5_count_14 : decode cX5_count 14 = .ok (.iconst 3, 1) := by decide +kernel
theorem dX5_count_15 : decode cX5_count 15 = .ok (.if_icmp .lt 13, 3) := by decide +kernel
theorem dX5_count_18 : decode cX5_count 18 = .ok (.new 159, 3) := by decide +kernel
theorem dX5_count_21 : decode cX5_count 21 = .ok (.dup, 1) := by decide +kernel
theorem dX5_count_22 : decode cX5_count 22 = .ok (.ldc 196, 2) := by decide +kernel
theorem dX5_count_24 : decode cX5_count 24 = .ok (.invokespecial 163, 3) := by decide +kernel
theorem dX5_count_27 : decode cX5_count 27 = .ok (.athrow, 1) := by decide +kernel
theorem dX5_count_28 : decode cX5_count 28 = .ok (.iconst 0, 1) := by decide +kernel
theorem dX5_count_29 : decode cX5_count 29 = .ok (.istore_n 3, 1) := by decide +kernel
theorem dX5_count_30 : decode cX5_count 30 = .ok (.iconst 0, 1) := by decide +kernel
theorem dX5_count_31 : decode cX5_count 31 = .ok (.istore 4, 2) := by decide +kernel
theorem dX5_count_33 : decode cX5_count 33 = .ok (.iload 4, 2) := by decide +kernel
theorem dX5_count_35 : decode cX5_count 35 = .ok (.aload_n 0, 1) := by decide +kernel
theorem dX5_count_36 : decode cX5_count 36 = .ok (.getfield 26, 3) := by decide +kernel
theorem dX5_count_39 : decode cX5_count 39 = .ok (.getfield 139, 3) := by decide +kernel
theorem dX5_count_42 : decode cX5_count 42 = .ok (.if_icmp .ge 40, 3) := by decide +kernel
theorem dX5_count_45 : decode cX5_count 45 = .ok (.aload_n 0, 1) := by decide +kernel
theorem dX5_count_46 : decode cX5_count 46 = .ok (.getfield 26, 3) := by decide +kernel
theorem dX5_count_49 : decode cX5_count 49 = .ok (.getfield 173, 3) := by decide +kernel
theorem dX5_count_52 : decode cX5_count 52 = .ok (.iload 4, 2) := by decide +kernel
theorem dX5_count_54 : decode cX5_count 54 = .ok (.iaload, 1) := by decide +kernel
theorem dX5_count_55 : decode cX5_count 55 = .ok (.iload_n 1, 1) := by decide +kernel
theorem dX5_count_56 : decode cX5_count 56 = .ok (.if_icmp .ne 20, 3) := by decide +kernel
theorem dX5_count_59 : decode cX5_count 59 = .ok (.aload_n 0, 1) := by decide +kernel
theorem dX5_count_60 : decode cX5_count 60 = .ok (.getfield 26, 3) := by decide +kernel
theorem dX5_count_63 : decode cX5_count 63 = .ok (.getfield 181, 3) := by decide +kernel
theorem dX5_count_66 : decode cX5_count 66 = .ok (.iload 4, 2) := by decide +kernel
theorem dX5_count_68 : decode cX5_count 68 = .ok (.iaload, 1) := by decide +kernel
theorem dX5_count_69 : decode cX5_count 69 = .ok (.iload_n 2, 1) := by decide +kernel
theorem dX5_count_70 : decode cX5_count 70 = .ok (.if_icmp .ne 6, 3) := by decide +kernel
theorem dX5_count_73 : decode cX5_count 73 = .ok (.iinc 3 1, 3) := by decide +kernel
theorem dX5_count_76 : decode cX5_count 76 = .ok (.iinc 4 1, 3) := by decide +kernel
theorem dX5_count_79 : decode cX5_count 79 = .ok (.goto (-46), 3) := by decide +kernel
theorem dX5_count_82 : decode cX5_count 82 = .ok (.iload_n 3, 1) := by decide +kernel
theorem dX5_count_83 : decode cX5_count 83 = .ok (.ireturn, 1) := by decide +kernel
theorem dX5_water_0 : decode cX5_water 0 = .ok (.aload_n 0, 1) := by decide +kernel
theorem dX5_water_1 : decode cX5_water 1 = .ok (.invokevirtual 167, 3) := by decide +kernel
theorem dX5_water_4 : decode cX5_water 4 = .ok (.aload_n 0, 1) := by decide +kernel
theorem dX5_water_5 : decode cX5_water 5 = .ok (.getfield 10, 3) := by decide +kernel
theorem dX5_water_8 : decode cX5_water 8 = .ok (.getfield 59, 3) := by decide +kernel
theorem dX5_water_11 : decode cX5_water 11 = .ok (.aload_n 0, 1) := by decide +kernel
theorem dX5_water_12 : decode cX5_water 12 = .ok (.getfield 26, 3) := by decide +kernel
theorem dX5_water_15 : decode cX5_water 15 = .ok (.iconst (-1), 1) := by decide +kernel
theorem dX5_water_16 : decode cX5_water 16 = .ok (.invokevirtual 190, 3) := by decide +kernel
theorem dX5_water_19 : decode cX5_water 19 = .ok (.isub, 1) := by decide +kernel
theorem dX5_water_20 : decode cX5_water 20 = .ok (.ireturn, 1) := by decide +kernel
theorem dX5_left_0 : decode cX5_left 0 = .ok (.aload_n 0, 1) := by decide +kernel
theorem dX5_left_1 : decode cX5_left 1 = .ok (.invokevirtual 167, 3) := by decide +kernel
theorem dX5_left_4 : decode cX5_left 4 = .ok (.aload_n 0, 1) := by decide +kernel
theorem dX5_left_5 : decode cX5_left 5 = .ok (.getfield 26, 3) := by decide +kernel
theorem dX5_left_8 : decode cX5_left 8 = .ok (.getfield 152, 3) := by decide +kernel
theorem dX5_left_11 : decode cX5_left 11 = .ok (.ireturn, 1) := by decide +kernel
theorem dX5_share_0 : decode cX5_share 0 = .ok (.aload_n 0, 1) := by decide +kernel
theorem dX5_share_1 : decode cX5_share 1 = .ok (.invokevirtual 167, 3) := by decide +kernel
theorem dX5_share_4 : decode cX5_share 4 = .ok (.aload_n 0, 1) := by decide +kernel
theorem dX5_share_5 : decode cX5_share 5 = .ok (.getfield 10, 3) := by decide +kernel
theorem dX5_share_8 : decode cX5_share 8 = .ok (.getfield 59, 3) := by decide +kernel
theorem dX5_share_11 : decode cX5_share 11 = .ok (.ifCond .ne 5, 3) := by decide +kernel
theorem dX5_share_14 : decode cX5_share 14 = .ok (.dconst 0, 1) := by decide +kernel
theorem dX5_share_15 : decode cX5_share 15 = .ok (.dreturn, 1) := by decide +kernel
theorem dX5_share_16 : decode cX5_share 16 = .ok (.aload_n 0, 1) := by decide +kernel
theorem dX5_share_17 : decode cX5_share 17 = .ok (.getfield 26, 3) := by decide +kernel
theorem dX5_share_20 : decode cX5_share 20 = .ok (.iconst (-1), 1) := by decide +kernel
theorem dX5_share_21 : decode cX5_share 21 = .ok (.invokevirtual 190, 3) := by decide +kernel
theorem dX5_share_24 : decode cX5_share 24 = .ok (.i2d, 1) := by decide +kernel
theorem dX5_share_25 : decode cX5_share 25 = .ok (.aload_n 0, 1) := by decide +kernel
theorem dX5_share_26 : decode cX5_share 26 = .ok (.getfield 10, 3) := by decide +kernel
theorem dX5_share_29 : decode cX5_share 29 = .ok (.getfield 59, 3) := by decide +kernel
theorem dX5_share_32 : decode cX5_share 32 = .ok (.i2d, 1) := by decide +kernel
theorem dX5_share_33 : decode cX5_share 33 = .ok (.ddiv, 1) := by decide +kernel
theorem dX5_share_34 : decode cX5_share 34 = .ok (.dreturn, 1) := by decide +kernel
theorem dX5_digest_0 : decode cX5_digest 0 = .ok (.ldc2_w 198, 3) := by decide +kernel
theorem dX5_digest_3 : decode cX5_digest 3 = .ok (.aload_n 0, 1) := by decide +kernel
theorem dX5_digest_4 : decode cX5_digest 4 = .ok (.getfield 10, 3) := by decide +kernel
theorem dX5_digest_7 : decode cX5_digest 7 = .ok (.getfield 59, 3) := by decide +kernel
theorem dX5_digest_10 : decode cX5_digest 10 = .ok (.invokestatic 200, 3) := by decide +kernel
theorem dX5_digest_13 : decode cX5_digest 13 = .ok (.lstore_n 1, 1) := by decide +kernel
theorem dX5_digest_14 : decode cX5_digest 14 = .ok (.iconst 0, 1) := by decide +kernel
theorem dX5_digest_15 : decode cX5_digest 15 = .ok (.istore_n 3, 1) := by decide +kernel
theorem dX5_digest_16 : decode cX5_digest 16 = .ok (.iload_n 3, 1) := by decide +kernel
theorem dX5_digest_17 : decode cX5_digest 17 = .ok (.aload_n 0, 1) := by decide +kernel
theorem dX5_digest_18 : decode cX5_digest 18 = .ok (.getfield 10, 3) := by decide +kernel
theorem dX5_digest_21 : decode cX5_digest 21 = .ok (.getfield 59, 3) := by decide +kernel
theorem dX5_digest_24 : decode cX5_digest 24 = .ok (.if_icmp .ge 23, 3) := by decide +kernel
theorem dX5_digest_27 : decode cX5_digest 27 = .ok (.lload_n 1, 1) := by decide +kernel
theorem dX5_digest_28 : decode cX5_digest 28 = .ok (.aload_n 0, 1) := by decide +kernel
theorem dX5_digest_29 : decode cX5_digest 29 = .ok (.getfield 10, 3) := by decide +kernel
theorem dX5_digest_32 : decode cX5_digest 32 = .ok (.getfield 82, 3) := by decide +kernel
theorem dX5_digest_35 : decode cX5_digest 35 = .ok (.iload_n 3, 1) := by decide +kernel
theorem dX5_digest_36 : decode cX5_digest 36 = .ok (.iaload, 1) := by decide +kernel
theorem dX5_digest_37 : decode cX5_digest 37 = .ok (.invokestatic 200, 3) := by decide +kernel
theorem dX5_digest_40 : decode cX5_digest 40 = .ok (.lstore_n 1, 1) := by decide +kernel
theorem dX5_digest_41 : decode cX5_digest 41 = .ok (.iinc 3 1, 3) := by decide +kernel
theorem dX5_digest_44 : decode cX5_digest 44 = .ok (.goto (-28), 3) := by decide +kernel
theorem dX5_digest_47 : decode cX5_digest 47 = .ok (.lload_n 1, 1) := by decide +kernel
theorem dX5_digest_48 : decode cX5_digest 48 = .ok (.aload_n 0, 1) := by decide +kernel
theorem dX5_digest_49 : decode cX5_digest 49 = .ok (.getfield 10, 3) := by decide +kernel
theorem dX5_digest_52 : decode cX5_digest 52 = .ok (.getfield 88, 3) := by decide +kernel
theorem dX5_digest_55 : decode cX5_digest 55 = .ok (.invokestatic 200, 3) := by decide +kernel
theorem dX5_digest_58 : decode cX5_digest 58 = .ok (.lstore_n 1, 1) := by decide +kernel
theorem dX5_digest_59 : decode cX5_digest 59 = .ok (.lload_n 1, 1) := by decide +kernel
theorem dX5_digest_60 : decode cX5_digest 60 = .ok (.aload_n 0, 1) := by decide +kernel
theorem dX5_digest_61 : decode cX5_digest 61 = .ok (.getfield 44, 3) := by decide +kernel
theorem dX5_digest_64 : decode cX5_digest 64 = .ok (.ifCond .eq 7, 3) := by decide +kernel
theorem dX5_digest_67 : decode cX5_digest 67 = .ok (.iconst 1, 1) := by decide +kernel
theorem dX5_digest_68 : decode cX5_digest 68 = .ok (.goto 4, 3) := by decide +kernel
theorem dX5_digest_71 : decode cX5_digest 71 = .ok (.iconst 0, 1) := by decide +kernel
theorem dX5_digest_72 : decode cX5_digest 72 = .ok (.invokestatic 200, 3) := by decide +kernel
theorem dX5_digest_75 : decode cX5_digest 75 = .ok (.lstore_n 1, 1) := by decide +kernel
theorem dX5_digest_76 : decode cX5_digest 76 = .ok (.iconst 0, 1) := by decide +kernel
theorem dX5_digest_77 : decode cX5_digest 77 = .ok (.istore_n 3, 1) := by decide +kernel
theorem dX5_digest_78 : decode cX5_digest 78 = .ok (.iload_n 3, 1) := by decide +kernel
theorem dX5_digest_79 : decode cX5_digest 79 = .ok (.bipush 6, 2) := by decide +kernel
theorem dX5_digest_81 : decode cX5_digest 81 = .ok (.if_icmp .ge 92, 3) := by decide +kernel
theorem dX5_digest_84 : decode cX5_digest 84 = .ok (.lload_n 1, 1) := by decide +kernel
theorem dX5_digest_85 : decode cX5_digest 85 = .ok (.aload_n 0, 1) := by decide +kernel
theorem dX5_digest_86 : decode cX5_digest 86 = .ok (.getfield 19, 3) := by decide +kernel
theorem dX5_digest_89 : decode cX5_digest 89 = .ok (.iload_n 3, 1) := by decide +kernel
theorem dX5_digest_90 : decode cX5_digest 90 = .ok (.invokevirtual 104, 3) := by decide +kernel
theorem dX5_digest_93 : decode cX5_digest 93 = .ok (.ifCond .eq 7, 3) := by decide +kernel
theorem dX5_digest_96 : decode cX5_digest 96 = .ok (.iconst 1, 1) := by decide +kernel
theorem dX5_digest_97 : decode cX5_digest 97 = .ok (.goto 4, 3) := by decide +kernel
theorem dX5_digest_100 : decode cX5_digest 100 = .ok (.iconst 0, 1) := by decide +kernel
theorem dX5_digest_101 : decode cX5_digest 101 = .ok (.invokestatic 200, 3) := by decide +kernel
theorem dX5_digest_104 : decode cX5_digest 104 = .ok (.lstore_n 1, 1) := by decide +kernel
theorem dX5_digest_105 : decode cX5_digest 105 = .ok (.lload_n 1, 1) := by decide +kernel
theorem dX5_digest_106 : decode cX5_digest 106 = .ok (.aload_n 0, 1) := by decide +kernel
theorem dX5_digest_107 : decode cX5_digest 107 = .ok (.getfield 19, 3) := by decide +kernel
theorem dX5_digest_110 : decode cX5_digest 110 = .ok (.getfield 112, 3) := by decide +kernel
theorem dX5_digest_113 : decode cX5_digest 113 = .ok (.iload_n 3, 1) := by decide +kernel
theorem dX5_digest_114 : decode cX5_digest 114 = .ok (.invokestatic 204, 3) := by decide +kernel
theorem dX5_digest_117 : decode cX5_digest 117 = .ok (.ifCond .eq 7, 3) := by decide +kernel
theorem dX5_digest_120 : decode cX5_digest 120 = .ok (.iconst 1, 1) := by decide +kernel
theorem dX5_digest_121 : decode cX5_digest 121 = .ok (.goto 4, 3) := by decide +kernel
theorem dX5_digest_124 : decode cX5_digest 124 = .ok (.iconst 0, 1) := by decide +kernel
theorem dX5_digest_125 : decode cX5_digest 125 = .ok (.invokestatic 200, 3) := by decide +kernel
theorem dX5_digest_128 : decode cX5_digest 128 = .ok (.lstore_n 1, 1) := by decide +kernel
theorem dX5_digest_129 : decode cX5_digest 129 = .ok (.lload_n 1, 1) := by decide +kernel
theorem dX5_digest_130 : decode cX5_digest 130 = .ok (.aload_n 0, 1) := by decide +kernel
theorem dX5_digest_131 : decode cX5_digest 131 = .ok (.getfield 19, 3) := by decide +kernel
theorem dX5_digest_134 : decode cX5_digest 134 = .ok (.getfield 119, 3) := by decide +kernel
theorem dX5_digest_137 : decode cX5_digest 137 = .ok (.iload_n 3, 1) := by decide +kernel
theorem dX5_digest_138 : decode cX5_digest 138 = .ok (.invokestatic 204, 3) := by decide +kernel
theorem dX5_digest_141 : decode cX5_digest 141 = .ok (.ifCond .eq 7, 3) := by decide +kernel
theorem dX5_digest_144 : decode cX5_digest 144 = .ok (.iconst 1, 1) := by decide +kernel
theorem dX5_digest_145 : decode cX5_digest 145 = .ok (.goto 4, 3) := by decide +kernel
theorem dX5_digest_148 : decode cX5_digest 148 = .ok (.iconst 0, 1) := by decide +kernel
theorem dX5_digest_149 : decode cX5_digest 149 = .ok (.invokestatic 200, 3) := by decide +kernel
theorem dX5_digest_152 : decode cX5_digest 152 = .ok (.lstore_n 1, 1) := by decide +kernel
theorem dX5_digest_153 : decode cX5_digest 153 = .ok (.lload_n 1, 1) := by decide +kernel
theorem dX5_digest_154 : decode cX5_digest 154 = .ok (.aload_n 0, 1) := by decide +kernel
theorem dX5_digest_155 : decode cX5_digest 155 = .ok (.getfield 19, 3) := by decide +kernel
theorem dX5_digest_158 : decode cX5_digest 158 = .ok (.getfield 109, 3) := by decide +kernel
theorem dX5_digest_161 : decode cX5_digest 161 = .ok (.iload_n 3, 1) := by decide +kernel
theorem dX5_digest_162 : decode cX5_digest 162 = .ok (.iaload, 1) := by decide +kernel
theorem dX5_digest_163 : decode cX5_digest 163 = .ok (.invokestatic 200, 3) := by decide +kernel
theorem dX5_digest_166 : decode cX5_digest 166 = .ok (.lstore_n 1, 1) := by decide +kernel
theorem dX5_digest_167 : decode cX5_digest 167 = .ok (.iinc 3 1, 3) := by decide +kernel
theorem dX5_digest_170 : decode cX5_digest 170 = .ok (.goto (-92), 3) := by decide +kernel
theorem dX5_digest_173 : decode cX5_digest 173 = .ok (.aload_n 0, 1) := by decide +kernel
theorem dX5_digest_174 : decode cX5_digest 174 = .ok (.getfield 26, 3) := by decide +kernel
theorem dX5_digest_177 : decode cX5_digest 177 = .ok (.getfield 155, 3) := by decide +kernel
theorem dX5_digest_180 : decode cX5_digest 180 = .ok (.ifCond .eq 11, 3) := by decide +kernel
theorem dX5_digest_183 : decode cX5_digest 183 = .ok (.aload_n 0, 1) := by decide +kernel
theorem dX5_digest_184 : decode cX5_digest 184 = .ok (.lload_n 1, 1) := by decide +kernel
theorem dX5_digest_185 : decode cX5_digest 185 = .ok (.invokevirtual 208, 3) := by decide +kernel
theorem dX5_digest_188 : decode cX5_digest 188 = .ok (.goto 4, 3) := by decide +kernel
theorem dX5_digest_191 : decode cX5_digest 191 = .ok (.lload_n 1, 1) := by decide +kernel
theorem dX5_digest_192 : decode cX5_digest 192 = .ok (.lreturn, 1) := by decide +kernel
theorem dX5_withIslands_0 : decode cX5_withIslands 0 = .ok (.lload_n 1, 1) := by decide +kernel
theorem dX5_withIslands_1 : decode cX5_withIslands 1 = .ok (.aload_n 0, 1) := by decide +kernel
theorem dX5_withIslands_2 : decode cX5_withIslands 2 = .ok (.getfield 26, 3) := by decide +kernel
theorem dX5_withIslands_5 : decode cX5_withIslands 5 = .ok (.getfield 139, 3) := by decide +kernel
theorem dX5_withIslands_8 : decode cX5_withIslands 8 = .ok (.invokestatic 200, 3) := by decide +kernel
theorem dX5_withIslands_11 : decode cX5_withIslands 11 = .ok (.lstore_n 3, 1) := by decide +kernel
theorem dX5_withIslands_12 : decode cX5_withIslands 12 = .ok (.iconst 0, 1) := by decide +kernel
theorem dX5_withIslands_13 : decode cX5_withIslands 13 = .ok (.istore 5, 2) := by decide +kernel
theorem dX5_withIslands_15 : decode cX5_withIslands 15 = .ok (.iload 5, 2) := by decide +kernel
theorem dX5_withIslands_17 : decode cX5_withIslands 17 = .ok (.aload_n 0, 1) := by decide +kernel
theorem dX5_withIslands_18 : decode cX5_withIslands 18 = .ok (.getfield 26, 3) := by decide +kernel
theorem dX5_withIslands_21 : decode cX5_withIslands 21 = .ok (.getfield 139, 3) := by decide +kernel
theorem dX5_withIslands_24 : decode cX5_withIslands 24 = .ok (.if_icmp .ge 69, 3) := by decide +kernel
theorem dX5_withIslands_27 : decode cX5_withIslands 27 = .ok (.lload_n 3, 1) := by decide +kernel
theorem dX5_withIslands_28 : decode cX5_withIslands 28 = .ok (.aload_n 0, 1) := by decide +kernel
theorem dX5_withIslands_29 : decode cX5_withIslands 29 = .ok (.getfield 26, 3) := by decide +kernel
theorem dX5_withIslands_32 : decode cX5_withIslands 32 = .ok (.getfield 173, 3) := by decide +kernel
theorem dX5_withIslands_35 : decode cX5_withIslands 35 = .ok (.iload 5, 2) := by decide +kernel
theorem dX5_withIslands_37 : decode cX5_withIslands 37 = .ok (.iaload, 1) := by decide +kernel
theorem dX5_withIslands_38 : decode cX5_withIslands 38 = .ok (.invokestatic 200, 3) := by decide +kernel
theorem dX5_withIslands_41 : decode cX5_withIslands 41 = .ok (.lstore_n 3, 1) := by decide +kernel
theorem dX5_withIslands_42 : decode cX5_withIslands 42 = .ok (.lload_n 3, 1) := by decide +kernel
theorem dX5_withIslands_43 : decode cX5_withIslands 43 = .ok (.aload_n 0, 1) := by decide +kernel
theorem dX5_withIslands_44 : decode cX5_withIslands 44 = .ok (.getfield 26, 3) := by decide +kernel
theorem dX5_withIslands_47 : decode cX5_withIslands 47 = .ok (.getfield 175, 3) := by decide +kernel
theorem dX5_withIslands_50 : decode cX5_withIslands 50 = .ok (.iload 5, 2) := by decide +kernel
theorem dX5_withIslands_52 : decode cX5_withIslands 52 = .ok (.iaload, 1) := by decide +kernel
theorem dX5_withIslands_53 : decode cX5_withIslands 53 = .ok (.invokestatic 200, 3) := by decide +kernel
theorem dX5_withIslands_56 : decode cX5_withIslands 56 = .ok (.lstore_n 3, 1) := by decide +kernel
theorem dX5_withIslands_57 : decode cX5_withIslands 57 = .ok (.lload_n 3, 1) := by decide +kernel
theorem dX5_withIslands_58 : decode cX5_withIslands 58 = .ok (.aload_n 0, 1) := by decide +kernel
theorem dX5_withIslands_59 : decode cX5_withIslands 59 = .ok (.getfield 26, 3) := by decide +kernel
theorem dX5_withIslands_62 : decode cX5_withIslands 62 = .ok (.getfield 178, 3) := by decide +kernel
theorem dX5_withIslands_65 : decode cX5_withIslands 65 = .ok (.iload 5, 2) := by decide +kernel
theorem dX5_withIslands_67 : decode cX5_withIslands 67 = .ok (.iaload, 1) := by decide +kernel
theorem dX5_withIslands_68 : decode cX5_withIslands 68 = .ok (.invokestatic 200, 3) := by decide +kernel
theorem dX5_withIslands_71 : decode cX5_withIslands 71 = .ok (.lstore_n 3, 1) := by decide +kernel
theorem dX5_withIslands_72 : decode cX5_withIslands 72 = .ok (.lload_n 3, 1) := by decide +kernel
theorem dX5_withIslands_73 : decode cX5_withIslands 73 = .ok (.aload_n 0, 1) := by decide +kernel
theorem dX5_withIslands_74 : decode cX5_withIslands 74 = .ok (.getfield 26, 3) := by decide +kernel
theorem dX5_withIslands_77 : decode cX5_withIslands 77 = .ok (.getfield 181, 3) := by decide +kernel
theorem dX5_withIslands_80 : decode cX5_withIslands 80 = .ok (.iload 5, 2) := by decide +kernel
theorem dX5_withIslands_82 : decode cX5_withIslands 82 = .ok (.iaload, 1) := by decide +kernel
theorem dX5_withIslands_83 : decode cX5_withIslands 83 = .ok (.invokestatic 200, 3) := by decide +kernel
theorem dX5_withIslands_86 : decode cX5_withIslands 86 = .ok (.lstore_n 3, 1) := by decide +kernel
theorem dX5_withIslands_87 : decode cX5_withIslands 87 = .ok (.iinc 5 1, 3) := by decide +kernel
theorem dX5_withIslands_90 : decode cX5_withIslands 90 = .ok (.goto (-75), 3) := by decide +kernel
theorem dX5_withIslands_93 : decode cX5_withIslands 93 = .ok (.lload_n 3, 1) := by decide +kernel
theorem dX5_withIslands_94 : decode cX5_withIslands 94 = .ok (.aload_n 0, 1) := by decide +kernel
theorem dX5_withIslands_95 : decode cX5_withIslands 95 = .ok (.getfield 26, 3) := by decide +kernel
theorem dX5_withIslands_98 : decode cX5_withIslands 98 = .ok (.getfield 152, 3) := by decide +kernel
theorem dX5_withIslands_101 : decode cX5_withIslands 101 = .ok (.invokestatic 200, 3) := by decide +kernel
theorem dX5_withIslands_104 : decode cX5_withIslands 104 = .ok (.lreturn, 1) := by decide +kernel
theorem dX5_mixed_0 : decode cX5_mixed 0 = .ok (.lload_n 0, 1) := by decide +kernel
theorem dX5_mixed_1 : decode cX5_mixed 1 = .ok (.ldc2_w 212, 3) := by decide +kernel
theorem dX5_mixed_4 : decode cX5_mixed 4 = .ok (.lmul, 1) := by decide +kernel
theorem dX5_mixed_5 : decode cX5_mixed 5 = .ok (.iload_n 2, 1) := by decide +kernel
theorem dX5_mixed_6 : decode cX5_mixed 6 = .ok (.i2l, 1) := by decide +kernel
theorem dX5_mixed_7 : decode cX5_mixed 7 = .ok (.ladd, 1) := by decide +kernel
theorem dX5_mixed_8 : decode cX5_mixed 8 = .ok (.lreturn, 1) := by decide +kernel
theorem dX5_isTextByte_0 : decode cX5_isTextByte 0 = .ok (.iload_n 0, 1) := by decide +kernel
theorem dX5_isTextByte_1 : decode cX5_isTextByte 1 = .ok (.bipush 32, 2) := by decide +kernel
theorem dX5_isTextByte_3 : decode cX5_isTextByte 3 = .ok (.if_icmp .lt 13, 3) := by decide +kernel
theorem dX5_isTextByte_6 : decode cX5_isTextByte 6 = .ok (.iload_n 0, 1) := by decide +kernel
theorem dX5_isTextByte_7 : decode cX5_isTextByte 7 = .ok (.bipush 126, 2) := by decide +kernel
theorem dX5_isTextByte_9 : decode cX5_isTextByte 9 = .ok (.if_icmp .gt 7, 3) := by decide +kernel
theorem dX5_isTextByte_12 : decode cX5_isTextByte 12 = .ok (.iconst 1, 1) := by decide +kernel
theorem dX5_isTextByte_13 : decode cX5_isTextByte 13 = .ok (.goto 4, 3) := by decide +kernel
theorem dX5_isTextByte_16 : decode cX5_isTextByte 16 = .ok (.iconst 0, 1) := by decide +kernel
theorem dX5_isTextByte_17 : decode cX5_isTextByte 17 = .ok (.ireturn, 1) := by decide +kernel
theorem dX5_holdsKind_0 : decode cX5_holdsKind 0 = .ok (.iload_n 0, 1) := by decide +kernel
theorem dX5_holdsKind_1 : decode cX5_holdsKind 1 = .ok (.iload_n 1, 1) := by decide +kernel
theorem dX5_holdsKind_2 : decode cX5_holdsKind 2 = .ok (.ishr, 1) := by decide +kernel
theorem dX5_holdsKind_3 : decode cX5_holdsKind 3 = .ok (.iconst 1, 1) := by decide +kernel
theorem dX5_holdsKind_4 : decode cX5_holdsKind 4 = .ok (.iand, 1) := by decide +kernel
theorem dX5_holdsKind_5 : decode cX5_holdsKind 5 = .ok (.iconst 1, 1) := by decide +kernel
theorem dX5_holdsKind_6 : decode cX5_holdsKind 6 = .ok (.if_icmp .ne 7, 3) := by decide +kernel
theorem dX5_holdsKind_9 : decode cX5_holdsKind 9 = .ok (.iconst 1, 1) := by decide +kernel
theorem dX5_holdsKind_10 : decode cX5_holdsKind 10 = .ok (.goto 4, 3) := by decide +kernel
theorem dX5_holdsKind_13 : decode cX5_holdsKind 13 = .ok (.iconst 0, 1) := by decide +kernel
theorem dX5_holdsKind_14 : decode cX5_holdsKind 14 = .ok (.ireturn, 1) := by decide +kernel
theorem dX5_withKind_0 : decode cX5_withKind 0 = .ok (.iload_n 2, 1) := by decide +kernel
theorem dX5_withKind_1 : decode cX5_withKind 1 = .ok (.ifCond .eq 11, 3) := by decide +kernel
theorem dX5_withKind_4 : decode cX5_withKind 4 = .ok (.iload_n 0, 1) := by decide +kernel
theorem dX5_withKind_5 : decode cX5_withKind 5 = .ok (.iconst 1, 1) := by decide +kernel
theorem dX5_withKind_6 : decode cX5_withKind 6 = .ok (.iload_n 1, 1) := by decide +kernel
theorem dX5_withKind_7 : decode cX5_withKind 7 = .ok (.ishl, 1) := by decide +kernel
theorem dX5_withKind_8 : decode cX5_withKind 8 = .ok (.ior, 1) := by decide +kernel
theorem dX5_withKind_9 : decode cX5_withKind 9 = .ok (.goto 10, 3) := by decide +kernel
theorem dX5_withKind_12 : decode cX5_withKind 12 = .ok (.iload_n 0, 1) := by decide +kernel
theorem dX5_withKind_13 : decode cX5_withKind 13 = .ok (.iconst 1, 1) := by decide +kernel
theorem dX5_withKind_14 : decode cX5_withKind 14 = .ok (.iload_n 1, 1) := by decide +kernel
theorem dX5_withKind_15 : decode cX5_withKind 15 = .ok (.ishl, 1) := by decide +kernel
theorem dX5_withKind_16 : decode cX5_withKind 16 = .ok (.iconst (-1), 1) := by decide +kernel
theorem dX5_withKind_17 : decode cX5_withKind 17 = .ok (.ixor, 1) := by decide +kernel
theorem dX5_withKind_18 : decode cX5_withKind 18 = .ok (.iand, 1) := by decide +kernel
theorem dX5_withKind_19 : decode cX5_withKind 19 = .ok (.ireturn, 1) := by decide +kernel
theorem dX5_needPlace_0 : decode cX5_needPlace 0 = .ok (.aload_n 0, 1) := by decide +kernel
theorem dX5_needPlace_1 : decode cX5_needPlace 1 = .ok (.getfield 10, 3) := by decide +kernel
theorem dX5_needPlace_4 : decode cX5_needPlace 4 = .ok (.iload_n 1, 1) := by decide +kernel
theorem dX5_needPlace_5 : decode cX5_needPlace 5 = .ok (.invokevirtual 214, 3) := by decide +kernel
theorem dX5_needPlace_8 : decode cX5_needPlace 8 = .ok (.ifCond .ne 13, 3) := by decide +kernel
theorem dX5_needPlace_11 : decode cX5_needPlace 11 = .ok (.new 159, 3) := by decide +kernel
theorem dX5_needPlace_14 : decode cX5_needPlace 14 = .ok (.dup, 1) := by decide +kernel
theorem dX5_needPlace_15 : decode cX5_needPlace 15 = .ok (.ldc 217, 2) := by decide +kernel
theorem dX5_needPlace_17 : decode cX5_needPlace 17 = .ok (.invokespecial 163, 3) := by decide +kernel
theorem dX5_needPlace_20 : decode cX5_needPlace 20 = .ok (.athrow, 1) := by decide +kernel
theorem dX5_needPlace_21 : decode cX5_needPlace 21 = .ok (.return_, 1) := by decide +kernel
theorem dX5_needKind_0 : decode cX5_needKind 0 = .ok (.iload_n 1, 1) := by decide +kernel
theorem dX5_needKind_1 : decode cX5_needKind 1 = .ok (.ifCond .lt 9, 3) := by decide +kernel
theorem dX5_needKind_4 : decode cX5_needKind 4 = .ok (.iload_n 1, 1) := by decide +kernel
theorem dX5_needKind_5 : decode cX5_needKind 5 = .ok (.bipush 6, 2) := by decide +kernel
theorem dX5_needKind_7 : decode cX5_needKind 7 = .ok (.if_icmp .lt 13, 3) := by decide +kernel
theorem dX5_needKind_10 : decode cX5_needKind 10 = .ok (.new 159, 3) := by decide +kernel
theorem dX5_needKind_13 : decode cX5_needKind 13 = .ok (.dup, 1) := by decide +kernel
theorem dX5_needKind_14 : decode cX5_needKind 14 = .ok (.ldc 219, 2) := by decide +kernel
theorem dX5_needKind_16 : decode cX5_needKind 16 = .ok (.invokespecial 163, 3) := by decide +kernel
theorem dX5_needKind_19 : decode cX5_needKind 19 = .ok (.athrow, 1) := by decide +kernel
theorem dX5_needKind_20 : decode cX5_needKind 20 = .ok (.return_, 1) := by decide +kernel
theorem dX5_needReading_0 : decode cX5_needReading 0 = .ok (.aload_n 0, 1) := by decide +kernel
theorem dX5_needReading_1 : decode cX5_needReading 1 = .ok (.getfield 26, 3) := by decide +kernel
theorem dX5_needReading_4 : decode cX5_needReading 4 = .ok (.getfield 155, 3) := by decide +kernel
theorem dX5_needReading_7 : decode cX5_needReading 7 = .ok (.ifCond .ne 13, 3) := by decide +kernel
theorem dX5_needReading_10 : decode cX5_needReading 10 = .ok (.new 63, 3) := by decide +kernel
theorem dX5_needReading_13 : decode cX5_needReading 13 = .ok (.dup, 1) := by decide +kernel
theorem dX5_needReading_14 : decode cX5_needReading 14 = .ok (.ldc 221, 2) := by decide +kernel
theorem dX5_needReading_16 : decode cX5_needReading 16 = .ok (.invokespecial 67, 3) := by decide +kernel
theorem dX5_needReading_19 : decode cX5_needReading 19 = .ok (.athrow, 1) := by decide +kernel
theorem dX5_needReading_20 : decode cX5_needReading 20 = .ok (.return_, 1) := by decide +kernel
theorem dX5_needIsland_0 : decode cX5_needIsland 0 = .ok (.aload_n 0, 1) := by decide +kernel
theorem dX5_needIsland_1 : decode cX5_needIsland 1 = .ok (.invokevirtual 167, 3) := by decide +kernel
theorem dX5_needIsland_4 : decode cX5_needIsland 4 = .ok (.iload_n 1, 1) := by decide +kernel
theorem dX5_needIsland_5 : decode cX5_needIsland 5 = .ok (.ifCond .lt 14, 3) := by decide +kernel
theorem dX5_needIsland_8 : decode cX5_needIsland 8 = .ok (.iload_n 1, 1) := by decide +kernel
theorem dX5_needIsland_9 : decode cX5_needIsland 9 = .ok (.aload_n 0, 1) := by decide +kernel
theorem dX5_needIsland_10 : decode cX5_needIsland 10 = .ok (.getfield 26, 3) := by decide +kernel
theorem dX5_needIsland_13 : decode cX5_needIsland 13 = .ok (.getfield 139, 3) := by decide +kernel
theorem dX5_needIsland_16 : decode cX5_needIsland 16 = .ok (.if_icmp .lt 13, 3) := by decide +kernel
theorem dX5_needIsland_19 : decode cX5_needIsland 19 = .ok (.new 159, 3) := by decide +kernel
theorem dX5_needIsland_22 : decode cX5_needIsland 22 = .ok (.dup, 1) := by decide +kernel
theorem dX5_needIsland_23 : decode cX5_needIsland 23 = .ok (.ldc 223, 2) := by decide +kernel
theorem dX5_needIsland_25 : decode cX5_needIsland 25 = .ok (.invokespecial 163, 3) := by decide +kernel
theorem dX5_needIsland_28 : decode cX5_needIsland 28 = .ok (.athrow, 1) := by decide +kernel
theorem dX5_needIsland_29 : decode cX5_needIsland 29 = .ok (.return_, 1) := by decide +kernel
theorem dX5_readWordAt_0 : decode cX5_readWordAt 0 = .ok (.iconst 3, 1) := by decide +kernel
theorem dX5_readWordAt_1 : decode cX5_readWordAt 1 = .ok (.istore_n 2, 1) := by decide +kernel
theorem dX5_readWordAt_2 : decode cX5_readWordAt 2 = .ok (.iload_n 2, 1) := by decide +kernel
theorem dX5_readWordAt_3 : decode cX5_readWordAt 3 = .ok (.iconst 1, 1) := by decide +kernel
theorem dX5_readWordAt_4 : decode cX5_readWordAt 4 = .ok (.if_icmp .lt 37, 3) := by decide +kernel
theorem dX5_readWordAt_7 : decode cX5_readWordAt 7 = .ok (.aload_n 0, 1) := by decide +kernel
theorem dX5_readWordAt_8 : decode cX5_readWordAt 8 = .ok (.getfield 10, 3) := by decide +kernel
theorem dX5_readWordAt_11 : decode cX5_readWordAt 11 = .ok (.iload_n 1, 1) := by decide +kernel
theorem dX5_readWordAt_12 : decode cX5_readWordAt 12 = .ok (.iload_n 2, 1) := by decide +kernel
theorem dX5_readWordAt_13 : decode cX5_readWordAt 13 = .ok (.invokevirtual 225, 3) := by decide +kernel
theorem dX5_readWordAt_16 : decode cX5_readWordAt 16 = .ok (.istore_n 3, 1) := by decide +kernel
theorem dX5_readWordAt_17 : decode cX5_readWordAt 17 = .ok (.iload_n 3, 1) := by decide +kernel
theorem dX5_readWordAt_18 : decode cX5_readWordAt 18 = .ok (.ifCond .eq 17, 3) := by decide +kernel
theorem dX5_readWordAt_21 : decode cX5_readWordAt 21 = .ok (.aload_n 0, 1) := by decide +kernel
theorem dX5_readWordAt_22 : decode cX5_readWordAt 22 = .ok (.iload_n 3, 1) := by decide +kernel
theorem dX5_readWordAt_23 : decode cX5_readWordAt 23 = .ok (.iload_n 1, 1) := by decide +kernel
theorem dX5_readWordAt_24 : decode cX5_readWordAt 24 = .ok (.iload_n 1, 1) := by decide +kernel
theorem dX5_readWordAt_25 : decode cX5_readWordAt 25 = .ok (.iload_n 2, 1) := by decide +kernel
theorem dX5_readWordAt_26 : decode cX5_readWordAt 26 = .ok (.iadd, 1) := by decide +kernel
theorem dX5_readWordAt_27 : decode cX5_readWordAt 27 = .ok (.invokevirtual 229, 3) := by decide +kernel
theorem dX5_readWordAt_30 : decode cX5_readWordAt 30 = .ok (.ifCond .eq 5, 3) := by decide +kernel
theorem dX5_readWordAt_33 : decode cX5_readWordAt 33 = .ok (.iload_n 2, 1) := by decide +kernel
theorem dX5_readWordAt_34 : decode cX5_readWordAt 34 = .ok (.ireturn, 1) := by decide +kernel
theorem dX5_readWordAt_35 : decode cX5_readWordAt 35 = .ok (.iinc 2 (-1), 3) := by decide +kernel
theorem dX5_readWordAt_38 : decode cX5_readWordAt 38 = .ok (.goto (-36), 3) := by decide +kernel
theorem dX5_readWordAt_41 : decode cX5_readWordAt 41 = .ok (.iconst 1, 1) := by decide +kernel
theorem dX5_readWordAt_42 : decode cX5_readWordAt 42 = .ok (.ireturn, 1) := by decide +kernel
theorem dX5_takesWord_0 : decode cX5_takesWord 0 = .ok (.aload_n 0, 1) := by decide +kernel
theorem dX5_takesWord_1 : decode cX5_takesWord 1 = .ok (.getfield 26, 3) := by decide +kernel
theorem dX5_takesWord_4 : decode cX5_takesWord 4 = .ok (.invokevirtual 233, 3) := by decide +kernel
theorem dX5_takesWord_7 : decode cX5_takesWord 7 = .ok (.istore 4, 2) := by decide +kernel
theorem dX5_takesWord_9 : decode cX5_takesWord 9 = .ok (.aload_n 0, 1) := by decide +kernel
theorem dX5_takesWord_10 : decode cX5_takesWord 10 = .ok (.getfield 19, 3) := by decide +kernel
theorem dX5_takesWord_13 : decode cX5_takesWord 13 = .ok (.iload 4, 2) := by decide +kernel
theorem dX5_takesWord_15 : decode cX5_takesWord 15 = .ok (.iload_n 1, 1) := by decide +kernel
theorem dX5_takesWord_16 : decode cX5_takesWord 16 = .ok (.invokevirtual 237, 3) := by decide +kernel
theorem dX5_takesWord_19 : decode cX5_takesWord 19 = .ok (.ifCond .eq 14, 3) := by decide +kernel
theorem dX5_takesWord_22 : decode cX5_takesWord 22 = .ok (.aload_n 0, 1) := by decide +kernel
theorem dX5_takesWord_23 : decode cX5_takesWord 23 = .ok (.getfield 26, 3) := by decide +kernel
theorem dX5_takesWord_26 : decode cX5_takesWord 26 = .ok (.iload_n 3, 1) := by decide +kernel
theorem dX5_takesWord_27 : decode cX5_takesWord 27 = .ok (.iconst 0, 1) := by decide +kernel
theorem dX5_takesWord_28 : decode cX5_takesWord 28 = .ok (.invokevirtual 240, 3) := by decide +kernel
theorem dX5_takesWord_31 : decode cX5_takesWord 31 = .ok (.iconst 1, 1) := by decide +kernel
theorem dX5_takesWord_32 : decode cX5_takesWord 32 = .ok (.ireturn, 1) := by decide +kernel
theorem dX5_takesWord_33 : decode cX5_takesWord 33 = .ok (.aload_n 0, 1) := by decide +kernel
theorem dX5_takesWord_34 : decode cX5_takesWord 34 = .ok (.getfield 19, 3) := by decide +kernel
theorem dX5_takesWord_37 : decode cX5_takesWord 37 = .ok (.iload_n 1, 1) := by decide +kernel
theorem dX5_takesWord_38 : decode cX5_takesWord 38 = .ok (.invokevirtual 244, 3) := by decide +kernel
theorem dX5_takesWord_41 : decode cX5_takesWord 41 = .ok (.aload_n 0, 1) := by decide +kernel
theorem dX5_takesWord_42 : decode cX5_takesWord 42 = .ok (.getfield 19, 3) := by decide +kernel
theorem dX5_takesWord_45 : decode cX5_takesWord 45 = .ok (.iload 4, 2) := by decide +kernel
theorem dX5_takesWord_47 : decode cX5_takesWord 47 = .ok (.invokevirtual 247, 3) := by decide +kernel
theorem dX5_takesWord_50 : decode cX5_takesWord 50 = .ok (.iand, 1) := by decide +kernel
theorem dX5_takesWord_51 : decode cX5_takesWord 51 = .ok (.istore 5, 2) := by decide +kernel
theorem dX5_takesWord_53 : decode cX5_takesWord 53 = .ok (.iload 5, 2) := by decide +kernel
theorem dX5_takesWord_55 : decode cX5_takesWord 55 = .ok (.ifCond .eq 30, 3) := by decide +kernel
theorem dX5_takesWord_58 : decode cX5_takesWord 58 = .ok (.aload_n 0, 1) := by decide +kernel
theorem dX5_takesWord_59 : decode cX5_takesWord 59 = .ok (.getfield 26, 3) := by decide +kernel
theorem dX5_takesWord_62 : decode cX5_takesWord 62 = .ok (.getfield 132, 3) := by decide +kernel
theorem dX5_takesWord_65 : decode cX5_takesWord 65 = .ok (.bipush 8, 2) := by decide +kernel
theorem dX5_takesWord_67 : decode cX5_takesWord 67 = .ok (.if_icmp .ge 18, 3) := by decide +kernel
theorem dX5_takesWord_70 : decode cX5_takesWord 70 = .ok (.aload_n 0, 1) := by decide +kernel
theorem dX5_takesWord_71 : decode cX5_takesWord 71 = .ok (.getfield 26, 3) := by decide +kernel
theorem dX5_takesWord_74 : decode cX5_takesWord 74 = .ok (.iload 5, 2) := by decide +kernel
theorem dX5_takesWord_76 : decode cX5_takesWord 76 = .ok (.invokestatic 250, 3) := by decide +kernel
theorem dX5_takesWord_79 : decode cX5_takesWord 79 = .ok (.iload_n 2, 1) := by decide +kernel
theorem dX5_takesWord_80 : decode cX5_takesWord 80 = .ok (.invokevirtual 253, 3) := by decide +kernel
theorem dX5_takesWord_83 : decode cX5_takesWord 83 = .ok (.iconst 1, 1) := by decide +kernel
theorem dX5_takesWord_84 : decode cX5_takesWord 84 = .ok (.ireturn, 1) := by decide +kernel
theorem dX5_takesWord_85 : decode cX5_takesWord 85 = .ok (.iload 4, 2) := by decide +kernel
theorem dX5_takesWord_87 : decode cX5_takesWord 87 = .ok (.bipush 6, 2) := by decide +kernel
theorem dX5_takesWord_89 : decode cX5_takesWord 89 = .ok (.if_icmp .eq 18, 3) := by decide +kernel
theorem dX5_takesWord_92 : decode cX5_takesWord 92 = .ok (.aload_n 0, 1) := by decide +kernel
theorem dX5_takesWord_93 : decode cX5_takesWord 93 = .ok (.getfield 19, 3) := by decide +kernel
theorem dX5_takesWord_96 : decode cX5_takesWord 96 = .ok (.getfield 112, 3) := by decide +kernel
theorem dX5_takesWord_99 : decode cX5_takesWord 99 = .ok (.iload 4, 2) := by decide +kernel
theorem dX5_takesWord_101 : decode cX5_takesWord 101 = .ok (.invokestatic 204, 3) := by decide +kernel
theorem dX5_takesWord_104 : decode cX5_takesWord 104 = .ok (.ifCond .eq 5, 3) := by decide +kernel
theorem dX5_takesWord_107 : decode cX5_takesWord 107 = .ok (.iconst 0, 1) := by decide +kernel
theorem dX5_takesWord_108 : decode cX5_takesWord 108 = .ok (.ireturn, 1) := by decide +kernel
theorem dX5_takesWord_109 : decode cX5_takesWord 109 = .ok (.aload_n 0, 1) := by decide +kernel
theorem dX5_takesWord_110 : decode cX5_takesWord 110 = .ok (.iload_n 1, 1) := by decide +kernel
theorem dX5_takesWord_111 : decode cX5_takesWord 111 = .ok (.iload_n 2, 1) := by decide +kernel
theorem dX5_takesWord_112 : decode cX5_takesWord 112 = .ok (.iload_n 3, 1) := by decide +kernel
theorem dX5_takesWord_113 : decode cX5_takesWord 113 = .ok (.invokevirtual 256, 3) := by decide +kernel
theorem dX5_takesWord_116 : decode cX5_takesWord 116 = .ok (.ireturn, 1) := by decide +kernel
theorem dX5_takesOuterClosing_0 : decode cX5_takesOuterClosing 0 = .ok (.aload_n 0, 1) := by decide +kernel
theorem dX5_takesOuterClosing_1 : decode cX5_takesOuterClosing 1 = .ok (.iload_n 1, 1) := by decide +kernel
theorem dX5_takesOuterClosing_2 : decode cX5_takesOuterClosing 2 = .ok (.invokevirtual 259, 3) := by decide +kernel
theorem dX5_takesOuterClosing_5 : decode cX5_takesOuterClosing 5 = .ok (.istore 4, 2) := by decide +kernel
theorem dX5_takesOuterClosing_7 : decode cX5_takesOuterClosing 7 = .ok (.iload 4, 2) := by decide +kernel
theorem dX5_takesOuterClosing_9 : decode cX5_takesOuterClosing 9 = .ok (.iconst (-1), 1) := by decide +kernel
theorem dX5_takesOuterClosing_10 : decode cX5_takesOuterClosing 10 = .ok (.if_icmp .ne 5, 3) := by decide +kernel
theorem dX5_takesOuterClosing_13 : decode cX5_takesOuterClosing 13 = .ok (.iconst 0, 1) := by decide +kernel
theorem dX5_takesOuterClosing_14 : decode cX5_takesOuterClosing 14 = .ok (.ireturn, 1) := by decide +kernel
theorem dX5_takesOuterClosing_15 : decode cX5_takesOuterClosing 15 = .ok (.aload_n 0, 1) := by decide +kernel
theorem dX5_takesOuterClosing_16 : decode cX5_takesOuterClosing 16 = .ok (.getfield 44, 3) := by decide +kernel
theorem dX5_takesOuterClosing_19 : decode cX5_takesOuterClosing 19 = .ok (.ifCond .eq 23, 3) := by decide +kernel
theorem dX5_takesOuterClosing_22 : decode cX5_takesOuterClosing 22 = .ok (.aload_n 0, 1) := by decide +kernel
theorem dX5_takesOuterClosing_23 : decode cX5_takesOuterClosing 23 = .ok (.iload 4, 2) := by decide +kernel
theorem dX5_takesOuterClosing_25 : decode cX5_takesOuterClosing 25 = .ok (.iload_n 2, 1) := by decide +kernel
theorem dX5_takesOuterClosing_26 : decode cX5_takesOuterClosing 26 = .ok (.iconst 1, 1) := by decide +kernel
theorem dX5_takesOuterClosing_27 : decode cX5_takesOuterClosing 27 = .ok (.invokevirtual 135, 3) := by decide +kernel
theorem dX5_takesOuterClosing_30 : decode cX5_takesOuterClosing 30 = .ok (.aload_n 0, 1) := by decide +kernel
theorem dX5_takesOuterClosing_31 : decode cX5_takesOuterClosing 31 = .ok (.getfield 26, 3) := by decide +kernel
theorem dX5_takesOuterClosing_34 : decode cX5_takesOuterClosing 34 = .ok (.iload_n 3, 1) := by decide +kernel
theorem dX5_takesOuterClosing_35 : decode cX5_takesOuterClosing 35 = .ok (.iconst 0, 1) := by decide +kernel
theorem dX5_takesOuterClosing_36 : decode cX5_takesOuterClosing 36 = .ok (.invokevirtual 240, 3) := by decide +kernel
theorem dX5_takesOuterClosing_39 : decode cX5_takesOuterClosing 39 = .ok (.goto 16, 3) := by decide +kernel
theorem dX5_takesOuterClosing_42 : decode cX5_takesOuterClosing 42 = .ok (.aload_n 0, 1) := by decide +kernel
theorem dX5_takesOuterClosing_43 : decode cX5_takesOuterClosing 43 = .ok (.getfield 26, 3) := by decide +kernel
theorem dX5_takesOuterClosing_46 : decode cX5_takesOuterClosing 46 = .ok (.dup, 1) := by decide +kernel
theorem dX5_takesOuterClosing_47 : decode cX5_takesOuterClosing 47 = .ok (.getfield 152, 3) := by decide +kernel
theorem dX5_takesOuterClosing_50 : decode cX5_takesOuterClosing 50 = .ok (.iconst 1, 1) := by decide +kernel
theorem dX5_takesOuterClosing_51 : decode cX5_takesOuterClosing 51 = .ok (.iadd, 1) := by decide +kernel
theorem dX5_takesOuterClosing_52 : decode cX5_takesOuterClosing 52 = .ok (.putfield 152, 3) := by decide +kernel
theorem dX5_takesOuterClosing_55 : decode cX5_takesOuterClosing 55 = .ok (.iconst 1, 1) := by decide +kernel
theorem dX5_takesOuterClosing_56 : decode cX5_takesOuterClosing 56 = .ok (.ireturn, 1) := by decide +kernel
theorem dX5_islandsInsideClosedBy_0 : decode cX5_islandsInsideClosedBy 0 = .ok (.iconst 1, 1) := by decide +kernel
theorem dX5_islandsInsideClosedBy_1 : decode cX5_islandsInsideClosedBy 1 = .ok (.istore_n 2, 1) := by decide +kernel
theorem dX5_islandsInsideClosedBy_2 : decode cX5_islandsInsideClosedBy 2 = .ok (.iload_n 2, 1) := by decide +kernel
theorem dX5_islandsInsideClosedBy_3 : decode cX5_islandsInsideClosedBy 3 = .ok (.aload_n 0, 1) := by decide +kernel
theorem dX5_islandsInsideClosedBy_4 : decode cX5_islandsInsideClosedBy 4 = .ok (.getfield 26, 3) := by decide +kernel
theorem dX5_islandsInsideClosedBy_7 : decode cX5_islandsInsideClosedBy 7 = .ok (.getfield 132, 3) := by decide +kernel
theorem dX5_islandsInsideClosedBy_10 : decode cX5_islandsInsideClosedBy 10 = .ok (.if_icmp .ge 30, 3) := by decide +kernel
theorem dX5_islandsInsideClosedBy_13 : decode cX5_islandsInsideClosedBy 13 = .ok (.aload_n 0, 1) := by decide +kernel
theorem dX5_islandsInsideClosedBy_14 : decode cX5_islandsInsideClosedBy 14 = .ok (.getfield 19, 3) := by decide +kernel
theorem dX5_islandsInsideClosedBy_17 : decode cX5_islandsInsideClosedBy 17 = .ok (.aload_n 0, 1) := by decide +kernel
theorem dX5_islandsInsideClosedBy_18 : decode cX5_islandsInsideClosedBy 18 = .ok (.getfield 26, 3) := by decide +kernel
theorem dX5_islandsInsideClosedBy_21 : decode cX5_islandsInsideClosedBy 21 = .ok (.iload_n 2, 1) := by decide +kernel
theorem dX5_islandsInsideClosedBy_22 : decode cX5_islandsInsideClosedBy 22 = .ok (.invokevirtual 262, 3) := by decide +kernel
theorem dX5_islandsInsideClosedBy_25 : decode cX5_islandsInsideClosedBy 25 = .ok (.iload_n 1, 1) := by decide +kernel
theorem dX5_islandsInsideClosedBy_26 : decode cX5_islandsInsideClosedBy 26 = .ok (.invokevirtual 237, 3) := by decide +kernel
theorem dX5_islandsInsideClosedBy_29 : decode cX5_islandsInsideClosedBy 29 = .ok (.ifCond .eq 5, 3) := by decide +kernel
theorem dX5_islandsInsideClosedBy_32 : decode cX5_islandsInsideClosedBy 32 = .ok (.iload_n 2, 1) := by decide +kernel
theorem dX5_islandsInsideClosedBy_33 : decode cX5_islandsInsideClosedBy 33 = .ok (.ireturn, 1) := by decide +kernel
theorem dX5_islandsInsideClosedBy_34 : decode cX5_islandsInsideClosedBy 34 = .ok (.iinc 2 1, 3) := by decide +kernel
theorem dX5_islandsInsideClosedBy_37 : decode cX5_islandsInsideClosedBy 37 = .ok (.goto (-35), 3) := by decide +kernel
theorem dX5_islandsInsideClosedBy_40 : decode cX5_islandsInsideClosedBy 40 = .ok (.iconst (-1), 1) := by decide +kernel
theorem dX5_islandsInsideClosedBy_41 : decode cX5_islandsInsideClosedBy 41 = .ok (.ireturn, 1) := by decide +kernel
theorem dX5_giveUp_0 : decode cX5_giveUp 0 = .ok (.iconst 0, 1) := by decide +kernel
theorem dX5_giveUp_1 : decode cX5_giveUp 1 = .ok (.istore 4, 2) := by decide +kernel
theorem dX5_giveUp_3 : decode cX5_giveUp 3 = .ok (.iload 4, 2) := by decide +kernel
theorem dX5_giveUp_5 : decode cX5_giveUp 5 = .ok (.iload_n 1, 1) := by decide +kernel
theorem dX5_giveUp_6 : decode cX5_giveUp 6 = .ok (.if_icmp .ge 18, 3) := by decide +kernel
theorem dX5_giveUp_9 : decode cX5_giveUp 9 = .ok (.aload_n 0, 1) := by decide +kernel
theorem dX5_giveUp_10 : decode cX5_giveUp 10 = .ok (.getfield 26, 3) := by decide +kernel
theorem dX5_giveUp_13 : decode cX5_giveUp 13 = .ok (.iload_n 2, 1) := by decide +kernel
theorem dX5_giveUp_14 : decode cX5_giveUp 14 = .ok (.iload_n 3, 1) := by decide +kernel
theorem dX5_giveUp_15 : decode cX5_giveUp 15 = .ok (.invokevirtual 240, 3) := by decide +kernel
theorem dX5_giveUp_18 : decode cX5_giveUp 18 = .ok (.iinc 4 1, 3) := by decide +kernel
theorem dX5_giveUp_21 : decode cX5_giveUp 21 = .ok (.goto (-18), 3) := by decide +kernel
theorem dX5_giveUp_24 : decode cX5_giveUp 24 = .ok (.return_, 1) := by decide +kernel
theorem dX5_smallestKind_0 : decode cX5_smallestKind 0 = .ok (.iconst 0, 1) := by decide +kernel
theorem dX5_smallestKind_1 : decode cX5_smallestKind 1 = .ok (.istore_n 1, 1) := by decide +kernel
theorem dX5_smallestKind_2 : decode cX5_smallestKind 2 = .ok (.iload_n 1, 1) := by decide +kernel
theorem dX5_smallestKind_3 : decode cX5_smallestKind 3 = .ok (.bipush 6, 2) := by decide +kernel
theorem dX5_smallestKind_5 : decode cX5_smallestKind 5 = .ok (.if_icmp .ge 19, 3) := by decide +kernel
theorem dX5_smallestKind_8 : decode cX5_smallestKind 8 = .ok (.iload_n 0, 1) := by decide +kernel
theorem dX5_smallestKind_9 : decode cX5_smallestKind 9 = .ok (.iload_n 1, 1) := by decide +kernel
theorem dX5_smallestKind_10 : decode cX5_smallestKind 10 = .ok (.invokestatic 204, 3) := by decide +kernel
theorem dX5_smallestKind_13 : decode cX5_smallestKind 13 = .ok (.ifCond .eq 5, 3) := by decide +kernel
theorem dX5_smallestKind_16 : decode cX5_smallestKind 16 = .ok (.iload_n 1, 1) := by decide +kernel
theorem dX5_smallestKind_17 : decode cX5_smallestKind 17 = .ok (.ireturn, 1) := by decide +kernel
theorem dX5_smallestKind_18 : decode cX5_smallestKind 18 = .ok (.iinc 1 1, 3) := by decide +kernel
theorem dX5_smallestKind_21 : decode cX5_smallestKind 21 = .ok (.goto (-19), 3) := by decide +kernel
theorem dX5_smallestKind_24 : decode cX5_smallestKind 24 = .ok (.iconst (-1), 1) := by decide +kernel
theorem dX5_smallestKind_25 : decode cX5_smallestKind 25 = .ok (.ireturn, 1) := by decide +kernel
end
section
theorem dX6_init_0 : decode cX6_init 0 = .ok (.aload_n 0, 1) := by decide +kernel
theorem dX6_init_1 : decode cX6_init 1 = .ok (.invokespecial 1, 3) := by decide +kernel
theorem dX6_init_4 : decode cX6_init 4 = .ok (.aload_n 0, 1) := by decide +kernel
theorem dX6_init_5 : decode cX6_init 5 = .ok (.bipush 48, 2) := by decide +kernel
theorem dX6_init_7 : decode cX6_init 7 = .ok (.newarray .int, 2) := by decide +kernel
theorem dX6_init_9 : decode cX6_init 9 = .ok (.putfield 9, 3) := by decide +kernel
theorem dX6_init_12 : decode cX6_init 12 = .ok (.aload_n 0, 1) := by decide +kernel
theorem dX6_init_13 : decode cX6_init 13 = .ok (.iconst (-1), 1) := by decide +kernel
theorem dX6_init_14 : decode cX6_init 14 = .ok (.putfield 13, 3) := by decide +kernel
theorem dX6_init_17 : decode cX6_init 17 = .ok (.aload_n 0, 1) := by decide +kernel
theorem dX6_init_18 : decode cX6_init 18 = .ok (.iconst 1, 1) := by decide +kernel
theorem dX6_init_19 : decode cX6_init 19 = .ok (.putfield 17, 3) := by decide +kernel
theorem dX6_init_22 : decode cX6_init 22 = .ok (.aload_n 0, 1) := by decide +kernel
theorem dX6_init_23 : decode cX6_init 23 = .ok (.bipush 12, 2) := by decide +kernel
theorem dX6_init_25 : decode cX6_init 25 = .ok (.newarray .int, 2) := by decide +kernel
theorem dX6_init_27 : decode cX6_init 27 = .ok (.putfield 21, 3) := by decide +kernel
theorem dX6_init_30 : decode cX6_init 30 = .ok (.aload_n 0, 1) := by decide +kernel
theorem dX6_init_31 : decode cX6_init 31 = .ok (.bipush 36, 2) := by decide +kernel
theorem dX6_init_33 : decode cX6_init 33 = .ok (.newarray .int, 2) := by decide +kernel
theorem dX6_init_35 : decode cX6_init 35 = .ok (.putfield 24, 3) := by decide +kernel
theorem dX6_init_38 : decode cX6_init 38 = .ok (.aload_n 0, 1) := by decide +kernel
theorem dX6_init_39 : decode cX6_init 39 = .ok (.bipush 6, 2) := by decide +kernel
theorem dX6_init_41 : decode cX6_init 41 = .ok (.newarray .boolean, 2) := by decide +kernel
theorem dX6_init_43 : decode cX6_init 43 = .ok (.putfield 27, 3) := by decide +kernel
theorem dX6_init_46 : decode cX6_init 46 = .ok (.aload_n 0, 1) := by decide +kernel
theorem dX6_init_47 : decode cX6_init 47 = .ok (.bipush 6, 2) := by decide +kernel
theorem dX6_init_49 : decode cX6_init 49 = .ok (.newarray .boolean, 2) := by decide +kernel
theorem dX6_init_51 : decode cX6_init 51 = .ok (.dup, 1) := by decide +kernel
theorem dX6_init_52 : decode cX6_init 52 = .ok (.iconst 0, 1) := by decide +kernel
theorem dX6_init_53 : decode cX6_init 53 = .ok (.iconst 1, 1) := by decide +kernel
theorem dX6_init_54 : decode cX6_init 54 = .ok (.bastore, 1) := by decide +kernel
theorem dX6_init_55 : decode cX6_init 55 = .ok (.dup, 1) := by decide +kernel
theorem dX6_init_56 : decode cX6_init 56 = .ok (.iconst 1, 1) := by decide +kernel
theorem dX6_init_57 : decode cX6_init 57 = .ok (.iconst 1, 1) := by decide +kernel
theorem dX6_init_58 : decode cX6_init 58 = .ok (.bastore, 1) := by decide +kernel
theorem dX6_init_59 : decode cX6_init 59 = .ok (.dup, 1) := by decide +kernel
theorem dX6_init_60 : decode cX6_init 60 = .ok (.iconst 2, 1) := by decide +kernel
theorem dX6_init_61 : decode cX6_init 61 = .ok (.iconst 1, 1) := by decide +kernel
theorem dX6_init_62 : decode cX6_init 62 = .ok (.bastore, 1) := by decide +kernel
theorem dX6_init_63 : decode cX6_init 63 = .ok (.dup, 1) := by decide +kernel
theorem dX6_init_64 : decode cX6_init 64 = .ok (.iconst 3, 1) := by decide +kernel
theorem dX6_init_65 : decode cX6_init 65 = .ok (.iconst 1, 1) := by decide +kernel
theorem dX6_init_66 : decode cX6_init 66 = .ok (.bastore, 1) := by decide +kernel
theorem dX6_init_67 : decode cX6_init 67 = .ok (.dup, 1) := by decide +kernel
theorem dX6_init_68 : decode cX6_init 68 = .ok (.iconst 4, 1) := by decide +kernel
theorem dX6_init_69 : decode cX6_init 69 = .ok (.iconst 1, 1) := by decide +kernel
theorem dX6_init_70 : decode cX6_init 70 = .ok (.bastore, 1) := by decide +kernel
theorem dX6_init_71 : decode cX6_init 71 = .ok (.dup, 1) := by decide +kernel
theorem dX6_init_72 : decode cX6_init 72 = .ok (.iconst 5, 1) := by decide +kernel
theorem dX6_init_73 : decode cX6_init 73 = .ok (.iconst 1, 1) := by decide +kernel
theorem dX6_init_74 : decode cX6_init 74 = .ok (.bastore, 1) := by decide +kernel
theorem dX6_init_75 : decode cX6_init 75 = .ok (.putfield 31, 3) := by decide +kernel
theorem dX6_init_78 : decode cX6_init 78 = .ok (.aload_n 0, 1) := by decide +kernel
theorem dX6_init_79 : decode cX6_init 79 = .ok (.bipush 6, 2) := by decide +kernel
theorem dX6_init_81 : decode cX6_init 81 = .ok (.newarray .int, 2) := by decide +kernel
theorem dX6_init_83 : decode cX6_init 83 = .ok (.dup, 1) := by decide +kernel
theorem dX6_init_84 : decode cX6_init 84 = .ok (.iconst 0, 1) := by decide +kernel
theorem dX6_init_85 : decode cX6_init 85 = .ok (.bipush 63, 2) := by decide +kernel
theorem dX6_init_87 : decode cX6_init 87 = .ok (.iastore, 1) := by decide +kernel
theorem dX6_init_88 : decode cX6_init 88 = .ok (.dup, 1) := by decide +kernel
theorem dX6_init_89 : decode cX6_init 89 = .ok (.iconst 1, 1) := by decide +kernel
theorem dX6_init_90 : decode cX6_init 90 = .ok (.bipush 63, 2) := by decide +kernel
theorem dX6_init_92 : decode cX6_init 92 = .ok (.iastore, 1) := by decide +kernel
theorem dX6_init_93 : decode cX6_init 93 = .ok (.dup, 1) := by decide +kernel
theorem dX6_init_94 : decode cX6_init 94 = .ok (.iconst 2, 1) := by decide +kernel
theorem dX6_init_95 : decode cX6_init 95 = .ok (.bipush 63, 2) := by decide +kernel
theorem dX6_init_97 : decode cX6_init 97 = .ok (.iastore, 1) := by decide +kernel
theorem dX6_init_98 : decode cX6_init 98 = .ok (.dup, 1) := by decide +kernel
theorem dX6_init_99 : decode cX6_init 99 = .ok (.iconst 3, 1) := by decide +kernel
theorem dX6_init_100 : decode cX6_init 100 = .ok (.bipush 63, 2) := by decide +kernel
theorem dX6_init_102 : decode cX6_init 102 = .ok (.iastore, 1) := by decide +kernel
theorem dX6_init_103 : decode cX6_init 103 = .ok (.dup, 1) := by decide +kernel
theorem dX6_init_104 : decode cX6_init 104 = .ok (.iconst 4, 1) := by decide +kernel
theorem dX6_init_105 : decode cX6_init 105 = .ok (.bipush 63, 2) := by decide +kernel
theorem dX6_init_107 : decode cX6_init 107 = .ok (.iastore, 1) := by decide +kernel
theorem dX6_init_108 : decode cX6_init 108 = .ok (.dup, 1) := by decide +kernel
theorem dX6_init_109 : decode cX6_init 109 = .ok (.iconst 5, 1) := by decide +kernel
theorem dX6_init_110 : decode cX6_init 110 = .ok (.bipush 63, 2) := by decide +kernel
theorem dX6_init_112 : decode cX6_init 112 = .ok (.iastore, 1) := by decide +kernel
theorem dX6_init_113 : decode cX6_init 113 = .ok (.putfield 34, 3) := by decide +kernel
theorem dX6_init_116 : decode cX6_init 116 = .ok (.aload_n 0, 1) := by decide +kernel
theorem dX6_init_117 : decode cX6_init 117 = .ok (.bipush 48, 2) := by decide +kernel
theorem dX6_init_119 : decode cX6_init 119 = .ok (.newarray .int, 2) := by decide +kernel
theorem dX6_init_121 : decode cX6_init 121 = .ok (.putfield 37, 3) := by decide +kernel
theorem dX6_init_124 : decode cX6_init 124 = .ok (.aload_n 0, 1) := by decide +kernel
theorem dX6_init_125 : decode cX6_init 125 = .ok (.bipush 48, 2) := by decide +kernel
theorem dX6_init_127 : decode cX6_init 127 = .ok (.newarray .int, 2) := by decide +kernel
theorem dX6_init_129 : decode cX6_init 129 = .ok (.putfield 40, 3) := by decide +kernel
theorem dX6_init_132 : decode cX6_init 132 = .ok (.aload_n 0, 1) := by decide +kernel
theorem dX6_init_133 : decode cX6_init 133 = .ok (.bipush 48, 2) := by decide +kernel
theorem dX6_init_135 : decode cX6_init 135 = .ok (.newarray .int, 2) := by decide +kernel
theorem dX6_init_137 : decode cX6_init 137 = .ok (.putfield 43, 3) := by decide +kernel
theorem dX6_init_140 : decode cX6_init 140 = .ok (.aload_n 0, 1) := by decide +kernel
theorem dX6_init_141 : decode cX6_init 141 = .ok (.bipush 48, 2) := by decide +kernel
theorem dX6_init_143 : decode cX6_init 143 = .ok (.newarray .int, 2) := by decide +kernel
theorem dX6_init_145 : decode cX6_init 145 = .ok (.putfield 46, 3) := by decide +kernel
theorem dX6_init_148 : decode cX6_init 148 = .ok (.aload_n 0, 1) := by decide +kernel
theorem dX6_init_149 : decode cX6_init 149 = .ok (.bipush 48, 2) := by decide +kernel
theorem dX6_init_151 : decode cX6_init 151 = .ok (.newarray .int, 2) := by decide +kernel
theorem dX6_init_153 : decode cX6_init 153 = .ok (.putfield 49, 3) := by decide +kernel
theorem dX6_init_156 : decode cX6_init 156 = .ok (.aload_n 0, 1) := by decide +kernel
theorem dX6_init_157 : decode cX6_init 157 = .ok (.bipush 8, 2) := by decide +kernel
theorem dX6_init_159 : decode cX6_init 159 = .ok (.newarray .int, 2) := by decide +kernel
theorem dX6_init_161 : decode cX6_init 161 = .ok (.putfield 52, 3) := by decide +kernel
theorem dX6_init_164 : decode cX6_init 164 = .ok (.aload_n 0, 1) := by decide +kernel
theorem dX6_init_165 : decode cX6_init 165 = .ok (.bipush 48, 2) := by decide +kernel
theorem dX6_init_167 : decode cX6_init 167 = .ok (.newarray .int, 2) := by decide +kernel
theorem dX6_init_169 : decode cX6_init 169 = .ok (.putfield 55, 3) := by decide +kernel
theorem dX6_init_172 : decode cX6_init 172 = .ok (.aload_n 0, 1) := by decide +kernel
theorem dX6_init_173 : decode cX6_init 173 = .ok (.bipush 48, 2) := by decide +kernel
theorem dX6_init_175 : decode cX6_init 175 = .ok (.newarray .int, 2) := by decide +kernel
theorem dX6_init_177 : decode cX6_init 177 = .ok (.putfield 58, 3) := by decide +kernel
theorem dX6_init_180 : decode cX6_init 180 = .ok (.aload_n 0, 1) := by decide +kernel
theorem dX6_init_181 : decode cX6_init 181 = .ok (.sipush 16807, 3) := by decide +kernel
theorem dX6_init_184 : decode cX6_init 184 = .ok (.newarray .int, 2) := by decide +kernel
theorem dX6_init_186 : decode cX6_init 186 = .ok (.putfield 61, 3) := by decide +kernel
theorem dX6_init_189 : decode cX6_init 189 = .ok (.return_, 1) := by decide +kernel
theorem dX6_thrown_0 : decode cX6_thrown 0 = .ok (.aload_n 0, 1) := by decide +kernel
theorem dX6_thrown_1 : decode cX6_thrown 1 = .ok (.getfield 64, 3) := by decide +kernel
theorem dX6_thrown_4 : decode cX6_thrown 4 = .ok (.ireturn, 1) := by decide +kernel
theorem dX6_no_0 : decode cX6_no 0 = .ok (.aload_n 0, 1) := by decide +kernel
theorem dX6_no_1 : decode cX6_no 1 = .ok (.iload_n 1, 1) := by decide +kernel
theorem dX6_no_2 : decode cX6_no 2 = .ok (.putfield 64, 3) := by decide +kernel
theorem dX6_no_5 : decode cX6_no 5 = .ok (.iconst 0, 1) := by decide +kernel
theorem dX6_no_6 : decode cX6_no 6 = .ok (.ireturn, 1) := by decide +kernel
theorem dX6_isIn_0 : decode cX6_isIn 0 = .ok (.iload_n 0, 1) := by decide +kernel
theorem dX6_isIn_1 : decode cX6_isIn 1 = .ok (.iload_n 1, 1) := by decide +kernel
theorem dX6_isIn_2 : decode cX6_isIn 2 = .ok (.if_icmp .lt 12, 3) := by decide +kernel
theorem dX6_isIn_5 : decode cX6_isIn 5 = .ok (.iload_n 0, 1) := by decide +kernel
theorem dX6_isIn_6 : decode cX6_isIn 6 = .ok (.iload_n 2, 1) := by decide +kernel
theorem dX6_isIn_7 : decode cX6_isIn 7 = .ok (.if_icmp .gt 7, 3) := by decide +kernel
theorem dX6_isIn_10 : decode cX6_isIn 10 = .ok (.iconst 1, 1) := by decide +kernel
theorem dX6_isIn_11 : decode cX6_isIn 11 = .ok (.goto 4, 3) := by decide +kernel
theorem dX6_isIn_14 : decode cX6_isIn 14 = .ok (.iconst 0, 1) := by decide +kernel
theorem dX6_isIn_15 : decode cX6_isIn 15 = .ok (.ireturn, 1) := by decide +kernel
theorem dX6_isByte_0 : decode cX6_isByte 0 = .ok (.iload_n 0, 1) := by decide +kernel
theorem dX6_isByte_1 : decode cX6_isByte 1 = .ok (.bipush 32, 2) := by decide +kernel
theorem dX6_isByte_3 : decode cX6_isByte 3 = .ok (.bipush 126, 2) := by decide +kernel
theorem dX6_isByte_5 : decode cX6_isByte 5 = .ok (.invokestatic 67, 3) := by decide +kernel
theorem dX6_isByte_8 : decode cX6_isByte 8 = .ok (.ireturn, 1) := by decide +kernel
theorem dX6_feed_0 : decode cX6_feed 0 = .ok (.aload_n 0, 1) := by decide +kernel
theorem dX6_feed_1 : decode cX6_feed 1 = .ok (.iconst 0, 1) := by decide +kernel
theorem dX6_feed_2 : decode cX6_feed 2 = .ok (.putfield 64, 3) := by decide +kernel
theorem dX6_feed_5 : decode cX6_feed 5 = .ok (.iconst 0, 1) := by decide +kernel
theorem dX6_feed_6 : decode cX6_feed 6 = .ok (.istore_n 3, 1) := by decide +kernel
theorem dX6_feed_7 : decode cX6_feed 7 = .ok (.bipush 56, 2) := by decide +kernel
theorem dX6_feed_9 : decode cX6_feed 9 = .ok (.istore 4, 2) := by decide +kernel
theorem dX6_feed_11 : decode cX6_feed 11 = .ok (.iload 4, 2) := by decide +kernel
theorem dX6_feed_13 : decode cX6_feed 13 = .ok (.ifCond .lt 52, 3) := by decide +kernel
theorem dX6_feed_16 : decode cX6_feed 16 = .ok (.lload_n 1, 1) := by decide +kernel
theorem dX6_feed_17 : decode cX6_feed 17 = .ok (.iload 4, 2) := by decide +kernel
theorem dX6_feed_19 : decode cX6_feed 19 = .ok (.lshr, 1) := by decide +kernel
theorem dX6_feed_20 : decode cX6_feed 20 = .ok (.ldc2_w 71, 3) := by decide +kernel
theorem dX6_feed_23 : decode cX6_feed 23 = .ok (.land, 1) := by decide +kernel
theorem dX6_feed_24 : decode cX6_feed 24 = .ok (.l2i, 1) := by decide +kernel
theorem dX6_feed_25 : decode cX6_feed 25 = .ok (.istore 5, 2) := by decide +kernel
theorem dX6_feed_27 : decode cX6_feed 27 = .ok (.iload 5, 2) := by decide +kernel
theorem dX6_feed_29 : decode cX6_feed 29 = .ok (.ifCond .eq 17, 3) := by decide +kernel
theorem dX6_feed_32 : decode cX6_feed 32 = .ok (.iload 5, 2) := by decide +kernel
theorem dX6_feed_34 : decode cX6_feed 34 = .ok (.invokestatic 73, 3) := by decide +kernel
theorem dX6_feed_37 : decode cX6_feed 37 = .ok (.ifCond .ne 9, 3) := by decide +kernel
theorem dX6_feed_40 : decode cX6_feed 40 = .ok (.aload_n 0, 1) := by decide +kernel
theorem dX6_feed_41 : decode cX6_feed 41 = .ok (.iconst 1, 1) := by decide +kernel
theorem dX6_feed_42 : decode cX6_feed 42 = .ok (.invokevirtual 77, 3) := by decide +kernel
theorem dX6_feed_45 : decode cX6_feed 45 = .ok (.ireturn, 1) := by decide +kernel
theorem dX6_feed_46 : decode cX6_feed 46 = .ok (.iload_n 3, 1) := by decide +kernel
theorem dX6_feed_47 : decode cX6_feed 47 = .ok (.iload 5, 2) := by decide +kernel
theorem dX6_feed_49 : decode cX6_feed 49 = .ok (.ifCond .ne 7, 3) := by decide +kernel
theorem dX6_feed_52 : decode cX6_feed 52 = .ok (.iconst 0, 1) := by decide +kernel
theorem dX6_feed_53 : decode cX6_feed 53 = .ok (.goto 4, 3) := by decide +kernel
theorem dX6_feed_56 : decode cX6_feed 56 = .ok (.iconst 1, 1) := by decide +kernel
theorem dX6_feed_57 : decode cX6_feed 57 = .ok (.iadd, 1) := by decide +kernel
theorem dX6_feed_58 : decode cX6_feed 58 = .ok (.istore_n 3, 1) := by decide +kernel
theorem dX6_feed_59 : decode cX6_feed 59 = .ok (.iinc 4 (-8), 3) := by decide +kernel
theorem dX6_feed_62 : decode cX6_feed 62 = .ok (.goto (-51), 3) := by decide +kernel
theorem dX6_feed_65 : decode cX6_feed 65 = .ok (.aload_n 0, 1) := by decide +kernel
theorem dX6_feed_66 : decode cX6_feed 66 = .ok (.getfield 81, 3) := by decide +kernel
theorem dX6_feed_69 : decode cX6_feed 69 = .ok (.iload_n 3, 1) := by decide +kernel
theorem dX6_feed_70 : decode cX6_feed 70 = .ok (.iadd, 1) := by decide +kernel
theorem dX6_feed_71 : decode cX6_feed 71 = .ok (.bipush 48, 2) := by decide +kernel
theorem dX6_feed_73 : decode cX6_feed 73 = .ok (.if_icmp .le 9, 3) := by decide +kernel
theorem dX6_feed_76 : decode cX6_feed 76 = .ok (.aload_n 0, 1) := by decide +kernel
theorem dX6_feed_77 : decode cX6_feed 77 = .ok (.iconst 2, 1) := by decide +kernel
theorem dX6_feed_78 : decode cX6_feed 78 = .ok (.invokevirtual 77, 3) := by decide +kernel
theorem dX6_feed_81 : decode cX6_feed 81 = .ok (.ireturn, 1) := by decide +kernel
theorem dX6_feed_82 : decode cX6_feed 82 = .ok (.bipush 56, 2) := by decide +kernel
theorem dX6_feed_84 : decode cX6_feed 84 = .ok (.istore 4, 2) := by decide +kernel
theorem dX6_feed_86 : decode cX6_feed 86 = .ok (.iload 4, 2) := by decide +kernel
theorem dX6_feed_88 : decode cX6_feed 88 = .ok (.ifCond .lt 49, 3) := by decide +kernel
theorem dX6_feed_91 : decode cX6_feed 91 = .ok (.lload_n 1, 1) := by decide +kernel
theorem dX6_feed_92 : decode cX6_feed 92 = .ok (.iload 4, 2) := by decide +kernel
theorem dX6_feed_94 : decode cX6_feed 94 = .ok (.lshr, 1) := by decide +kernel
theorem dX6_feed_95 : decode cX6_feed 95 = .ok (.ldc2_w 71, 3) := by decide +kernel
theorem dX6_feed_98 : decode cX6_feed 98 = .ok (.land, 1) := by decide +kernel
theorem dX6_feed_99 : decode cX6_feed 99 = .ok (.l2i, 1) := by decide +kernel
theorem dX6_feed_100 : decode cX6_feed 100 = .ok (.istore 5, 2) := by decide +kernel
theorem dX6_feed_102 : decode cX6_feed 102 = .ok (.iload 5, 2) := by decide +kernel
theorem dX6_feed_104 : decode cX6_feed 104 = .ok (.ifCond .ne 6, 3) := by decide +kernel
theorem dX6_feed_107 : decode cX6_feed 107 = .ok (.goto 24, 3) := by decide +kernel
theorem dX6_feed_110 : decode cX6_feed 110 = .ok (.aload_n 0, 1) := by decide +kernel
theorem dX6_feed_111 : decode cX6_feed 111 = .ok (.getfield 9, 3) := by decide +kernel
theorem dX6_feed_114 : decode cX6_feed 114 = .ok (.aload_n 0, 1) := by decide +kernel
theorem dX6_feed_115 : decode cX6_feed 115 = .ok (.getfield 81, 3) := by decide +kernel
theorem dX6_feed_118 : decode cX6_feed 118 = .ok (.iload 5, 2) := by decide +kernel
theorem dX6_feed_120 : decode cX6_feed 120 = .ok (.iastore, 1) := by decide +kernel
theorem dX6_feed_121 : decode cX6_feed 121 = .ok (.aload_n 0, 1) := by decide +kernel
theorem dX6_feed_122 : decode cX6_feed 122 = .ok (.dup, 1) := by decide +kernel
theorem dX6_feed_123 : decode cX6_feed 123 = .ok (.getfield 81, 3) := by decide +kernel
theorem dX6_feed_126 : decode cX6_feed 126 = .ok (.iconst 1, 1) := by decide +kernel
theorem dX6_feed_127 : decode cX6_feed 127 = .ok (.iadd, 1) := by decide +kernel
theorem dX6_feed_128 : decode cX6_feed 128 = .ok (.putfield 81, 3) := by decide +kernel
theorem dX6_feed_131 : decode cX6_feed 131 = .ok (.iinc 4 (-8), 3) := by decide +kernel
theorem dX6_feed_134 : decode cX6_feed 134 = .ok (.goto (-48), 3) := by decide +kernel
theorem dX6_feed_137 : decode cX6_feed 137 = .ok (.aload_n 0, 1) := by decide +kernel
theorem dX6_feed_138 : decode cX6_feed 138 = .ok (.iconst 0, 1) := by decide +kernel
theorem dX6_feed_139 : decode cX6_feed 139 = .ok (.putfield 84, 3) := by decide +kernel
theorem dX6_feed_142 : decode cX6_feed 142 = .ok (.aload_n 0, 1) := by decide +kernel
theorem dX6_feed_143 : decode cX6_feed 143 = .ok (.getfield 81, 3) := by decide +kernel
theorem dX6_feed_146 : decode cX6_feed 146 = .ok (.ireturn, 1) := by decide +kernel
theorem dX6_cut_0 : decode cX6_cut 0 = .ok (.aload_n 0, 1) := by decide +kernel
theorem dX6_cut_1 : decode cX6_cut 1 = .ok (.iconst 0, 1) := by decide +kernel
theorem dX6_cut_2 : decode cX6_cut 2 = .ok (.putfield 64, 3) := by decide +kernel
theorem dX6_cut_5 : decode cX6_cut 5 = .ok (.iload_n 1, 1) := by decide +kernel
theorem dX6_cut_6 : decode cX6_cut 6 = .ok (.iconst 0, 1) := by decide +kernel
theorem dX6_cut_7 : decode cX6_cut 7 = .ok (.aload_n 0, 1) := by decide +kernel
theorem dX6_cut_8 : decode cX6_cut 8 = .ok (.getfield 81, 3) := by decide +kernel
theorem dX6_cut_11 : decode cX6_cut 11 = .ok (.invokestatic 67, 3) := by decide +kernel
theorem dX6_cut_14 : decode cX6_cut 14 = .ok (.ifCond .ne 9, 3) := by decide +kernel
theorem dX6_cut_17 : decode cX6_cut 17 = .ok (.aload_n 0, 1) := by decide +kernel
theorem dX6_cut_18 : decode cX6_cut 18 = .ok (.iconst 1, 1) := by decide +kernel
theorem dX6_cut_19 : decode cX6_cut 19 = .ok (.invokevirtual 77, 3) := by decide +kernel
theorem dX6_cut_22 : decode cX6_cut 22 = .ok (.ireturn, 1) := by decide +kernel
theorem dX6_cut_23 : decode cX6_cut 23 = .ok (.aload_n 0, 1) := by decide +kernel
theorem dX6_cut_24 : decode cX6_cut 24 = .ok (.dup, 1) := by decide +kernel
theorem dX6_cut_25 : decode cX6_cut 25 = .ok (.getfield 81, 3) := by decide +kernel
theorem dX6_cut_28 : decode cX6_cut 28 = .ok (.iload_n 1, 1) := by decide +kernel
theorem dX6_cut_29 : decode cX6_cut 29 = .ok (.isub, 1) := by decide +kernel
theorem dX6_cut_30 : decode cX6_cut 30 = .ok (.putfield 81, 3) := by decide +kernel
theorem dX6_cut_33 : decode cX6_cut 33 = .ok (.aload_n 0, 1) := by decide +kernel
theorem dX6_cut_34 : decode cX6_cut 34 = .ok (.iconst 0, 1) := by decide +kernel
theorem dX6_cut_35 : decode cX6_cut 35 = .ok (.putfield 84, 3) := by decide +kernel
theorem dX6_cut_38 : decode cX6_cut 38 = .ok (.aload_n 0, 1) := by decide +kernel
theorem dX6_cut_39 : decode cX6_cut 39 = .ok (.getfield 81, 3) := by decide +kernel
theorem dX6_cut_42 : decode cX6_cut 42 = .ok (.ireturn, 1) := by decide +kernel
theorem dX6_set_0 : decode cX6_set 0 = .ok (.aload_n 0, 1) := by decide +kernel
theorem dX6_set_1 : decode cX6_set 1 = .ok (.iconst 0, 1) := by decide +kernel
theorem dX6_set_2 : decode cX6_set 2 = .ok (.putfield 64, 3) := by decide +kernel
theorem dX6_set_5 : decode cX6_set 5 = .ok (.iload_n 1, 1) := by decide +kernel
theorem dX6_set_6 : decode cX6_set 6 = .ok (.iconst 0, 1) := by decide +kernel
theorem dX6_set_7 : decode cX6_set 7 = .ok (.aload_n 0, 1) := by decide +kernel
theorem dX6_set_8 : decode cX6_set 8 = .ok (.getfield 81, 3) := by decide +kernel
theorem dX6_set_11 : decode cX6_set 11 = .ok (.iconst 1, 1) := by decide +kernel
theorem dX6_set_12 : decode cX6_set 12 = .ok (.isub, 1) := by decide +kernel
theorem dX6_set_13 : decode cX6_set 13 = .ok (.invokestatic 67, 3) := by decide +kernel
theorem dX6_set_16 : decode cX6_set 16 = .ok (.ifCond .ne 9, 3) := by decide +kernel
theorem dX6_set_19 : decode cX6_set 19 = .ok (.aload_n 0, 1) := by decide +kernel
theorem dX6_set_20 : decode cX6_set 20 = .ok (.iconst 1, 1) := by decide +kernel
theorem dX6_set_21 : decode cX6_set 21 = .ok (.invokevirtual 77, 3) := by decide +kernel
theorem dX6_set_24 : decode cX6_set 24 = .ok (.ireturn, 1) := by decide +kernel
theorem dX6_set_25 : decode cX6_set 25 = .ok (.iload_n 2, 1) := by decide +kernel
theorem dX6_set_26 : decode cX6_set 26 = .ok (.invokestatic 73, 3) := by decide +kernel
theorem dX6_set_29 : decode cX6_set 29 = .ok (.ifCond .ne 9, 3) := by decide +kernel
theorem dX6_set_32 : decode cX6_set 32 = .ok (.aload_n 0, 1) := by decide +kernel
theorem dX6_set_33 : decode cX6_set 33 = .ok (.iconst 2, 1) := by decide +kernel
theorem dX6_set_34 : decode cX6_set 34 = .ok (.invokevirtual 77, 3) := by decide +kernel
theorem dX6_set_37 : decode cX6_set 37 = .ok (.ireturn, 1) := by decide +kernel
theorem dX6_set_38 : decode cX6_set 38 = .ok (.aload_n 0, 1) := by decide +kernel
theorem dX6_set_39 : decode cX6_set 39 = .ok (.getfield 9, 3) := by decide +kernel
theorem dX6_set_42 : decode cX6_set 42 = .ok (.iload_n 1, 1) := by decide +kernel
theorem dX6_set_43 : decode cX6_set 43 = .ok (.iaload, 1) := by decide +kernel
theorem dX6_set_44 : decode cX6_set 44 = .ok (.istore_n 3, 1) := by decide +kernel
theorem dX6_set_45 : decode cX6_set 45 = .ok (.aload_n 0, 1) := by decide +kernel
theorem dX6_set_46 : decode cX6_set 46 = .ok (.getfield 9, 3) := by decide +kernel
theorem dX6_set_49 : decode cX6_set 49 = .ok (.iload_n 1, 1) := by decide +kernel
theorem dX6_set_50 : decode cX6_set 50 = .ok (.iload_n 2, 1) := by decide +kernel
theorem dX6_set_51 : decode cX6_set 51 = .ok (.iastore, 1) := by decide +kernel
theorem dX6_set_52 : decode cX6_set 52 = .ok (.aload_n 0, 1) := by decide +kernel
theorem dX6_set_53 : decode cX6_set 53 = .ok (.iconst 0, 1) := by decide +kernel
theorem dX6_set_54 : decode cX6_set 54 = .ok (.putfield 84, 3) := by decide +kernel
theorem dX6_set_57 : decode cX6_set 57 = .ok (.iload_n 3, 1) := by decide +kernel
theorem dX6_set_58 : decode cX6_set 58 = .ok (.ireturn, 1) := by decide +kernel
theorem dX6_size_0 : decode cX6_size 0 = .ok (.aload_n 0, 1) := by decide +kernel
theorem dX6_size_1 : decode cX6_size 1 = .ok (.iconst 0, 1) := by decide +kernel
theorem dX6_size_2 : decode cX6_size 2 = .ok (.putfield 64, 3) := by decide +kernel
theorem dX6_size_5 : decode cX6_size 5 = .ok (.aload_n 0, 1) := by decide +kernel
theorem dX6_size_6 : decode cX6_size 6 = .ok (.getfield 81, 3) := by decide +kernel
theorem dX6_size_9 : decode cX6_size 9 = .ok (.ireturn, 1) := by decide +kernel
theorem dX6_byteAt_0 : decode cX6_byteAt 0 = .ok (.aload_n 0, 1) := by decide +kernel
theorem dX6_byteAt_1 : decode cX6_byteAt 1 = .ok (.iconst 0, 1) := by decide +kernel
theorem dX6_byteAt_2 : decode cX6_byteAt 2 = .ok (.putfield 64, 3) := by decide +kernel
theorem dX6_byteAt_5 : decode cX6_byteAt 5 = .ok (.iload_n 1, 1) := by decide +kernel
theorem dX6_byteAt_6 : decode cX6_byteAt 6 = .ok (.iconst 0, 1) := by decide +kernel
theorem dX6_byteAt_7 : decode cX6_byteAt 7 = .ok (.aload_n 0, 1) := by decide +kernel
theorem dX6_byteAt_8 : decode cX6_byteAt 8 = .ok (.getfield 81, 3) := by decide +kernel
theorem dX6_byteAt_11 : decode cX6_byteAt 11 = .ok (.iconst 1, 1) := by decide +kernel
theorem dX6_byteAt_12 : decode cX6_byteAt 12 = .ok (.isub, 1) := by decide +kernel
theorem dX6_byteAt_13 : decode cX6_byteAt 13 = .ok (.invokestatic 67, 3) := by decide +kernel
theorem dX6_byteAt_16 : decode cX6_byteAt 16 = .ok (.ifCond .eq 12, 3) := by decide +kernel
theorem dX6_byteAt_19 : decode cX6_byteAt 19 = .ok (.aload_n 0, 1) := by decide +kernel
theorem dX6_byteAt_20 : decode cX6_byteAt 20 = .ok (.getfield 9, 3) := by decide +kernel
theorem dX6_byteAt_23 : decode cX6_byteAt 23 = .ok (.iload_n 1, 1) := by decide +kernel
theorem dX6_byteAt_24 : decode cX6_byteAt 24 = .ok (.iaload, 1) := by decide +kernel
theorem dX6_byteAt_25 : decode cX6_byteAt 25 = .ok (.goto 8, 3) := by decide +kernel
theorem dX6_byteAt_28 : decode cX6_byteAt 28 = .ok (.aload_n 0, 1) := by decide +kernel
theorem dX6_byteAt_29 : decode cX6_byteAt 29 = .ok (.iconst 1, 1) := by decide +kernel
theorem dX6_byteAt_30 : decode cX6_byteAt 30 = .ok (.invokevirtual 77, 3) := by decide +kernel
theorem dX6_byteAt_33 : decode cX6_byteAt 33 = .ok (.ireturn, 1) := by decide +kernel
theorem dX6_setEscape_0 : decode cX6_setEscape 0 = .ok (.aload_n 0, 1) := by decide +kernel
theorem dX6_setEscape_1 : decode cX6_setEscape 1 = .ok (.iconst 0, 1) := by decide +kernel
theorem dX6_setEscape_2 : decode cX6_setEscape 2 = .ok (.putfield 64, 3) := by decide +kernel
theorem dX6_setEscape_5 : decode cX6_setEscape 5 = .ok (.iload_n 1, 1) := by decide +kernel
theorem dX6_setEscape_6 : decode cX6_setEscape 6 = .ok (.iconst (-1), 1) := by decide +kernel
theorem dX6_setEscape_7 : decode cX6_setEscape 7 = .ok (.if_icmp .eq 16, 3) := by decide +kernel
theorem dX6_setEscape_10 : decode cX6_setEscape 10 = .ok (.iload_n 1, 1) := by decide +kernel
theorem dX6_setEscape_11 : decode cX6_setEscape 11 = .ok (.invokestatic 73, 3) := by decide +kernel
theorem dX6_setEscape_14 : decode cX6_setEscape 14 = .ok (.ifCond .ne 9, 3) := by decide +kernel
theorem dX6_setEscape_17 : decode cX6_setEscape 17 = .ok (.aload_n 0, 1) := by decide +kernel
theorem dX6_setEscape_18 : decode cX6_setEscape 18 = .ok (.iconst 1, 1) := by decide +kernel
theorem dX6_setEscape_19 : decode cX6_setEscape 19 = .ok (.invokevirtual 77, 3) := by decide +kernel
theorem dX6_setEscape_22 : decode cX6_setEscape 22 = .ok (.ireturn, 1) := by decide +kernel
theorem dX6_setEscape_23 : decode cX6_setEscape 23 = .ok (.aload_n 0, 1) := by decide +kernel
theorem dX6_setEscape_24 : decode cX6_setEscape 24 = .ok (.getfield 13, 3) := by decide +kernel
theorem dX6_setEscape_27 : decode cX6_setEscape 27 = .ok (.istore_n 2, 1) := by decide +kernel
theorem dX6_setEscape_28 : decode cX6_setEscape 28 = .ok (.aload_n 0, 1) := by decide +kernel
theorem dX6_setEscape_29 : decode cX6_setEscape 29 = .ok (.iload_n 1, 1) := by decide +kernel
theorem dX6_setEscape_30 : decode cX6_setEscape 30 = .ok (.putfield 13, 3) := by decide +kernel
theorem dX6_setEscape_33 : decode cX6_setEscape 33 = .ok (.aload_n 0, 1) := by decide +kernel
theorem dX6_setEscape_34 : decode cX6_setEscape 34 = .ok (.iconst 0, 1) := by decide +kernel
theorem dX6_setEscape_35 : decode cX6_setEscape 35 = .ok (.putfield 84, 3) := by decide +kernel
theorem dX6_setEscape_38 : decode cX6_setEscape 38 = .ok (.iload_n 2, 1) := by decide +kernel
theorem dX6_setEscape_39 : decode cX6_setEscape 39 = .ok (.ireturn, 1) := by decide +kernel
theorem dX6_isComplete_0 : decode cX6_isComplete 0 = .ok (.aload_n 0, 1) := by decide +kernel
theorem dX6_isComplete_1 : decode cX6_isComplete 1 = .ok (.getfield 21, 3) := by decide +kernel
theorem dX6_isComplete_4 : decode cX6_isComplete 4 = .ok (.iload_n 1, 1) := by decide +kernel
theorem dX6_isComplete_5 : decode cX6_isComplete 5 = .ok (.iaload, 1) := by decide +kernel
theorem dX6_isComplete_6 : decode cX6_isComplete 6 = .ok (.ifCond .le 19, 3) := by decide +kernel
theorem dX6_isComplete_9 : decode cX6_isComplete 9 = .ok (.aload_n 0, 1) := by decide +kernel
theorem dX6_isComplete_10 : decode cX6_isComplete 10 = .ok (.getfield 21, 3) := by decide +kernel
theorem dX6_isComplete_13 : decode cX6_isComplete 13 = .ok (.bipush 6, 2) := by decide +kernel
theorem dX6_isComplete_15 : decode cX6_isComplete 15 = .ok (.iload_n 1, 1) := by decide +kernel
theorem dX6_isComplete_16 : decode cX6_isComplete 16 = .ok (.iadd, 1) := by decide +kernel
theorem dX6_isComplete_17 : decode cX6_isComplete 17 = .ok (.iaload, 1) := by decide +kernel
theorem dX6_isComplete_18 : decode cX6_isComplete 18 = .ok (.ifCond .le 7, 3) := by decide +kernel
theorem dX6_isComplete_21 : decode cX6_isComplete 21 = .ok (.iconst 1, 1) := by decide +kernel
theorem dX6_isComplete_22 : decode cX6_isComplete 22 = .ok (.goto 4, 3) := by decide +kernel
theorem dX6_isComplete_25 : decode cX6_isComplete 25 = .ok (.iconst 0, 1) := by decide +kernel
theorem dX6_isComplete_26 : decode cX6_isComplete 26 = .ok (.ireturn, 1) := by decide +kernel
theorem dX6_setWord_0 : decode cX6_setWord 0 = .ok (.aload_n 0, 1) := by decide +kernel
theorem dX6_setWord_1 : decode cX6_setWord 1 = .ok (.iload_n 1, 1) := by decide +kernel
theorem dX6_setWord_2 : decode cX6_setWord 2 = .ok (.iconst 0, 1) := by decide +kernel
theorem dX6_setWord_3 : decode cX6_setWord 3 = .ok (.iconst 5, 1) := by decide +kernel
theorem dX6_setWord_4 : decode cX6_setWord 4 = .ok (.invokestatic 67, 3) := by decide +kernel
theorem dX6_setWord_7 : decode cX6_setWord 7 = .ok (.ifCond .ne 7, 3) := by decide +kernel
theorem dX6_setWord_10 : decode cX6_setWord 10 = .ok (.iconst 1, 1) := by decide +kernel
theorem dX6_setWord_11 : decode cX6_setWord 11 = .ok (.goto 18, 3) := by decide +kernel
theorem dX6_setWord_14 : decode cX6_setWord 14 = .ok (.iload 4, 2) := by decide +kernel
theorem dX6_setWord_16 : decode cX6_setWord 16 = .ok (.iconst 0, 1) := by decide +kernel
theorem dX6_setWord_17 : decode cX6_setWord 17 = .ok (.iconst 3, 1) := by decide +kernel
theorem dX6_setWord_18 : decode cX6_setWord 18 = .ok (.invokestatic 67, 3) := by decide +kernel
theorem dX6_setWord_21 : decode cX6_setWord 21 = .ok (.ifCond .ne 7, 3) := by decide +kernel
theorem dX6_setWord_24 : decode cX6_setWord 24 = .ok (.iconst 2, 1) := by decide +kernel
theorem dX6_setWord_25 : decode cX6_setWord 25 = .ok (.goto 4, 3) := by decide +kernel
theorem dX6_setWord_28 : decode cX6_setWord 28 = .ok (.iconst 0, 1) := by decide +kernel
theorem dX6_setWord_29 : decode cX6_setWord 29 = .ok (.putfield 64, 3) := by decide +kernel
theorem dX6_setWord_32 : decode cX6_setWord 32 = .ok (.iconst 0, 1) := by decide +kernel
theorem dX6_setWord_33 : decode cX6_setWord 33 = .ok (.istore 5, 2) := by decide +kernel
theorem dX6_setWord_35 : decode cX6_setWord 35 = .ok (.iload 5, 2) := by decide +kernel
theorem dX6_setWord_37 : decode cX6_setWord 37 = .ok (.iload 4, 2) := by decide +kernel
theorem dX6_setWord_39 : decode cX6_setWord 39 = .ok (.if_icmp .ge 38, 3) := by decide +kernel
theorem dX6_setWord_42 : decode cX6_setWord 42 = .ok (.aload_n 0, 1) := by decide +kernel
theorem dX6_setWord_43 : decode cX6_setWord 43 = .ok (.getfield 64, 3) := by decide +kernel
theorem dX6_setWord_46 : decode cX6_setWord 46 = .ok (.ifCond .ne 31, 3) := by decide +kernel
theorem dX6_setWord_49 : decode cX6_setWord 49 = .ok (.iload_n 3, 1) := by decide +kernel
theorem dX6_setWord_50 : decode cX6_setWord 50 = .ok (.bipush 8, 2) := by decide +kernel
theorem dX6_setWord_52 : decode cX6_setWord 52 = .ok (.iload 5, 2) := by decide +kernel
theorem dX6_setWord_54 : decode cX6_setWord 54 = .ok (.imul, 1) := by decide +kernel
theorem dX6_setWord_55 : decode cX6_setWord 55 = .ok (.ishr, 1) := by decide +kernel
theorem dX6_setWord_56 : decode cX6_setWord 56 = .ok (.sipush 255, 3) := by decide +kernel
theorem dX6_setWord_59 : decode cX6_setWord 59 = .ok (.iand, 1) := by decide +kernel
theorem dX6_setWord_60 : decode cX6_setWord 60 = .ok (.invokestatic 73, 3) := by decide +kernel
theorem dX6_setWord_63 : decode cX6_setWord 63 = .ok (.ifCond .ne 8, 3) := by decide +kernel
theorem dX6_setWord_66 : decode cX6_setWord 66 = .ok (.aload_n 0, 1) := by decide +kernel
theorem dX6_setWord_67 : decode cX6_setWord 67 = .ok (.iconst 2, 1) := by decide +kernel
theorem dX6_setWord_68 : decode cX6_setWord 68 = .ok (.putfield 64, 3) := by decide +kernel
theorem dX6_setWord_71 : decode cX6_setWord 71 = .ok (.iinc 5 1, 3) := by decide +kernel
theorem dX6_setWord_74 : decode cX6_setWord 74 = .ok (.goto (-39), 3) := by decide +kernel
theorem dX6_setWord_77 : decode cX6_setWord 77 = .ok (.aload_n 0, 1) := by decide +kernel
theorem dX6_setWord_78 : decode cX6_setWord 78 = .ok (.getfield 64, 3) := by decide +kernel
theorem dX6_setWord_81 : decode cX6_setWord 81 = .ok (.ifCond .eq 5, 3) := by decide +kernel
theorem dX6_setWord_84 : decode cX6_setWord 84 = .ok (.iconst 0, 1) := by decide +kernel
theorem dX6_setWord_85 : decode cX6_setWord 85 = .ok (.ireturn, 1) := by decide +kernel
theorem dX6_setWord_86 : decode cX6_setWord 86 = .ok (.iload_n 2, 1) := by decide +kernel
theorem dX6_setWord_87 : decode cX6_setWord 87 = .ok (.ifCond .eq 10, 3) := by decide +kernel
theorem dX6_setWord_90 : decode cX6_setWord 90 = .ok (.bipush 6, 2) := by decide +kernel
theorem dX6_setWord_92 : decode cX6_setWord 92 = .ok (.iload_n 1, 1) := by decide +kernel
theorem dX6_setWord_93 : decode cX6_setWord 93 = .ok (.iadd, 1) := by decide +kernel
theorem dX6_setWord_94 : decode cX6_setWord 94 = .ok (.goto 4, 3) := by decide +kernel
theorem dX6_setWord_97 : decode cX6_setWord 97 = .ok (.iload_n 1, 1) := by decide +kernel
theorem dX6_setWord_98 : decode cX6_setWord 98 = .ok (.istore 5, 2) := by decide +kernel
theorem dX6_setWord_100 : decode cX6_setWord 100 = .ok (.aload_n 0, 1) := by decide +kernel
theorem dX6_setWord_101 : decode cX6_setWord 101 = .ok (.getfield 21, 3) := by decide +kernel
theorem dX6_setWord_104 : decode cX6_setWord 104 = .ok (.iload 5, 2) := by decide +kernel
theorem dX6_setWord_106 : decode cX6_setWord 106 = .ok (.iload 4, 2) := by decide +kernel
theorem dX6_setWord_108 : decode cX6_setWord 108 = .ok (.iastore, 1) := by decide +kernel
theorem dX6_setWord_109 : decode cX6_setWord 109 = .ok (.iconst 0, 1) := by decide +kernel
theorem dX6_setWord_110 : decode cX6_setWord 110 = .ok (.istore 6, 2) := by decide +kernel
theorem dX6_setWord_112 : decode cX6_setWord 112 = .ok (.iload 6, 2) := by decide +kernel
theorem dX6_setWord_114 : decode cX6_setWord 114 = .ok (.iload 4, 2) := by decide +kernel
theorem dX6_setWord_116 : decode cX6_setWord 116 = .ok (.if_icmp .ge 37, 3) := by decide +kernel
theorem dX6_setWord_119 : decode cX6_setWord 119 = .ok (.aload_n 0, 1) := by decide +kernel
theorem dX6_setWord_120 : decode cX6_setWord 120 = .ok (.getfield 24, 3) := by decide +kernel
theorem dX6_setWord_123 : decode cX6_setWord 123 = .ok (.iconst 3, 1) := by decide +kernel
theorem dX6_setWord_124 : decode cX6_setWord 124 = .ok (.iload 5, 2) := by decide +kernel
theorem dX6_setWord_126 : decode cX6_setWord 126 = .ok (.imul, 1) := by decide +kernel
theorem dX6_setWord_127 : decode cX6_setWord 127 = .ok (.iload 6, 2) := by decide +kernel
theorem dX6_setWord_129 : decode cX6_setWord 129 = .ok (.iadd, 1) := by decide +kernel
theorem dX6_setWord_130 : decode cX6_setWord 130 = .ok (.iload_n 3, 1) := by decide +kernel
theorem dX6_setWord_131 : decode cX6_setWord 131 = .ok (.bipush 8, 2) := by decide +kernel
theorem dX6_setWord_133 : decode cX6_setWord 133 = .ok (.iload 4, 2) := by decide +kernel
theorem dX6_setWord_135 : decode cX6_setWord 135 = .ok (.iconst 1, 1) := by decide +kernel
theorem dX6_setWord_136 : decode cX6_setWord 136 = .ok (.isub, 1) := by decide +kernel
theorem dX6_setWord_137 : decode cX6_setWord 137 = .ok (.iload 6, 2) := by decide +kernel
theorem dX6_setWord_139 : decode cX6_setWord 139 = .ok (.isub, 1) := by decide +kernel
theorem dX6_setWord_140 : decode cX6_setWord 140 = .ok (.imul, 1) := by decide +kernel
theorem dX6_setWord_141 : decode cX6_setWord 141 = .ok (.ishr, 1) := by decide +kernel
theorem dX6_setWord_142 : decode cX6_setWord 142 = .ok (.sipush 255, 3) := by decide +kernel
theorem dX6_setWord_145 : decode cX6_setWord 145 = .ok (.iand, 1) := by decide +kernel
theorem dX6_setWord_146 : decode cX6_setWord 146 = .ok (.iastore, 1) := by decide +kernel
theorem dX6_setWord_147 : decode cX6_setWord 147 = .ok (.iinc 6 1, 3) := by decide +kernel
theorem dX6_setWord_150 : decode cX6_setWord 150 = .ok (.goto (-38), 3) := by decide +kernel
theorem dX6_setWord_153 : decode cX6_setWord 153 = .ok (.aload_n 0, 1) := by decide +kernel
theorem dX6_setWord_154 : decode cX6_setWord 154 = .ok (.iconst 0, 1) := by decide +kernel
theorem dX6_setWord_155 : decode cX6_setWord 155 = .ok (.putfield 84, 3) := by decide +kernel
theorem dX6_setWord_158 : decode cX6_setWord 158 = .ok (.aload_n 0, 1) := by decide +kernel
theorem dX6_setWord_159 : decode cX6_setWord 159 = .ok (.iload_n 1, 1) := by decide +kernel
theorem dX6_setWord_160 : decode cX6_setWord 160 = .ok (.invokevirtual 87, 3) := by decide +kernel
theorem dX6_setWord_163 : decode cX6_setWord 163 = .ok (.ireturn, 1) := by decide +kernel
theorem dX6_setKind_0 : decode cX6_setKind 0 = .ok (.aload_n 0, 1) := by decide +kernel
theorem dX6_setKind_1 : decode cX6_setKind 1 = .ok (.iconst 0, 1) := by decide +kernel
theorem dX6_setKind_2 : decode cX6_setKind 2 = .ok (.putfield 64, 3) := by decide +kernel
theorem dX6_setKind_5 : decode cX6_setKind 5 = .ok (.iload_n 1, 1) := by decide +kernel
theorem dX6_setKind_6 : decode cX6_setKind 6 = .ok (.iconst 0, 1) := by decide +kernel
theorem dX6_setKind_7 : decode cX6_setKind 7 = .ok (.iconst 5, 1) := by decide +kernel
theorem dX6_setKind_8 : decode cX6_setKind 8 = .ok (.invokestatic 67, 3) := by decide +kernel
theorem dX6_setKind_11 : decode cX6_setKind 11 = .ok (.ifCond .ne 9, 3) := by decide +kernel
theorem dX6_setKind_14 : decode cX6_setKind 14 = .ok (.aload_n 0, 1) := by decide +kernel
theorem dX6_setKind_15 : decode cX6_setKind 15 = .ok (.iconst 1, 1) := by decide +kernel
theorem dX6_setKind_16 : decode cX6_setKind 16 = .ok (.invokevirtual 77, 3) := by decide +kernel
theorem dX6_setKind_19 : decode cX6_setKind 19 = .ok (.ireturn, 1) := by decide +kernel
theorem dX6_setKind_20 : decode cX6_setKind 20 = .ok (.iload 4, 2) := by decide +kernel
theorem dX6_setKind_22 : decode cX6_setKind 22 = .ok (.iconst 0, 1) := by decide +kernel
theorem dX6_setKind_23 : decode cX6_setKind 23 = .ok (.bipush 63, 2) := by decide +kernel
theorem dX6_setKind_25 : decode cX6_setKind 25 = .ok (.invokestatic 67, 3) := by decide +kernel
theorem dX6_setKind_28 : decode cX6_setKind 28 = .ok (.ifCond .ne 9, 3) := by decide +kernel
theorem dX6_setKind_31 : decode cX6_setKind 31 = .ok (.aload_n 0, 1) := by decide +kernel
theorem dX6_setKind_32 : decode cX6_setKind 32 = .ok (.iconst 2, 1) := by decide +kernel
theorem dX6_setKind_33 : decode cX6_setKind 33 = .ok (.invokevirtual 77, 3) := by decide +kernel
theorem dX6_setKind_36 : decode cX6_setKind 36 = .ok (.ireturn, 1) := by decide +kernel
theorem dX6_setKind_37 : decode cX6_setKind 37 = .ok (.aload_n 0, 1) := by decide +kernel
theorem dX6_setKind_38 : decode cX6_setKind 38 = .ok (.getfield 34, 3) := by decide +kernel
theorem dX6_setKind_41 : decode cX6_setKind 41 = .ok (.iload_n 1, 1) := by decide +kernel
theorem dX6_setKind_42 : decode cX6_setKind 42 = .ok (.iaload, 1) := by decide +kernel
theorem dX6_setKind_43 : decode cX6_setKind 43 = .ok (.istore 5, 2) := by decide +kernel
theorem dX6_setKind_45 : decode cX6_setKind 45 = .ok (.aload_n 0, 1) := by decide +kernel
theorem dX6_setKind_46 : decode cX6_setKind 46 = .ok (.getfield 27, 3) := by decide +kernel
theorem dX6_setKind_49 : decode cX6_setKind 49 = .ok (.iload_n 1, 1) := by decide +kernel
theorem dX6_setKind_50 : decode cX6_setKind 50 = .ok (.iload_n 2, 1) := by decide +kernel
theorem dX6_setKind_51 : decode cX6_setKind 51 = .ok (.bastore, 1) := by decide +kernel
theorem dX6_setKind_52 : decode cX6_setKind 52 = .ok (.aload_n 0, 1) := by decide +kernel
theorem dX6_setKind_53 : decode cX6_setKind 53 = .ok (.getfield 31, 3) := by decide +kernel
theorem dX6_setKind_56 : decode cX6_setKind 56 = .ok (.iload_n 1, 1) := by decide +kernel
theorem dX6_setKind_57 : decode cX6_setKind 57 = .ok (.iload_n 3, 1) := by decide +kernel
theorem dX6_setKind_58 : decode cX6_setKind 58 = .ok (.bastore, 1) := by decide +kernel
theorem dX6_setKind_59 : decode cX6_setKind 59 = .ok (.aload_n 0, 1) := by decide +kernel
theorem dX6_setKind_60 : decode cX6_setKind 60 = .ok (.getfield 34, 3) := by decide +kernel
theorem dX6_setKind_63 : decode cX6_setKind 63 = .ok (.iload_n 1, 1) := by decide +kernel
theorem dX6_setKind_64 : decode cX6_setKind 64 = .ok (.iload 4, 2) := by decide +kernel
theorem dX6_setKind_66 : decode cX6_setKind 66 = .ok (.iastore, 1) := by decide +kernel
theorem dX6_setKind_67 : decode cX6_setKind 67 = .ok (.aload_n 0, 1) := by decide +kernel
theorem dX6_setKind_68 : decode cX6_setKind 68 = .ok (.iconst 0, 1) := by decide +kernel
theorem dX6_setKind_69 : decode cX6_setKind 69 = .ok (.putfield 84, 3) := by decide +kernel
theorem dX6_setKind_72 : decode cX6_setKind 72 = .ok (.iload 5, 2) := by decide +kernel
theorem dX6_setKind_74 : decode cX6_setKind 74 = .ok (.ireturn, 1) := by decide +kernel
theorem dX6_setLenient_0 : decode cX6_setLenient 0 = .ok (.aload_n 0, 1) := by decide +kernel
theorem dX6_setLenient_1 : decode cX6_setLenient 1 = .ok (.iconst 0, 1) := by decide +kernel
theorem dX6_setLenient_2 : decode cX6_setLenient 2 = .ok (.putfield 64, 3) := by decide +kernel
theorem dX6_setLenient_5 : decode cX6_setLenient 5 = .ok (.aload_n 0, 1) := by decide +kernel
theorem dX6_setLenient_6 : decode cX6_setLenient 6 = .ok (.getfield 17, 3) := by decide +kernel
theorem dX6_setLenient_9 : decode cX6_setLenient 9 = .ok (.istore_n 2, 1) := by decide +kernel
theorem dX6_setLenient_10 : decode cX6_setLenient 10 = .ok (.aload_n 0, 1) := by decide +kernel
theorem dX6_setLenient_11 : decode cX6_setLenient 11 = .ok (.iload_n 1, 1) := by decide +kernel
theorem dX6_setLenient_12 : decode cX6_setLenient 12 = .ok (.putfield 17, 3) := by decide +kernel
theorem dX6_setLenient_15 : decode cX6_setLenient 15 = .ok (.aload_n 0, 1) := by decide +kernel
theorem dX6_setLenient_16 : decode cX6_setLenient 16 = .ok (.iconst 0, 1) := by decide +kernel
theorem dX6_setLenient_17 : decode cX6_setLenient 17 = .ok (.putfield 84, 3) := by decide +kernel
theorem dX6_setLenient_20 : decode cX6_setLenient 20 = .ok (.iload_n 2, 1) := by decide +kernel
theorem dX6_setLenient_21 : decode cX6_setLenient 21 = .ok (.ireturn, 1) := by decide +kernel
theorem dX6_stands_0 : decode cX6_stands 0 = .ok (.aload_n 0, 1) := by decide +kernel
theorem dX6_stands_1 : decode cX6_stands 1 = .ok (.getfield 21, 3) := by decide +kernel
theorem dX6_stands_4 : decode cX6_stands 4 = .ok (.iload_n 1, 1) := by decide +kernel
theorem dX6_stands_5 : decode cX6_stands 5 = .ok (.iaload, 1) := by decide +kernel
theorem dX6_stands_6 : decode cX6_stands 6 = .ok (.ifCond .eq 18, 3) := by decide +kernel
theorem dX6_stands_9 : decode cX6_stands 9 = .ok (.iload_n 2, 1) := by decide +kernel
theorem dX6_stands_10 : decode cX6_stands 10 = .ok (.aload_n 0, 1) := by decide +kernel
theorem dX6_stands_11 : decode cX6_stands 11 = .ok (.getfield 21, 3) := by decide +kernel
theorem dX6_stands_14 : decode cX6_stands 14 = .ok (.iload_n 1, 1) := by decide +kernel
theorem dX6_stands_15 : decode cX6_stands 15 = .ok (.iaload, 1) := by decide +kernel
theorem dX6_stands_16 : decode cX6_stands 16 = .ok (.iadd, 1) := by decide +kernel
theorem dX6_stands_17 : decode cX6_stands 17 = .ok (.aload_n 0, 1) := by decide +kernel
theorem dX6_stands_18 : decode cX6_stands 18 = .ok (.getfield 81, 3) := by decide +kernel
theorem dX6_stands_21 : decode cX6_stands 21 = .ok (.if_icmp .le 5, 3) := by decide +kernel
theorem dX6_stands_24 : decode cX6_stands 24 = .ok (.iconst 0, 1) := by decide +kernel
theorem dX6_stands_25 : decode cX6_stands 25 = .ok (.ireturn, 1) := by decide +kernel
theorem dX6_stands_26 : decode cX6_stands 26 = .ok (.iconst 1, 1) := by decide +kernel
theorem dX6_stands_27 : decode cX6_stands 27 = .ok (.istore_n 3, 1) := by decide +kernel
theorem dX6_stands_28 : decode cX6_stands 28 = .ok (.iconst 0, 1) := by decide +kernel
theorem dX6_stands_29 : decode cX6_stands 29 = .ok (.istore 4, 2) := by decide +kernel
theorem dX6_stands_31 : decode cX6_stands 31 = .ok (.iload 4, 2) := by decide +kernel
theorem dX6_stands_33 : decode cX6_stands 33 = .ok (.aload_n 0, 1) := by decide +kernel
theorem dX6_stands_34 : decode cX6_stands 34 = .ok (.getfield 21, 3) := by decide +kernel
theorem dX6_stands_37 : decode cX6_stands 37 = .ok (.iload_n 1, 1) := by decide +kernel
theorem dX6_stands_38 : decode cX6_stands 38 = .ok (.iaload, 1) := by decide +kernel
theorem dX6_stands_39 : decode cX6_stands 39 = .ok (.if_icmp .ge 58, 3) := by decide +kernel
theorem dX6_stands_42 : decode cX6_stands 42 = .ok (.iload_n 3, 1) := by decide +kernel
theorem dX6_stands_43 : decode cX6_stands 43 = .ok (.ifCond .eq 46, 3) := by decide +kernel
theorem dX6_stands_46 : decode cX6_stands 46 = .ok (.aload_n 0, 1) := by decide +kernel
theorem dX6_stands_47 : decode cX6_stands 47 = .ok (.getfield 9, 3) := by decide +kernel
theorem dX6_stands_50 : decode cX6_stands 50 = .ok (.iload_n 2, 1) := by decide +kernel
theorem dX6_stands_51 : decode cX6_stands 51 = .ok (.iload 4, 2) := by decide +kernel
theorem dX6_stands_53 : decode cX6_stands 53 = .ok (.iadd, 1) := by decide +kernel
theorem dX6_stands_54 : decode cX6_stands 54 = .ok (.iaload, 1) := by decide +kernel
theorem dX6_stands_55 : decode cX6_stands 55 = .ok (.aload_n 0, 1) := by decide +kernel
theorem dX6_stands_56 : decode cX6_stands 56 = .ok (.getfield 24, 3) := by decide +kernel
theorem dX6_stands_59 : decode cX6_stands 59 = .ok (.iconst 3, 1) := by decide +kernel
theorem dX6_stands_60 : decode cX6_stands 60 = .ok (.iload_n 1, 1) := by decide +kernel
theorem dX6_stands_61 : decode cX6_stands 61 = .ok (.imul, 1) := by decide +kernel
theorem dX6_stands_62 : decode cX6_stands 62 = .ok (.iload 4, 2) := by decide +kernel
theorem dX6_stands_64 : decode cX6_stands 64 = .ok (.iadd, 1) := by decide +kernel
theorem dX6_stands_65 : decode cX6_stands 65 = .ok (.iaload, 1) := by decide +kernel
theorem dX6_stands_66 : decode cX6_stands 66 = .ok (.if_icmp .ne 23, 3) := by decide +kernel
theorem dX6_stands_69 : decode cX6_stands 69 = .ok (.aload_n 0, 1) := by decide +kernel
theorem dX6_stands_70 : decode cX6_stands 70 = .ok (.getfield 9, 3) := by decide +kernel
theorem dX6_stands_73 : decode cX6_stands 73 = .ok (.iload_n 2, 1) := by decide +kernel
theorem dX6_stands_74 : decode cX6_stands 74 = .ok (.iload 4, 2) := by decide +kernel
theorem dX6_stands_76 : decode cX6_stands 76 = .ok (.iadd, 1) := by decide +kernel
theorem dX6_stands_77 : decode cX6_stands 77 = .ok (.iaload, 1) := by decide +kernel
theorem dX6_stands_78 : decode cX6_stands 78 = .ok (.aload_n 0, 1) := by decide +kernel
theorem dX6_stands_79 : decode cX6_stands 79 = .ok (.getfield 13, 3) := by decide +kernel
theorem dX6_stands_82 : decode cX6_stands 82 = .ok (.if_icmp .eq 7, 3) := by decide +kernel
theorem dX6_stands_85 : decode cX6_stands 85 = .ok (.iconst 1, 1) := by decide +kernel
theorem dX6_stands_86 : decode cX6_stands 86 = .ok (.goto 4, 3) := by decide +kernel
theorem dX6_stands_89 : decode cX6_stands 89 = .ok (.iconst 0, 1) := by decide +kernel
theorem dX6_stands_90 : decode cX6_stands 90 = .ok (.istore_n 3, 1) := by decide +kernel
theorem dX6_stands_91 : decode cX6_stands 91 = .ok (.iinc 4 1, 3) := by decide +kernel
theorem dX6_stands_94 : decode cX6_stands 94 = .ok (.goto (-63), 3) := by decide +kernel
theorem dX6_stands_97 : decode cX6_stands 97 = .ok (.iload_n 3, 1) := by decide +kernel
theorem dX6_stands_98 : decode cX6_stands 98 = .ok (.ireturn, 1) := by decide +kernel
theorem dX6_canStand_0 : decode cX6_canStand 0 = .ok (.aload_n 0, 1) := by decide +kernel
theorem dX6_canStand_1 : decode cX6_canStand 1 = .ok (.iload_n 1, 1) := by decide +kernel
theorem dX6_canStand_2 : decode cX6_canStand 2 = .ok (.invokevirtual 87, 3) := by decide +kernel
theorem dX6_canStand_5 : decode cX6_canStand 5 = .ok (.ifCond .ne 5, 3) := by decide +kernel
theorem dX6_canStand_8 : decode cX6_canStand 8 = .ok (.iconst 0, 1) := by decide +kernel
theorem dX6_canStand_9 : decode cX6_canStand 9 = .ok (.ireturn, 1) := by decide +kernel
theorem dX6_canStand_10 : decode cX6_canStand 10 = .ok (.iload_n 2, 1) := by decide +kernel
theorem dX6_canStand_11 : decode cX6_canStand 11 = .ok (.bipush 6, 2) := by decide +kernel
theorem dX6_canStand_13 : decode cX6_canStand 13 = .ok (.if_icmp .ne 12, 3) := by decide +kernel
theorem dX6_canStand_16 : decode cX6_canStand 16 = .ok (.aload_n 0, 1) := by decide +kernel
theorem dX6_canStand_17 : decode cX6_canStand 17 = .ok (.getfield 31, 3) := by decide +kernel
theorem dX6_canStand_20 : decode cX6_canStand 20 = .ok (.iload_n 1, 1) := by decide +kernel
theorem dX6_canStand_21 : decode cX6_canStand 21 = .ok (.baload, 1) := by decide +kernel
theorem dX6_canStand_22 : decode cX6_canStand 22 = .ok (.goto 31, 3) := by decide +kernel
theorem dX6_canStand_25 : decode cX6_canStand 25 = .ok (.aload_n 0, 1) := by decide +kernel
theorem dX6_canStand_26 : decode cX6_canStand 26 = .ok (.getfield 27, 3) := by decide +kernel
theorem dX6_canStand_29 : decode cX6_canStand 29 = .ok (.iload_n 2, 1) := by decide +kernel
theorem dX6_canStand_30 : decode cX6_canStand 30 = .ok (.baload, 1) := by decide +kernel
theorem dX6_canStand_31 : decode cX6_canStand 31 = .ok (.ifCond .ne 21, 3) := by decide +kernel
theorem dX6_canStand_34 : decode cX6_canStand 34 = .ok (.aload_n 0, 1) := by decide +kernel
theorem dX6_canStand_35 : decode cX6_canStand 35 = .ok (.getfield 34, 3) := by decide +kernel
theorem dX6_canStand_38 : decode cX6_canStand 38 = .ok (.iload_n 2, 1) := by decide +kernel
theorem dX6_canStand_39 : decode cX6_canStand 39 = .ok (.iaload, 1) := by decide +kernel
theorem dX6_canStand_40 : decode cX6_canStand 40 = .ok (.iload_n 1, 1) := by decide +kernel
theorem dX6_canStand_41 : decode cX6_canStand 41 = .ok (.ishr, 1) := by decide +kernel
theorem dX6_canStand_42 : decode cX6_canStand 42 = .ok (.iconst 1, 1) := by decide +kernel
theorem dX6_canStand_43 : decode cX6_canStand 43 = .ok (.iand, 1) := by decide +kernel
theorem dX6_canStand_44 : decode cX6_canStand 44 = .ok (.iconst 1, 1) := by decide +kernel
theorem dX6_canStand_45 : decode cX6_canStand 45 = .ok (.if_icmp .ne 7, 3) := by decide +kernel
theorem dX6_canStand_48 : decode cX6_canStand 48 = .ok (.iconst 1, 1) := by decide +kernel
theorem dX6_canStand_49 : decode cX6_canStand 49 = .ok (.goto 4, 3) := by decide +kernel
theorem dX6_canStand_52 : decode cX6_canStand 52 = .ok (.iconst 0, 1) := by decide +kernel
theorem dX6_canStand_53 : decode cX6_canStand 53 = .ok (.ireturn, 1) := by decide +kernel
theorem dX6_begin_0 : decode cX6_begin 0 = .ok (.aload_n 0, 1) := by decide +kernel
theorem dX6_begin_1 : decode cX6_begin 1 = .ok (.getfield 37, 3) := by decide +kernel
theorem dX6_begin_4 : decode cX6_begin 4 = .ok (.aload_n 0, 1) := by decide +kernel
theorem dX6_begin_5 : decode cX6_begin 5 = .ok (.getfield 90, 3) := by decide +kernel
theorem dX6_begin_8 : decode cX6_begin 8 = .ok (.iload_n 1, 1) := by decide +kernel
theorem dX6_begin_9 : decode cX6_begin 9 = .ok (.iastore, 1) := by decide +kernel
theorem dX6_begin_10 : decode cX6_begin 10 = .ok (.aload_n 0, 1) := by decide +kernel
theorem dX6_begin_11 : decode cX6_begin 11 = .ok (.getfield 40, 3) := by decide +kernel
theorem dX6_begin_14 : decode cX6_begin 14 = .ok (.aload_n 0, 1) := by decide +kernel
theorem dX6_begin_15 : decode cX6_begin 15 = .ok (.getfield 90, 3) := by decide +kernel
theorem dX6_begin_18 : decode cX6_begin 18 = .ok (.iload_n 2, 1) := by decide +kernel
theorem dX6_begin_19 : decode cX6_begin 19 = .ok (.iastore, 1) := by decide +kernel
theorem dX6_begin_20 : decode cX6_begin 20 = .ok (.aload_n 0, 1) := by decide +kernel
theorem dX6_begin_21 : decode cX6_begin 21 = .ok (.getfield 46, 3) := by decide +kernel
theorem dX6_begin_24 : decode cX6_begin 24 = .ok (.aload_n 0, 1) := by decide +kernel
theorem dX6_begin_25 : decode cX6_begin 25 = .ok (.getfield 90, 3) := by decide +kernel
theorem dX6_begin_28 : decode cX6_begin 28 = .ok (.iconst 2, 1) := by decide +kernel
theorem dX6_begin_29 : decode cX6_begin 29 = .ok (.iastore, 1) := by decide +kernel
theorem dX6_begin_30 : decode cX6_begin 30 = .ok (.aload_n 0, 1) := by decide +kernel
theorem dX6_begin_31 : decode cX6_begin 31 = .ok (.getfield 43, 3) := by decide +kernel
theorem dX6_begin_34 : decode cX6_begin 34 = .ok (.aload_n 0, 1) := by decide +kernel
theorem dX6_begin_35 : decode cX6_begin 35 = .ok (.getfield 90, 3) := by decide +kernel
theorem dX6_begin_38 : decode cX6_begin 38 = .ok (.iconst (-1), 1) := by decide +kernel
theorem dX6_begin_39 : decode cX6_begin 39 = .ok (.iastore, 1) := by decide +kernel
theorem dX6_begin_40 : decode cX6_begin 40 = .ok (.aload_n 0, 1) := by decide +kernel
theorem dX6_begin_41 : decode cX6_begin 41 = .ok (.getfield 49, 3) := by decide +kernel
theorem dX6_begin_44 : decode cX6_begin 44 = .ok (.aload_n 0, 1) := by decide +kernel
theorem dX6_begin_45 : decode cX6_begin 45 = .ok (.getfield 90, 3) := by decide +kernel
theorem dX6_begin_48 : decode cX6_begin 48 = .ok (.aload_n 0, 1) := by decide +kernel
theorem dX6_begin_49 : decode cX6_begin 49 = .ok (.getfield 93, 3) := by decide +kernel
theorem dX6_begin_52 : decode cX6_begin 52 = .ok (.ifCond .ne 7, 3) := by decide +kernel
theorem dX6_begin_55 : decode cX6_begin 55 = .ok (.iconst (-1), 1) := by decide +kernel
theorem dX6_begin_56 : decode cX6_begin 56 = .ok (.goto 14, 3) := by decide +kernel
theorem dX6_begin_59 : decode cX6_begin 59 = .ok (.aload_n 0, 1) := by decide +kernel
theorem dX6_begin_60 : decode cX6_begin 60 = .ok (.getfield 52, 3) := by decide +kernel
theorem dX6_begin_63 : decode cX6_begin 63 = .ok (.aload_n 0, 1) := by decide +kernel
theorem dX6_begin_64 : decode cX6_begin 64 = .ok (.getfield 93, 3) := by decide +kernel
theorem dX6_begin_67 : decode cX6_begin 67 = .ok (.iconst 1, 1) := by decide +kernel
theorem dX6_begin_68 : decode cX6_begin 68 = .ok (.isub, 1) := by decide +kernel
theorem dX6_begin_69 : decode cX6_begin 69 = .ok (.iaload, 1) := by decide +kernel
theorem dX6_begin_70 : decode cX6_begin 70 = .ok (.iastore, 1) := by decide +kernel
theorem dX6_begin_71 : decode cX6_begin 71 = .ok (.aload_n 0, 1) := by decide +kernel
theorem dX6_begin_72 : decode cX6_begin 72 = .ok (.getfield 52, 3) := by decide +kernel
theorem dX6_begin_75 : decode cX6_begin 75 = .ok (.aload_n 0, 1) := by decide +kernel
theorem dX6_begin_76 : decode cX6_begin 76 = .ok (.getfield 93, 3) := by decide +kernel
theorem dX6_begin_79 : decode cX6_begin 79 = .ok (.aload_n 0, 1) := by decide +kernel
theorem dX6_begin_80 : decode cX6_begin 80 = .ok (.getfield 90, 3) := by decide +kernel
theorem dX6_begin_83 : decode cX6_begin 83 = .ok (.iastore, 1) := by decide +kernel
theorem dX6_begin_84 : decode cX6_begin 84 = .ok (.aload_n 0, 1) := by decide +kernel
theorem dX6_begin_85 : decode cX6_begin 85 = .ok (.dup, 1) := by decide +kernel
theorem dX6_begin_86 : decode cX6_begin 86 = .ok (.getfield 93, 3) := by decide +kernel
theorem dX6_begin_89 : decode cX6_begin 89 = .ok (.iconst 1, 1) := by decide +kernel
theorem dX6_begin_90 : decode cX6_begin 90 = .ok (.iadd, 1) := by decide +kernel
theorem dX6_begin_91 : decode cX6_begin 91 = .ok (.putfield 93, 3) := by decide +kernel
theorem dX6_begin_94 : decode cX6_begin 94 = .ok (.aload_n 0, 1) := by decide +kernel
theorem dX6_begin_95 : decode cX6_begin 95 = .ok (.dup, 1) := by decide +kernel
theorem dX6_begin_96 : decode cX6_begin 96 = .ok (.getfield 90, 3) := by decide +kernel
theorem dX6_begin_99 : decode cX6_begin 99 = .ok (.iconst 1, 1) := by decide +kernel
theorem dX6_begin_100 : decode cX6_begin 100 = .ok (.iadd, 1) := by decide +kernel
theorem dX6_begin_101 : decode cX6_begin 101 = .ok (.putfield 90, 3) := by decide +kernel
theorem dX6_begin_104 : decode cX6_begin 104 = .ok (.return_, 1) := by decide +kernel
theorem dX6_finish_0 : decode cX6_finish 0 = .ok (.aload_n 0, 1) := by decide +kernel
theorem dX6_finish_1 : decode cX6_finish 1 = .ok (.dup, 1) := by decide +kernel
theorem dX6_finish_2 : decode cX6_finish 2 = .ok (.getfield 93, 3) := by decide +kernel
theorem dX6_finish_5 : decode cX6_finish 5 = .ok (.iconst 1, 1) := by decide +kernel
theorem dX6_finish_6 : decode cX6_finish 6 = .ok (.isub, 1) := by decide +kernel
theorem dX6_finish_7 : decode cX6_finish 7 = .ok (.putfield 93, 3) := by decide +kernel
theorem dX6_finish_10 : decode cX6_finish 10 = .ok (.aload_n 0, 1) := by decide +kernel
theorem dX6_finish_11 : decode cX6_finish 11 = .ok (.getfield 46, 3) := by decide +kernel
theorem dX6_finish_14 : decode cX6_finish 14 = .ok (.aload_n 0, 1) := by decide +kernel
theorem dX6_finish_15 : decode cX6_finish 15 = .ok (.getfield 52, 3) := by decide +kernel
theorem dX6_finish_18 : decode cX6_finish 18 = .ok (.aload_n 0, 1) := by decide +kernel
theorem dX6_finish_19 : decode cX6_finish 19 = .ok (.getfield 93, 3) := by decide +kernel
theorem dX6_finish_22 : decode cX6_finish 22 = .ok (.iaload, 1) := by decide +kernel
theorem dX6_finish_23 : decode cX6_finish 23 = .ok (.iload_n 1, 1) := by decide +kernel
theorem dX6_finish_24 : decode cX6_finish 24 = .ok (.iastore, 1) := by decide +kernel
theorem dX6_finish_25 : decode cX6_finish 25 = .ok (.aload_n 0, 1) := by decide +kernel
theorem dX6_finish_26 : decode cX6_finish 26 = .ok (.getfield 43, 3) := by decide +kernel
theorem dX6_finish_29 : decode cX6_finish 29 = .ok (.aload_n 0, 1) := by decide +kernel
theorem dX6_finish_30 : decode cX6_finish 30 = .ok (.getfield 52, 3) := by decide +kernel
theorem dX6_finish_33 : decode cX6_finish 33 = .ok (.aload_n 0, 1) := by decide +kernel
theorem dX6_finish_34 : decode cX6_finish 34 = .ok (.getfield 93, 3) := by decide +kernel
theorem dX6_finish_37 : decode cX6_finish 37 = .ok (.iaload, 1) := by decide +kernel
theorem dX6_finish_38 : decode cX6_finish 38 = .ok (.iload_n 2, 1) := by decide +kernel
theorem dX6_finish_39 : decode cX6_finish 39 = .ok (.iastore, 1) := by decide +kernel
theorem dX6_finish_40 : decode cX6_finish 40 = .ok (.return_, 1) := by decide +kernel
theorem dX6_step_0 : decode cX6_step 0 = .ok (.aload_n 0, 1) := by decide +kernel
theorem dX6_step_1 : decode cX6_step 1 = .ok (.getfield 9, 3) := by decide +kernel
theorem dX6_step_4 : decode cX6_step 4 = .ok (.iload_n 1, 1) := by decide +kernel
theorem dX6_step_5 : decode cX6_step 5 = .ok (.iaload, 1) := by decide +kernel
theorem dX6_step_6 : decode cX6_step 6 = .ok (.aload_n 0, 1) := by decide +kernel
theorem dX6_step_7 : decode cX6_step 7 = .ok (.getfield 13, 3) := by decide +kernel
theorem dX6_step_10 : decode cX6_step 10 = .ok (.if_icmp .ne 5, 3) := by decide +kernel
theorem dX6_step_13 : decode cX6_step 13 = .ok (.iconst 2, 1) := by decide +kernel
theorem dX6_step_14 : decode cX6_step 14 = .ok (.ireturn, 1) := by decide +kernel
theorem dX6_step_15 : decode cX6_step 15 = .ok (.aload_n 0, 1) := by decide +kernel
theorem dX6_step_16 : decode cX6_step 16 = .ok (.getfield 93, 3) := by decide +kernel
theorem dX6_step_19 : decode cX6_step 19 = .ok (.ifCond .ne 8, 3) := by decide +kernel
theorem dX6_step_22 : decode cX6_step 22 = .ok (.bipush 6, 2) := by decide +kernel
theorem dX6_step_24 : decode cX6_step 24 = .ok (.goto 19, 3) := by decide +kernel
theorem dX6_step_27 : decode cX6_step 27 = .ok (.aload_n 0, 1) := by decide +kernel
theorem dX6_step_28 : decode cX6_step 28 = .ok (.getfield 37, 3) := by decide +kernel
theorem dX6_step_31 : decode cX6_step 31 = .ok (.aload_n 0, 1) := by decide +kernel
theorem dX6_step_32 : decode cX6_step 32 = .ok (.getfield 52, 3) := by decide +kernel
theorem dX6_step_35 : decode cX6_step 35 = .ok (.aload_n 0, 1) := by decide +kernel
theorem dX6_step_36 : decode cX6_step 36 = .ok (.getfield 93, 3) := by decide +kernel
theorem dX6_step_39 : decode cX6_step 39 = .ok (.iconst 1, 1) := by decide +kernel
theorem dX6_step_40 : decode cX6_step 40 = .ok (.isub, 1) := by decide +kernel
theorem dX6_step_41 : decode cX6_step 41 = .ok (.iaload, 1) := by decide +kernel
theorem dX6_step_42 : decode cX6_step 42 = .ok (.iaload, 1) := by decide +kernel
theorem dX6_step_43 : decode cX6_step 43 = .ok (.istore_n 2, 1) := by decide +kernel
theorem dX6_step_44 : decode cX6_step 44 = .ok (.iconst 0, 1) := by decide +kernel
theorem dX6_step_45 : decode cX6_step 45 = .ok (.istore_n 3, 1) := by decide +kernel
theorem dX6_step_46 : decode cX6_step 46 = .ok (.iconst 0, 1) := by decide +kernel
theorem dX6_step_47 : decode cX6_step 47 = .ok (.istore 4, 2) := by decide +kernel
theorem dX6_step_49 : decode cX6_step 49 = .ok (.iconst 0, 1) := by decide +kernel
theorem dX6_step_50 : decode cX6_step 50 = .ok (.istore 5, 2) := by decide +kernel
theorem dX6_step_52 : decode cX6_step 52 = .ok (.iload_n 2, 1) := by decide +kernel
theorem dX6_step_53 : decode cX6_step 53 = .ok (.bipush 6, 2) := by decide +kernel
theorem dX6_step_55 : decode cX6_step 55 = .ok (.if_icmp .eq 25, 3) := by decide +kernel
theorem dX6_step_58 : decode cX6_step 58 = .ok (.aload_n 0, 1) := by decide +kernel
theorem dX6_step_59 : decode cX6_step 59 = .ok (.bipush 6, 2) := by decide +kernel
theorem dX6_step_61 : decode cX6_step 61 = .ok (.iload_n 2, 1) := by decide +kernel
theorem dX6_step_62 : decode cX6_step 62 = .ok (.iadd, 1) := by decide +kernel
theorem dX6_step_63 : decode cX6_step 63 = .ok (.iload_n 1, 1) := by decide +kernel
theorem dX6_step_64 : decode cX6_step 64 = .ok (.invokevirtual 96, 3) := by decide +kernel
theorem dX6_step_67 : decode cX6_step 67 = .ok (.ifCond .eq 13, 3) := by decide +kernel
theorem dX6_step_70 : decode cX6_step 70 = .ok (.aload_n 0, 1) := by decide +kernel
theorem dX6_step_71 : decode cX6_step 71 = .ok (.getfield 21, 3) := by decide +kernel
theorem dX6_step_74 : decode cX6_step 74 = .ok (.bipush 6, 2) := by decide +kernel
theorem dX6_step_76 : decode cX6_step 76 = .ok (.iload_n 2, 1) := by decide +kernel
theorem dX6_step_77 : decode cX6_step 77 = .ok (.iadd, 1) := by decide +kernel
theorem dX6_step_78 : decode cX6_step 78 = .ok (.iaload, 1) := by decide +kernel
theorem dX6_step_79 : decode cX6_step 79 = .ok (.istore_n 3, 1) := by decide +kernel
theorem dX6_step_80 : decode cX6_step 80 = .ok (.iconst 0, 1) := by decide +kernel
theorem dX6_step_81 : decode cX6_step 81 = .ok (.istore 6, 2) := by decide +kernel
theorem dX6_step_83 : decode cX6_step 83 = .ok (.iload 6, 2) := by decide +kernel
theorem dX6_step_85 : decode cX6_step 85 = .ok (.bipush 6, 2) := by decide +kernel
theorem dX6_step_87 : decode cX6_step 87 = .ok (.if_icmp .ge 67, 3) := by decide +kernel
theorem dX6_step_90 : decode cX6_step 90 = .ok (.aload_n 0, 1) := by decide +kernel
theorem dX6_step_91 : decode cX6_step 91 = .ok (.getfield 93, 3) := by decide +kernel
theorem dX6_step_94 : decode cX6_step 94 = .ok (.bipush 8, 2) := by decide +kernel
theorem dX6_step_96 : decode cX6_step 96 = .ok (.if_icmp .ge 58, 3) := by decide +kernel
theorem dX6_step_99 : decode cX6_step 99 = .ok (.aload_n 0, 1) := by decide +kernel
theorem dX6_step_100 : decode cX6_step 100 = .ok (.iload 6, 2) := by decide +kernel
theorem dX6_step_102 : decode cX6_step 102 = .ok (.iload_n 2, 1) := by decide +kernel
theorem dX6_step_103 : decode cX6_step 103 = .ok (.invokevirtual 100, 3) := by decide +kernel
theorem dX6_step_106 : decode cX6_step 106 = .ok (.ifCond .eq 42, 3) := by decide +kernel
theorem dX6_step_109 : decode cX6_step 109 = .ok (.aload_n 0, 1) := by decide +kernel
theorem dX6_step_110 : decode cX6_step 110 = .ok (.iload 6, 2) := by decide +kernel
theorem dX6_step_112 : decode cX6_step 112 = .ok (.iload_n 1, 1) := by decide +kernel
theorem dX6_step_113 : decode cX6_step 113 = .ok (.invokevirtual 96, 3) := by decide +kernel
theorem dX6_step_116 : decode cX6_step 116 = .ok (.ifCond .eq 32, 3) := by decide +kernel
theorem dX6_step_119 : decode cX6_step 119 = .ok (.aload_n 0, 1) := by decide +kernel
theorem dX6_step_120 : decode cX6_step 120 = .ok (.getfield 21, 3) := by decide +kernel
theorem dX6_step_123 : decode cX6_step 123 = .ok (.iload 6, 2) := by decide +kernel
theorem dX6_step_125 : decode cX6_step 125 = .ok (.iaload, 1) := by decide +kernel
theorem dX6_step_126 : decode cX6_step 126 = .ok (.iload_n 3, 1) := by decide +kernel
theorem dX6_step_127 : decode cX6_step 127 = .ok (.if_icmp .gt 6, 3) := by decide +kernel
theorem dX6_step_130 : decode cX6_step 130 = .ok (.goto 18, 3) := by decide +kernel
theorem dX6_step_133 : decode cX6_step 133 = .ok (.aload_n 0, 1) := by decide +kernel
theorem dX6_step_134 : decode cX6_step 134 = .ok (.getfield 21, 3) := by decide +kernel
theorem dX6_step_137 : decode cX6_step 137 = .ok (.iload 6, 2) := by decide +kernel
theorem dX6_step_139 : decode cX6_step 139 = .ok (.iaload, 1) := by decide +kernel
theorem dX6_step_140 : decode cX6_step 140 = .ok (.istore_n 3, 1) := by decide +kernel
theorem dX6_step_141 : decode cX6_step 141 = .ok (.iconst 1, 1) := by decide +kernel
theorem dX6_step_142 : decode cX6_step 142 = .ok (.istore 4, 2) := by decide +kernel
theorem dX6_step_144 : decode cX6_step 144 = .ok (.iload 6, 2) := by decide +kernel
theorem dX6_step_146 : decode cX6_step 146 = .ok (.istore 5, 2) := by decide +kernel
theorem dX6_step_148 : decode cX6_step 148 = .ok (.iinc 6 1, 3) := by decide +kernel
theorem dX6_step_151 : decode cX6_step 151 = .ok (.goto (-68), 3) := by decide +kernel
theorem dX6_step_154 : decode cX6_step 154 = .ok (.aload_n 0, 1) := by decide +kernel
theorem dX6_step_155 : decode cX6_step 155 = .ok (.getfield 93, 3) := by decide +kernel
theorem dX6_step_158 : decode cX6_step 158 = .ok (.iconst 2, 1) := by decide +kernel
theorem dX6_step_159 : decode cX6_step 159 = .ok (.isub, 1) := by decide +kernel
theorem dX6_step_160 : decode cX6_step 160 = .ok (.istore 6, 2) := by decide +kernel
theorem dX6_step_162 : decode cX6_step 162 = .ok (.iload 6, 2) := by decide +kernel
theorem dX6_step_164 : decode cX6_step 164 = .ok (.ifCond .lt 74, 3) := by decide +kernel
theorem dX6_step_167 : decode cX6_step 167 = .ok (.aload_n 0, 1) := by decide +kernel
theorem dX6_step_168 : decode cX6_step 168 = .ok (.getfield 27, 3) := by decide +kernel
theorem dX6_step_171 : decode cX6_step 171 = .ok (.iload_n 2, 1) := by decide +kernel
theorem dX6_step_172 : decode cX6_step 172 = .ok (.baload, 1) := by decide +kernel
theorem dX6_step_173 : decode cX6_step 173 = .ok (.ifCond .ne 65, 3) := by decide +kernel
theorem dX6_step_176 : decode cX6_step 176 = .ok (.bipush 6, 2) := by decide +kernel
theorem dX6_step_178 : decode cX6_step 178 = .ok (.aload_n 0, 1) := by decide +kernel
theorem dX6_step_179 : decode cX6_step 179 = .ok (.getfield 37, 3) := by decide +kernel
theorem dX6_step_182 : decode cX6_step 182 = .ok (.aload_n 0, 1) := by decide +kernel
theorem dX6_step_183 : decode cX6_step 183 = .ok (.getfield 52, 3) := by decide +kernel
theorem dX6_step_186 : decode cX6_step 186 = .ok (.iload 6, 2) := by decide +kernel
theorem dX6_step_188 : decode cX6_step 188 = .ok (.iaload, 1) := by decide +kernel
theorem dX6_step_189 : decode cX6_step 189 = .ok (.iaload, 1) := by decide +kernel
theorem dX6_step_190 : decode cX6_step 190 = .ok (.iadd, 1) := by decide +kernel
theorem dX6_step_191 : decode cX6_step 191 = .ok (.istore 7, 2) := by decide +kernel
theorem dX6_step_193 : decode cX6_step 193 = .ok (.aload_n 0, 1) := by decide +kernel
theorem dX6_step_194 : decode cX6_step 194 = .ok (.iload 7, 2) := by decide +kernel
theorem dX6_step_196 : decode cX6_step 196 = .ok (.iload_n 1, 1) := by decide +kernel
theorem dX6_step_197 : decode cX6_step 197 = .ok (.invokevirtual 96, 3) := by decide +kernel
theorem dX6_step_200 : decode cX6_step 200 = .ok (.ifCond .eq 32, 3) := by decide +kernel
theorem dX6_step_203 : decode cX6_step 203 = .ok (.aload_n 0, 1) := by decide +kernel
theorem dX6_step_204 : decode cX6_step 204 = .ok (.getfield 21, 3) := by decide +kernel
theorem dX6_step_207 : decode cX6_step 207 = .ok (.iload 7, 2) := by decide +kernel
theorem dX6_step_209 : decode cX6_step 209 = .ok (.iaload, 1) := by decide +kernel
theorem dX6_step_210 : decode cX6_step 210 = .ok (.iload_n 3, 1) := by decide +kernel
theorem dX6_step_211 : decode cX6_step 211 = .ok (.if_icmp .gt 6, 3) := by decide +kernel
theorem dX6_step_214 : decode cX6_step 214 = .ok (.goto 18, 3) := by decide +kernel
theorem dX6_step_217 : decode cX6_step 217 = .ok (.aload_n 0, 1) := by decide +kernel
theorem dX6_step_218 : decode cX6_step 218 = .ok (.getfield 21, 3) := by decide +kernel
theorem dX6_step_221 : decode cX6_step 221 = .ok (.iload 7, 2) := by decide +kernel
theorem dX6_step_223 : decode cX6_step 223 = .ok (.iaload, 1) := by decide +kernel
theorem dX6_step_224 : decode cX6_step 224 = .ok (.istore_n 3, 1) := by decide +kernel
theorem dX6_step_225 : decode cX6_step 225 = .ok (.iconst 2, 1) := by decide +kernel
theorem dX6_step_226 : decode cX6_step 226 = .ok (.istore 4, 2) := by decide +kernel
theorem dX6_step_228 : decode cX6_step 228 = .ok (.iload 6, 2) := by decide +kernel
theorem dX6_step_230 : decode cX6_step 230 = .ok (.istore 5, 2) := by decide +kernel
theorem dX6_step_232 : decode cX6_step 232 = .ok (.iinc 6 (-1), 3) := by decide +kernel
theorem dX6_step_235 : decode cX6_step 235 = .ok (.goto (-73), 3) := by decide +kernel
theorem dX6_step_238 : decode cX6_step 238 = .ok (.iload_n 3, 1) := by decide +kernel
theorem dX6_step_239 : decode cX6_step 239 = .ok (.ifCond .ne 5, 3) := by decide +kernel
theorem dX6_step_242 : decode cX6_step 242 = .ok (.iconst 1, 1) := by decide +kernel
theorem dX6_step_243 : decode cX6_step 243 = .ok (.ireturn, 1) := by decide +kernel
theorem dX6_step_244 : decode cX6_step 244 = .ok (.iload 4, 2) := by decide +kernel
theorem dX6_step_246 : decode cX6_step 246 = .ok (.ifCond .ne 11, 3) := by decide +kernel
theorem dX6_step_249 : decode cX6_step 249 = .ok (.aload_n 0, 1) := by decide +kernel
theorem dX6_step_250 : decode cX6_step 250 = .ok (.iconst 0, 1) := by decide +kernel
theorem dX6_step_251 : decode cX6_step 251 = .ok (.iload_n 1, 1) := by decide +kernel
theorem dX6_step_252 : decode cX6_step 252 = .ok (.iload_n 3, 1) := by decide +kernel
theorem dX6_step_253 : decode cX6_step 253 = .ok (.iadd, 1) := by decide +kernel
theorem dX6_step_254 : decode cX6_step 254 = .ok (.invokevirtual 103, 3) := by decide +kernel
theorem dX6_step_257 : decode cX6_step 257 = .ok (.iload 4, 2) := by decide +kernel
theorem dX6_step_259 : decode cX6_step 259 = .ok (.iconst 1, 1) := by decide +kernel
theorem dX6_step_260 : decode cX6_step 260 = .ok (.if_icmp .ne 10, 3) := by decide +kernel
theorem dX6_step_263 : decode cX6_step 263 = .ok (.aload_n 0, 1) := by decide +kernel
theorem dX6_step_264 : decode cX6_step 264 = .ok (.iload 5, 2) := by decide +kernel
theorem dX6_step_266 : decode cX6_step 266 = .ok (.iload_n 1, 1) := by decide +kernel
theorem dX6_step_267 : decode cX6_step 267 = .ok (.invokevirtual 107, 3) := by decide +kernel
theorem dX6_step_270 : decode cX6_step 270 = .ok (.iload 4, 2) := by decide +kernel
theorem dX6_step_272 : decode cX6_step 272 = .ok (.iconst 2, 1) := by decide +kernel
theorem dX6_step_273 : decode cX6_step 273 = .ok (.if_icmp .ne 20, 3) := by decide +kernel
theorem dX6_step_276 : decode cX6_step 276 = .ok (.aload_n 0, 1) := by decide +kernel
theorem dX6_step_277 : decode cX6_step 277 = .ok (.getfield 17, 3) := by decide +kernel
theorem dX6_step_280 : decode cX6_step 280 = .ok (.ifCond .ne 13, 3) := by decide +kernel
theorem dX6_step_283 : decode cX6_step 283 = .ok (.aload_n 0, 1) := by decide +kernel
theorem dX6_step_284 : decode cX6_step 284 = .ok (.dup, 1) := by decide +kernel
theorem dX6_step_285 : decode cX6_step 285 = .ok (.getfield 110, 3) := by decide +kernel
theorem dX6_step_288 : decode cX6_step 288 = .ok (.iconst 1, 1) := by decide +kernel
theorem dX6_step_289 : decode cX6_step 289 = .ok (.iadd, 1) := by decide +kernel
theorem dX6_step_290 : decode cX6_step 290 = .ok (.putfield 110, 3) := by decide +kernel
theorem dX6_step_293 : decode cX6_step 293 = .ok (.iload 4, 2) := by decide +kernel
theorem dX6_step_295 : decode cX6_step 295 = .ok (.iconst 2, 1) := by decide +kernel
theorem dX6_step_296 : decode cX6_step 296 = .ok (.if_icmp .ne 38, 3) := by decide +kernel
theorem dX6_step_299 : decode cX6_step 299 = .ok (.aload_n 0, 1) := by decide +kernel
theorem dX6_step_300 : decode cX6_step 300 = .ok (.getfield 17, 3) := by decide +kernel
theorem dX6_step_303 : decode cX6_step 303 = .ok (.ifCond .eq 31, 3) := by decide +kernel
theorem dX6_step_306 : decode cX6_step 306 = .ok (.aload_n 0, 1) := by decide +kernel
theorem dX6_step_307 : decode cX6_step 307 = .ok (.getfield 93, 3) := by decide +kernel
theorem dX6_step_310 : decode cX6_step 310 = .ok (.iload 5, 2) := by decide +kernel
theorem dX6_step_312 : decode cX6_step 312 = .ok (.iconst 1, 1) := by decide +kernel
theorem dX6_step_313 : decode cX6_step 313 = .ok (.iadd, 1) := by decide +kernel
theorem dX6_step_314 : decode cX6_step 314 = .ok (.if_icmp .le 12, 3) := by decide +kernel
theorem dX6_step_317 : decode cX6_step 317 = .ok (.aload_n 0, 1) := by decide +kernel
theorem dX6_step_318 : decode cX6_step 318 = .ok (.iconst 1, 1) := by decide +kernel
theorem dX6_step_319 : decode cX6_step 319 = .ok (.iload_n 1, 1) := by decide +kernel
theorem dX6_step_320 : decode cX6_step 320 = .ok (.invokevirtual 103, 3) := by decide +kernel
theorem dX6_step_323 : decode cX6_step 323 = .ok (.goto (-17), 3) := by decide +kernel
theorem dX6_step_326 : decode cX6_step 326 = .ok (.aload_n 0, 1) := by decide +kernel
theorem dX6_step_327 : decode cX6_step 327 = .ok (.iconst 0, 1) := by decide +kernel
theorem dX6_step_328 : decode cX6_step 328 = .ok (.iload_n 1, 1) := by decide +kernel
theorem dX6_step_329 : decode cX6_step 329 = .ok (.iload_n 3, 1) := by decide +kernel
theorem dX6_step_330 : decode cX6_step 330 = .ok (.iadd, 1) := by decide +kernel
theorem dX6_step_331 : decode cX6_step 331 = .ok (.invokevirtual 103, 3) := by decide +kernel
theorem dX6_step_334 : decode cX6_step 334 = .ok (.iload_n 3, 1) := by decide +kernel
theorem dX6_step_335 : decode cX6_step 335 = .ok (.ireturn, 1) := by decide +kernel
theorem dX6_quick_0 : decode cX6_quick 0 = .ok (.aload_n 0, 1) := by decide +kernel
theorem dX6_quick_1 : decode cX6_quick 1 = .ok (.iconst 0, 1) := by decide +kernel
theorem dX6_quick_2 : decode cX6_quick 2 = .ok (.putfield 64, 3) := by decide +kernel
theorem dX6_quick_5 : decode cX6_quick 5 = .ok (.aload_n 0, 1) := by decide +kernel
theorem dX6_quick_6 : decode cX6_quick 6 = .ok (.iconst 0, 1) := by decide +kernel
theorem dX6_quick_7 : decode cX6_quick 7 = .ok (.putfield 90, 3) := by decide +kernel
theorem dX6_quick_10 : decode cX6_quick 10 = .ok (.aload_n 0, 1) := by decide +kernel
theorem dX6_quick_11 : decode cX6_quick 11 = .ok (.iconst 0, 1) := by decide +kernel
theorem dX6_quick_12 : decode cX6_quick 12 = .ok (.putfield 93, 3) := by decide +kernel
theorem dX6_quick_15 : decode cX6_quick 15 = .ok (.aload_n 0, 1) := by decide +kernel
theorem dX6_quick_16 : decode cX6_quick 16 = .ok (.iconst 0, 1) := by decide +kernel
theorem dX6_quick_17 : decode cX6_quick 17 = .ok (.putfield 110, 3) := by decide +kernel
theorem dX6_quick_20 : decode cX6_quick 20 = .ok (.iconst 0, 1) := by decide +kernel
theorem dX6_quick_21 : decode cX6_quick 21 = .ok (.istore_n 1, 1) := by decide +kernel
theorem dX6_quick_22 : decode cX6_quick 22 = .ok (.iload_n 1, 1) := by decide +kernel
theorem dX6_quick_23 : decode cX6_quick 23 = .ok (.aload_n 0, 1) := by decide +kernel
theorem dX6_quick_24 : decode cX6_quick 24 = .ok (.getfield 81, 3) := by decide +kernel
theorem dX6_quick_27 : decode cX6_quick 27 = .ok (.if_icmp .ge 14, 3) := by decide +kernel
theorem dX6_quick_30 : decode cX6_quick 30 = .ok (.iload_n 1, 1) := by decide +kernel
theorem dX6_quick_31 : decode cX6_quick 31 = .ok (.aload_n 0, 1) := by decide +kernel
theorem dX6_quick_32 : decode cX6_quick 32 = .ok (.iload_n 1, 1) := by decide +kernel
theorem dX6_quick_33 : decode cX6_quick 33 = .ok (.invokevirtual 113, 3) := by decide +kernel
theorem dX6_quick_36 : decode cX6_quick 36 = .ok (.iadd, 1) := by decide +kernel
theorem dX6_quick_37 : decode cX6_quick 37 = .ok (.istore_n 1, 1) := by decide +kernel
theorem dX6_quick_38 : decode cX6_quick 38 = .ok (.goto (-16), 3) := by decide +kernel
theorem dX6_quick_41 : decode cX6_quick 41 = .ok (.aload_n 0, 1) := by decide +kernel
theorem dX6_quick_42 : decode cX6_quick 42 = .ok (.getfield 93, 3) := by decide +kernel
theorem dX6_quick_45 : decode cX6_quick 45 = .ok (.ifCond .le 15, 3) := by decide +kernel
theorem dX6_quick_48 : decode cX6_quick 48 = .ok (.aload_n 0, 1) := by decide +kernel
theorem dX6_quick_49 : decode cX6_quick 49 = .ok (.iconst 2, 1) := by decide +kernel
theorem dX6_quick_50 : decode cX6_quick 50 = .ok (.aload_n 0, 1) := by decide +kernel
theorem dX6_quick_51 : decode cX6_quick 51 = .ok (.getfield 81, 3) := by decide +kernel
theorem dX6_quick_54 : decode cX6_quick 54 = .ok (.invokevirtual 103, 3) := by decide +kernel
theorem dX6_quick_57 : decode cX6_quick 57 = .ok (.goto (-16), 3) := by decide +kernel
theorem dX6_quick_60 : decode cX6_quick 60 = .ok (.aload_n 0, 1) := by decide +kernel
theorem dX6_quick_61 : decode cX6_quick 61 = .ok (.iconst 1, 1) := by decide +kernel
theorem dX6_quick_62 : decode cX6_quick 62 = .ok (.putfield 84, 3) := by decide +kernel
theorem dX6_quick_65 : decode cX6_quick 65 = .ok (.aload_n 0, 1) := by decide +kernel
theorem dX6_quick_66 : decode cX6_quick 66 = .ok (.getfield 90, 3) := by decide +kernel
theorem dX6_quick_69 : decode cX6_quick 69 = .ok (.ireturn, 1) := by decide +kernel
theorem dX6_findMarks_0 : decode cX6_findMarks 0 = .ok (.aload_n 0, 1) := by decide +kernel
theorem dX6_findMarks_1 : decode cX6_findMarks 1 = .ok (.iconst 0, 1) := by decide +kernel
theorem dX6_findMarks_2 : decode cX6_findMarks 2 = .ok (.putfield 116, 3) := by decide +kernel
theorem dX6_findMarks_5 : decode cX6_findMarks 5 = .ok (.iconst 0, 1) := by decide +kernel
theorem dX6_findMarks_6 : decode cX6_findMarks 6 = .ok (.istore_n 1, 1) := by decide +kernel
theorem dX6_findMarks_7 : decode cX6_findMarks 7 = .ok (.iload_n 1, 1) := by decide +kernel
theorem dX6_findMarks_8 : decode cX6_findMarks 8 = .ok (.aload_n 0, 1) := by decide +kernel
theorem dX6_findMarks_9 : decode cX6_findMarks 9 = .ok (.getfield 81, 3) := by decide +kernel
theorem dX6_findMarks_12 : decode cX6_findMarks 12 = .ok (.if_icmp .ge 151, 3) := by decide +kernel
theorem dX6_findMarks_15 : decode cX6_findMarks 15 = .ok (.iconst 0, 1) := by decide +kernel
theorem dX6_findMarks_16 : decode cX6_findMarks 16 = .ok (.istore_n 2, 1) := by decide +kernel
theorem dX6_findMarks_17 : decode cX6_findMarks 17 = .ok (.iconst 0, 1) := by decide +kernel
theorem dX6_findMarks_18 : decode cX6_findMarks 18 = .ok (.istore_n 3, 1) := by decide +kernel
theorem dX6_findMarks_19 : decode cX6_findMarks 19 = .ok (.iload_n 3, 1) := by decide +kernel
theorem dX6_findMarks_20 : decode cX6_findMarks 20 = .ok (.bipush 6, 2) := by decide +kernel
theorem dX6_findMarks_22 : decode cX6_findMarks 22 = .ok (.if_icmp .ge 79, 3) := by decide +kernel
theorem dX6_findMarks_25 : decode cX6_findMarks 25 = .ok (.aload_n 0, 1) := by decide +kernel
theorem dX6_findMarks_26 : decode cX6_findMarks 26 = .ok (.getfield 9, 3) := by decide +kernel
theorem dX6_findMarks_29 : decode cX6_findMarks 29 = .ok (.iload_n 1, 1) := by decide +kernel
theorem dX6_findMarks_30 : decode cX6_findMarks 30 = .ok (.iaload, 1) := by decide +kernel
theorem dX6_findMarks_31 : decode cX6_findMarks 31 = .ok (.aload_n 0, 1) := by decide +kernel
theorem dX6_findMarks_32 : decode cX6_findMarks 32 = .ok (.getfield 13, 3) := by decide +kernel
theorem dX6_findMarks_35 : decode cX6_findMarks 35 = .ok (.if_icmp .eq 66, 3) := by decide +kernel
theorem dX6_findMarks_38 : decode cX6_findMarks 38 = .ok (.aload_n 0, 1) := by decide +kernel
theorem dX6_findMarks_39 : decode cX6_findMarks 39 = .ok (.iload_n 3, 1) := by decide +kernel
theorem dX6_findMarks_40 : decode cX6_findMarks 40 = .ok (.invokevirtual 87, 3) := by decide +kernel
theorem dX6_findMarks_43 : decode cX6_findMarks 43 = .ok (.ifCond .ne 6, 3) := by decide +kernel
theorem dX6_findMarks_46 : decode cX6_findMarks 46 = .ok (.goto 49, 3) := by decide +kernel
theorem dX6_findMarks_49 : decode cX6_findMarks 49 = .ok (.aload_n 0, 1) := by decide +kernel
theorem dX6_findMarks_50 : decode cX6_findMarks 50 = .ok (.iload_n 3, 1) := by decide +kernel
theorem dX6_findMarks_51 : decode cX6_findMarks 51 = .ok (.iload_n 1, 1) := by decide +kernel
theorem dX6_findMarks_52 : decode cX6_findMarks 52 = .ok (.invokevirtual 96, 3) := by decide +kernel
theorem dX6_findMarks_55 : decode cX6_findMarks 55 = .ok (.ifCond .eq 14, 3) := by decide +kernel
theorem dX6_findMarks_58 : decode cX6_findMarks 58 = .ok (.iload_n 2, 1) := by decide +kernel
theorem dX6_findMarks_59 : decode cX6_findMarks 59 = .ok (.aload_n 0, 1) := by decide +kernel
theorem dX6_findMarks_60 : decode cX6_findMarks 60 = .ok (.getfield 21, 3) := by decide +kernel
theorem dX6_findMarks_63 : decode cX6_findMarks 63 = .ok (.iload_n 3, 1) := by decide +kernel
theorem dX6_findMarks_64 : decode cX6_findMarks 64 = .ok (.iaload, 1) := by decide +kernel
theorem dX6_findMarks_65 : decode cX6_findMarks 65 = .ok (.invokestatic 119, 3) := by decide +kernel
theorem dX6_findMarks_68 : decode cX6_findMarks 68 = .ok (.istore_n 2, 1) := by decide +kernel
theorem dX6_findMarks_69 : decode cX6_findMarks 69 = .ok (.aload_n 0, 1) := by decide +kernel
theorem dX6_findMarks_70 : decode cX6_findMarks 70 = .ok (.bipush 6, 2) := by decide +kernel
theorem dX6_findMarks_72 : decode cX6_findMarks 72 = .ok (.iload_n 3, 1) := by decide +kernel
theorem dX6_findMarks_73 : decode cX6_findMarks 73 = .ok (.iadd, 1) := by decide +kernel
theorem dX6_findMarks_74 : decode cX6_findMarks 74 = .ok (.iload_n 1, 1) := by decide +kernel
theorem dX6_findMarks_75 : decode cX6_findMarks 75 = .ok (.invokevirtual 96, 3) := by decide +kernel
theorem dX6_findMarks_78 : decode cX6_findMarks 78 = .ok (.ifCond .eq 17, 3) := by decide +kernel
theorem dX6_findMarks_81 : decode cX6_findMarks 81 = .ok (.iload_n 2, 1) := by decide +kernel
theorem dX6_findMarks_82 : decode cX6_findMarks 82 = .ok (.aload_n 0, 1) := by decide +kernel
theorem dX6_findMarks_83 : decode cX6_findMarks 83 = .ok (.getfield 21, 3) := by decide +kernel
theorem dX6_findMarks_86 : decode cX6_findMarks 86 = .ok (.bipush 6, 2) := by decide +kernel
theorem dX6_findMarks_88 : decode cX6_findMarks 88 = .ok (.iload_n 3, 1) := by decide +kernel
theorem dX6_findMarks_89 : decode cX6_findMarks 89 = .ok (.iadd, 1) := by decide +kernel
theorem dX6_findMarks_90 : decode cX6_findMarks 90 = .ok (.iaload, 1) := by decide +kernel
theorem dX6_findMarks_91 : decode cX6_findMarks 91 = .ok (.invokestatic 119, 3) := by decide +kernel
theorem dX6_findMarks_94 : decode cX6_findMarks 94 = .ok (.istore_n 2, 1) := by decide +kernel
theorem dX6_findMarks_95 : decode cX6_findMarks 95 = .ok (.iinc 3 1, 3) := by decide +kernel
theorem dX6_findMarks_98 : decode cX6_findMarks 98 = .ok (.goto (-79), 3) := by decide +kernel
theorem dX6_findMarks_101 : decode cX6_findMarks 101 = .ok (.iload_n 2, 1) := by decide +kernel
theorem dX6_findMarks_102 : decode cX6_findMarks 102 = .ok (.ifCond .le 33, 3) := by decide +kernel
theorem dX6_findMarks_105 : decode cX6_findMarks 105 = .ok (.aload_n 0, 1) := by decide +kernel
theorem dX6_findMarks_106 : decode cX6_findMarks 106 = .ok (.getfield 55, 3) := by decide +kernel
theorem dX6_findMarks_109 : decode cX6_findMarks 109 = .ok (.aload_n 0, 1) := by decide +kernel
theorem dX6_findMarks_110 : decode cX6_findMarks 110 = .ok (.getfield 116, 3) := by decide +kernel
theorem dX6_findMarks_113 : decode cX6_findMarks 113 = .ok (.iload_n 1, 1) := by decide +kernel
theorem dX6_findMarks_114 : decode cX6_findMarks 114 = .ok (.iastore, 1) := by decide +kernel
theorem dX6_findMarks_115 : decode cX6_findMarks 115 = .ok (.aload_n 0, 1) := by decide +kernel
theorem dX6_findMarks_116 : decode cX6_findMarks 116 = .ok (.getfield 58, 3) := by decide +kernel
theorem dX6_findMarks_119 : decode cX6_findMarks 119 = .ok (.aload_n 0, 1) := by decide +kernel
theorem dX6_findMarks_120 : decode cX6_findMarks 120 = .ok (.getfield 116, 3) := by decide +kernel
theorem dX6_findMarks_123 : decode cX6_findMarks 123 = .ok (.iload_n 2, 1) := by decide +kernel
theorem dX6_findMarks_124 : decode cX6_findMarks 124 = .ok (.iastore, 1) := by decide +kernel
theorem dX6_findMarks_125 : decode cX6_findMarks 125 = .ok (.aload_n 0, 1) := by decide +kernel
theorem dX6_findMarks_126 : decode cX6_findMarks 126 = .ok (.dup, 1) := by decide +kernel
theorem dX6_findMarks_127 : decode cX6_findMarks 127 = .ok (.getfield 116, 3) := by decide +kernel
theorem dX6_findMarks_130 : decode cX6_findMarks 130 = .ok (.iconst 1, 1) := by decide +kernel
theorem dX6_findMarks_131 : decode cX6_findMarks 131 = .ok (.iadd, 1) := by decide +kernel
theorem dX6_findMarks_132 : decode cX6_findMarks 132 = .ok (.putfield 116, 3) := by decide +kernel
theorem dX6_findMarks_135 : decode cX6_findMarks 135 = .ok (.iload_n 1, 1) := by decide +kernel
theorem dX6_findMarks_136 : decode cX6_findMarks 136 = .ok (.aload_n 0, 1) := by decide +kernel
theorem dX6_findMarks_137 : decode cX6_findMarks 137 = .ok (.getfield 9, 3) := by decide +kernel
theorem dX6_findMarks_140 : decode cX6_findMarks 140 = .ok (.iload_n 1, 1) := by decide +kernel
theorem dX6_findMarks_141 : decode cX6_findMarks 141 = .ok (.iaload, 1) := by decide +kernel
theorem dX6_findMarks_142 : decode cX6_findMarks 142 = .ok (.aload_n 0, 1) := by decide +kernel
theorem dX6_findMarks_143 : decode cX6_findMarks 143 = .ok (.getfield 13, 3) := by decide +kernel
theorem dX6_findMarks_146 : decode cX6_findMarks 146 = .ok (.if_icmp .ne 7, 3) := by decide +kernel
theorem dX6_findMarks_149 : decode cX6_findMarks 149 = .ok (.iconst 2, 1) := by decide +kernel
theorem dX6_findMarks_150 : decode cX6_findMarks 150 = .ok (.goto 8, 3) := by decide +kernel
theorem dX6_findMarks_153 : decode cX6_findMarks 153 = .ok (.iconst 1, 1) := by decide +kernel
theorem dX6_findMarks_154 : decode cX6_findMarks 154 = .ok (.iload_n 2, 1) := by decide +kernel
theorem dX6_findMarks_155 : decode cX6_findMarks 155 = .ok (.invokestatic 119, 3) := by decide +kernel
theorem dX6_findMarks_158 : decode cX6_findMarks 158 = .ok (.iadd, 1) := by decide +kernel
theorem dX6_findMarks_159 : decode cX6_findMarks 159 = .ok (.istore_n 1, 1) := by decide +kernel
theorem dX6_findMarks_160 : decode cX6_findMarks 160 = .ok (.goto (-153), 3) := by decide +kernel
theorem dX6_findMarks_163 : decode cX6_findMarks 163 = .ok (.return_, 1) := by decide +kernel
theorem dX6_isWord_0 : decode cX6_isWord 0 = .ok (.aload_n 0, 1) := by decide +kernel
theorem dX6_isWord_1 : decode cX6_isWord 1 = .ok (.iload_n 2, 1) := by decide +kernel
theorem dX6_isWord_2 : decode cX6_isWord 2 = .ok (.aload_n 0, 1) := by decide +kernel
theorem dX6_isWord_3 : decode cX6_isWord 3 = .ok (.getfield 55, 3) := by decide +kernel
theorem dX6_isWord_6 : decode cX6_isWord 6 = .ok (.iload_n 1, 1) := by decide +kernel
theorem dX6_isWord_7 : decode cX6_isWord 7 = .ok (.iaload, 1) := by decide +kernel
theorem dX6_isWord_8 : decode cX6_isWord 8 = .ok (.invokevirtual 96, 3) := by decide +kernel
theorem dX6_isWord_11 : decode cX6_isWord 11 = .ok (.ifCond .eq 22, 3) := by decide +kernel
theorem dX6_isWord_14 : decode cX6_isWord 14 = .ok (.aload_n 0, 1) := by decide +kernel
theorem dX6_isWord_15 : decode cX6_isWord 15 = .ok (.getfield 21, 3) := by decide +kernel
theorem dX6_isWord_18 : decode cX6_isWord 18 = .ok (.iload_n 2, 1) := by decide +kernel
theorem dX6_isWord_19 : decode cX6_isWord 19 = .ok (.iaload, 1) := by decide +kernel
theorem dX6_isWord_20 : decode cX6_isWord 20 = .ok (.aload_n 0, 1) := by decide +kernel
theorem dX6_isWord_21 : decode cX6_isWord 21 = .ok (.getfield 58, 3) := by decide +kernel
theorem dX6_isWord_24 : decode cX6_isWord 24 = .ok (.iload_n 1, 1) := by decide +kernel
theorem dX6_isWord_25 : decode cX6_isWord 25 = .ok (.iaload, 1) := by decide +kernel
theorem dX6_isWord_26 : decode cX6_isWord 26 = .ok (.if_icmp .ne 7, 3) := by decide +kernel
theorem dX6_isWord_29 : decode cX6_isWord 29 = .ok (.iconst 1, 1) := by decide +kernel
theorem dX6_isWord_30 : decode cX6_isWord 30 = .ok (.goto 4, 3) := by decide +kernel
theorem dX6_isWord_33 : decode cX6_isWord 33 = .ok (.iconst 0, 1) := by decide +kernel
theorem dX6_isWord_34 : decode cX6_isWord 34 = .ok (.ireturn, 1) := by decide +kernel
theorem dX6_at_0 : decode cX6_at 0 = .ok (.iload_n 1, 1) := by decide +kernel
theorem dX6_at_1 : decode cX6_at 1 = .ok (.bipush 49, 2) := by decide +kernel
theorem dX6_at_3 : decode cX6_at 3 = .ok (.imul, 1) := by decide +kernel
theorem dX6_at_4 : decode cX6_at 4 = .ok (.iload_n 2, 1) := by decide +kernel
theorem dX6_at_5 : decode cX6_at 5 = .ok (.iadd, 1) := by decide +kernel
theorem dX6_at_6 : decode cX6_at 6 = .ok (.bipush 7, 2) := by decide +kernel
theorem dX6_at_8 : decode cX6_at 8 = .ok (.imul, 1) := by decide +kernel
theorem dX6_at_9 : decode cX6_at 9 = .ok (.iload_n 3, 1) := by decide +kernel
theorem dX6_at_10 : decode cX6_at 10 = .ok (.iadd, 1) := by decide +kernel
theorem dX6_at_11 : decode cX6_at 11 = .ok (.ireturn, 1) := by decide +kernel
theorem dX6_paired_0 : decode cX6_paired 0 = .ok (.aload_n 0, 1) := by decide +kernel
theorem dX6_paired_1 : decode cX6_paired 1 = .ok (.getfield 27, 3) := by decide +kernel
theorem dX6_paired_4 : decode cX6_paired 4 = .ok (.iload_n 3, 1) := by decide +kernel
theorem dX6_paired_5 : decode cX6_paired 5 = .ok (.baload, 1) := by decide +kernel
theorem dX6_paired_6 : decode cX6_paired 6 = .ok (.ifCond .eq 7, 3) := by decide +kernel
theorem dX6_paired_9 : decode cX6_paired 9 = .ok (.iconst 0, 1) := by decide +kernel
theorem dX6_paired_10 : decode cX6_paired 10 = .ok (.goto 17, 3) := by decide +kernel
theorem dX6_paired_13 : decode cX6_paired 13 = .ok (.aload_n 0, 1) := by decide +kernel
theorem dX6_paired_14 : decode cX6_paired 14 = .ok (.getfield 61, 3) := by decide +kernel
theorem dX6_paired_17 : decode cX6_paired 17 = .ok (.aload_n 0, 1) := by decide +kernel
theorem dX6_paired_18 : decode cX6_paired 18 = .ok (.iload_n 1, 1) := by decide +kernel
theorem dX6_paired_19 : decode cX6_paired 19 = .ok (.iconst 1, 1) := by decide +kernel
theorem dX6_paired_20 : decode cX6_paired 20 = .ok (.iadd, 1) := by decide +kernel
theorem dX6_paired_21 : decode cX6_paired 21 = .ok (.iload_n 2, 1) := by decide +kernel
theorem dX6_paired_22 : decode cX6_paired 22 = .ok (.iload_n 3, 1) := by decide +kernel
theorem dX6_paired_23 : decode cX6_paired 23 = .ok (.invokevirtual 125, 3) := by decide +kernel
theorem dX6_paired_26 : decode cX6_paired 26 = .ok (.iaload, 1) := by decide +kernel
theorem dX6_paired_27 : decode cX6_paired 27 = .ok (.aload_n 0, 1) := by decide +kernel
theorem dX6_paired_28 : decode cX6_paired 28 = .ok (.getfield 61, 3) := by decide +kernel
theorem dX6_paired_31 : decode cX6_paired 31 = .ok (.aload_n 0, 1) := by decide +kernel
theorem dX6_paired_32 : decode cX6_paired 32 = .ok (.iload_n 2, 1) := by decide +kernel
theorem dX6_paired_33 : decode cX6_paired 33 = .ok (.iconst 1, 1) := by decide +kernel
theorem dX6_paired_34 : decode cX6_paired 34 = .ok (.iadd, 1) := by decide +kernel
theorem dX6_paired_35 : decode cX6_paired 35 = .ok (.iload 4, 2) := by decide +kernel
theorem dX6_paired_37 : decode cX6_paired 37 = .ok (.iload 5, 2) := by decide +kernel
theorem dX6_paired_39 : decode cX6_paired 39 = .ok (.invokevirtual 125, 3) := by decide +kernel
theorem dX6_paired_42 : decode cX6_paired 42 = .ok (.iaload, 1) := by decide +kernel
theorem dX6_paired_43 : decode cX6_paired 43 = .ok (.iadd, 1) := by decide +kernel
theorem dX6_paired_44 : decode cX6_paired 44 = .ok (.ireturn, 1) := by decide +kernel
theorem dX6_canPair_0 : decode cX6_canPair 0 = .ok (.aload_n 0, 1) := by decide +kernel
theorem dX6_canPair_1 : decode cX6_canPair 1 = .ok (.iload_n 3, 1) := by decide +kernel
theorem dX6_canPair_2 : decode cX6_canPair 2 = .ok (.iload 4, 2) := by decide +kernel
theorem dX6_canPair_4 : decode cX6_canPair 4 = .ok (.invokevirtual 100, 3) := by decide +kernel
theorem dX6_canPair_7 : decode cX6_canPair 7 = .ok (.ifCond .eq 28, 3) := by decide +kernel
theorem dX6_canPair_10 : decode cX6_canPair 10 = .ok (.aload_n 0, 1) := by decide +kernel
theorem dX6_canPair_11 : decode cX6_canPair 11 = .ok (.iload_n 1, 1) := by decide +kernel
theorem dX6_canPair_12 : decode cX6_canPair 12 = .ok (.iload_n 3, 1) := by decide +kernel
theorem dX6_canPair_13 : decode cX6_canPair 13 = .ok (.invokevirtual 129, 3) := by decide +kernel
theorem dX6_canPair_16 : decode cX6_canPair 16 = .ok (.ifCond .eq 19, 3) := by decide +kernel
theorem dX6_canPair_19 : decode cX6_canPair 19 = .ok (.aload_n 0, 1) := by decide +kernel
theorem dX6_canPair_20 : decode cX6_canPair 20 = .ok (.iload_n 2, 1) := by decide +kernel
theorem dX6_canPair_21 : decode cX6_canPair 21 = .ok (.bipush 6, 2) := by decide +kernel
theorem dX6_canPair_23 : decode cX6_canPair 23 = .ok (.iload_n 3, 1) := by decide +kernel
theorem dX6_canPair_24 : decode cX6_canPair 24 = .ok (.iadd, 1) := by decide +kernel
theorem dX6_canPair_25 : decode cX6_canPair 25 = .ok (.invokevirtual 129, 3) := by decide +kernel
theorem dX6_canPair_28 : decode cX6_canPair 28 = .ok (.ifCond .eq 7, 3) := by decide +kernel
theorem dX6_canPair_31 : decode cX6_canPair 31 = .ok (.iconst 1, 1) := by decide +kernel
theorem dX6_canPair_32 : decode cX6_canPair 32 = .ok (.goto 4, 3) := by decide +kernel
theorem dX6_canPair_35 : decode cX6_canPair 35 = .ok (.iconst 0, 1) := by decide +kernel
theorem dX6_canPair_36 : decode cX6_canPair 36 = .ok (.ireturn, 1) := by decide +kernel
theorem dX6_count_0 : decode cX6_count 0 = .ok (.aload_n 0, 1) := by decide +kernel
theorem dX6_count_1 : decode cX6_count 1 = .ok (.getfield 116, 3) := by decide +kernel
theorem dX6_count_4 : decode cX6_count 4 = .ok (.istore_n 1, 1) := by decide +kernel
theorem dX6_count_5 : decode cX6_count 5 = .ok (.iload_n 1, 1) := by decide +kernel
theorem dX6_count_6 : decode cX6_count 6 = .ok (.ifCond .lt 164, 3) := by decide +kernel
theorem dX6_count_9 : decode cX6_count 9 = .ok (.iconst 0, 1) := by decide +kernel
theorem dX6_count_10 : decode cX6_count 10 = .ok (.istore_n 2, 1) := by decide +kernel
theorem dX6_count_11 : decode cX6_count 11 = .ok (.iload_n 2, 1) := by decide +kernel
theorem dX6_count_12 : decode cX6_count 12 = .ok (.bipush 6, 2) := by decide +kernel
theorem dX6_count_14 : decode cX6_count 14 = .ok (.if_icmp .gt 22, 3) := by decide +kernel
theorem dX6_count_17 : decode cX6_count 17 = .ok (.aload_n 0, 1) := by decide +kernel
theorem dX6_count_18 : decode cX6_count 18 = .ok (.getfield 61, 3) := by decide +kernel
theorem dX6_count_21 : decode cX6_count 21 = .ok (.aload_n 0, 1) := by decide +kernel
theorem dX6_count_22 : decode cX6_count 22 = .ok (.iload_n 1, 1) := by decide +kernel
theorem dX6_count_23 : decode cX6_count 23 = .ok (.iload_n 1, 1) := by decide +kernel
theorem dX6_count_24 : decode cX6_count 24 = .ok (.iload_n 2, 1) := by decide +kernel
theorem dX6_count_25 : decode cX6_count 25 = .ok (.invokevirtual 125, 3) := by decide +kernel
theorem dX6_count_28 : decode cX6_count 28 = .ok (.iconst 0, 1) := by decide +kernel
theorem dX6_count_29 : decode cX6_count 29 = .ok (.iastore, 1) := by decide +kernel
theorem dX6_count_30 : decode cX6_count 30 = .ok (.iinc 2 1, 3) := by decide +kernel
theorem dX6_count_33 : decode cX6_count 33 = .ok (.goto (-22), 3) := by decide +kernel
theorem dX6_count_36 : decode cX6_count 36 = .ok (.iload_n 1, 1) := by decide +kernel
theorem dX6_count_37 : decode cX6_count 37 = .ok (.iconst 1, 1) := by decide +kernel
theorem dX6_count_38 : decode cX6_count 38 = .ok (.iadd, 1) := by decide +kernel
theorem dX6_count_39 : decode cX6_count 39 = .ok (.istore_n 2, 1) := by decide +kernel
theorem dX6_count_40 : decode cX6_count 40 = .ok (.iload_n 2, 1) := by decide +kernel
theorem dX6_count_41 : decode cX6_count 41 = .ok (.aload_n 0, 1) := by decide +kernel
theorem dX6_count_42 : decode cX6_count 42 = .ok (.getfield 116, 3) := by decide +kernel
theorem dX6_count_45 : decode cX6_count 45 = .ok (.if_icmp .gt 119, 3) := by decide +kernel
theorem dX6_count_48 : decode cX6_count 48 = .ok (.iconst 0, 1) := by decide +kernel
theorem dX6_count_49 : decode cX6_count 49 = .ok (.istore_n 3, 1) := by decide +kernel
theorem dX6_count_50 : decode cX6_count 50 = .ok (.iload_n 3, 1) := by decide +kernel
theorem dX6_count_51 : decode cX6_count 51 = .ok (.bipush 6, 2) := by decide +kernel
theorem dX6_count_53 : decode cX6_count 53 = .ok (.if_icmp .gt 105, 3) := by decide +kernel
theorem dX6_count_56 : decode cX6_count 56 = .ok (.iconst 1, 1) := by decide +kernel
theorem dX6_count_57 : decode cX6_count 57 = .ok (.aload_n 0, 1) := by decide +kernel
theorem dX6_count_58 : decode cX6_count 58 = .ok (.getfield 61, 3) := by decide +kernel
theorem dX6_count_61 : decode cX6_count 61 = .ok (.aload_n 0, 1) := by decide +kernel
theorem dX6_count_62 : decode cX6_count 62 = .ok (.iload_n 1, 1) := by decide +kernel
theorem dX6_count_63 : decode cX6_count 63 = .ok (.iconst 1, 1) := by decide +kernel
theorem dX6_count_64 : decode cX6_count 64 = .ok (.iadd, 1) := by decide +kernel
theorem dX6_count_65 : decode cX6_count 65 = .ok (.iload_n 2, 1) := by decide +kernel
theorem dX6_count_66 : decode cX6_count 66 = .ok (.iload_n 3, 1) := by decide +kernel
theorem dX6_count_67 : decode cX6_count 67 = .ok (.invokevirtual 125, 3) := by decide +kernel
theorem dX6_count_70 : decode cX6_count 70 = .ok (.iaload, 1) := by decide +kernel
theorem dX6_count_71 : decode cX6_count 71 = .ok (.iadd, 1) := by decide +kernel
theorem dX6_count_72 : decode cX6_count 72 = .ok (.istore 4, 2) := by decide +kernel
theorem dX6_count_74 : decode cX6_count 74 = .ok (.iconst 0, 1) := by decide +kernel
theorem dX6_count_75 : decode cX6_count 75 = .ok (.istore 5, 2) := by decide +kernel
theorem dX6_count_77 : decode cX6_count 77 = .ok (.iload 5, 2) := by decide +kernel
theorem dX6_count_79 : decode cX6_count 79 = .ok (.bipush 6, 2) := by decide +kernel
theorem dX6_count_81 : decode cX6_count 81 = .ok (.if_icmp .ge 57, 3) := by decide +kernel
theorem dX6_count_84 : decode cX6_count 84 = .ok (.iload_n 1, 1) := by decide +kernel
theorem dX6_count_85 : decode cX6_count 85 = .ok (.iconst 1, 1) := by decide +kernel
theorem dX6_count_86 : decode cX6_count 86 = .ok (.iadd, 1) := by decide +kernel
theorem dX6_count_87 : decode cX6_count 87 = .ok (.istore 6, 2) := by decide +kernel
theorem dX6_count_89 : decode cX6_count 89 = .ok (.iload 6, 2) := by decide +kernel
theorem dX6_count_91 : decode cX6_count 91 = .ok (.iload_n 2, 1) := by decide +kernel
theorem dX6_count_92 : decode cX6_count 92 = .ok (.if_icmp .ge 40, 3) := by decide +kernel
theorem dX6_count_95 : decode cX6_count 95 = .ok (.aload_n 0, 1) := by decide +kernel
theorem dX6_count_96 : decode cX6_count 96 = .ok (.iload_n 1, 1) := by decide +kernel
theorem dX6_count_97 : decode cX6_count 97 = .ok (.iload 6, 2) := by decide +kernel
theorem dX6_count_99 : decode cX6_count 99 = .ok (.iload 5, 2) := by decide +kernel
theorem dX6_count_101 : decode cX6_count 101 = .ok (.iload_n 3, 1) := by decide +kernel
theorem dX6_count_102 : decode cX6_count 102 = .ok (.invokevirtual 132, 3) := by decide +kernel
theorem dX6_count_105 : decode cX6_count 105 = .ok (.ifCond .eq 21, 3) := by decide +kernel
theorem dX6_count_108 : decode cX6_count 108 = .ok (.iload 4, 2) := by decide +kernel
theorem dX6_count_110 : decode cX6_count 110 = .ok (.aload_n 0, 1) := by decide +kernel
theorem dX6_count_111 : decode cX6_count 111 = .ok (.iload_n 1, 1) := by decide +kernel
theorem dX6_count_112 : decode cX6_count 112 = .ok (.iload 6, 2) := by decide +kernel
theorem dX6_count_114 : decode cX6_count 114 = .ok (.iload 5, 2) := by decide +kernel
theorem dX6_count_116 : decode cX6_count 116 = .ok (.iload_n 2, 1) := by decide +kernel
theorem dX6_count_117 : decode cX6_count 117 = .ok (.iload_n 3, 1) := by decide +kernel
theorem dX6_count_118 : decode cX6_count 118 = .ok (.invokevirtual 136, 3) := by decide +kernel
theorem dX6_count_121 : decode cX6_count 121 = .ok (.invokestatic 140, 3) := by decide +kernel
theorem dX6_count_124 : decode cX6_count 124 = .ok (.istore 4, 2) := by decide +kernel
theorem dX6_count_126 : decode cX6_count 126 = .ok (.iinc 6 1, 3) := by decide +kernel
theorem dX6_count_129 : decode cX6_count 129 = .ok (.goto (-40), 3) := by decide +kernel
theorem dX6_count_132 : decode cX6_count 132 = .ok (.iinc 5 1, 3) := by decide +kernel
theorem dX6_count_135 : decode cX6_count 135 = .ok (.goto (-58), 3) := by decide +kernel
theorem dX6_count_138 : decode cX6_count 138 = .ok (.aload_n 0, 1) := by decide +kernel
theorem dX6_count_139 : decode cX6_count 139 = .ok (.getfield 61, 3) := by decide +kernel
theorem dX6_count_142 : decode cX6_count 142 = .ok (.aload_n 0, 1) := by decide +kernel
theorem dX6_count_143 : decode cX6_count 143 = .ok (.iload_n 1, 1) := by decide +kernel
theorem dX6_count_144 : decode cX6_count 144 = .ok (.iload_n 2, 1) := by decide +kernel
theorem dX6_count_145 : decode cX6_count 145 = .ok (.iload_n 3, 1) := by decide +kernel
theorem dX6_count_146 : decode cX6_count 146 = .ok (.invokevirtual 125, 3) := by decide +kernel
theorem dX6_count_149 : decode cX6_count 149 = .ok (.iload 4, 2) := by decide +kernel
theorem dX6_count_151 : decode cX6_count 151 = .ok (.iastore, 1) := by decide +kernel
theorem dX6_count_152 : decode cX6_count 152 = .ok (.iinc 3 1, 3) := by decide +kernel
theorem dX6_count_155 : decode cX6_count 155 = .ok (.goto (-105), 3) := by decide +kernel
theorem dX6_count_158 : decode cX6_count 158 = .ok (.iinc 2 1, 3) := by decide +kernel
theorem dX6_count_161 : decode cX6_count 161 = .ok (.goto (-121), 3) := by decide +kernel
theorem dX6_count_164 : decode cX6_count 164 = .ok (.iinc 1 (-1), 3) := by decide +kernel
theorem dX6_count_167 : decode cX6_count 167 = .ok (.goto (-162), 3) := by decide +kernel
theorem dX6_count_170 : decode cX6_count 170 = .ok (.return_, 1) := by decide +kernel
theorem dX6_take_0 : decode cX6_take 0 = .ok (.iload_n 1, 1) := by decide +kernel
theorem dX6_take_1 : decode cX6_take 1 = .ok (.istore 5, 2) := by decide +kernel
theorem dX6_take_3 : decode cX6_take 3 = .ok (.iload 5, 2) := by decide +kernel
theorem dX6_take_5 : decode cX6_take 5 = .ok (.iload_n 2, 1) := by decide +kernel
theorem dX6_take_6 : decode cX6_take 6 = .ok (.if_icmp .ge 219, 3) := by decide +kernel
theorem dX6_take_9 : decode cX6_take 9 = .ok (.aload_n 0, 1) := by decide +kernel
theorem dX6_take_10 : decode cX6_take 10 = .ok (.getfield 61, 3) := by decide +kernel
theorem dX6_take_13 : decode cX6_take 13 = .ok (.aload_n 0, 1) := by decide +kernel
theorem dX6_take_14 : decode cX6_take 14 = .ok (.iload 5, 2) := by decide +kernel
theorem dX6_take_16 : decode cX6_take 16 = .ok (.iload_n 2, 1) := by decide +kernel
theorem dX6_take_17 : decode cX6_take 17 = .ok (.iload_n 3, 1) := by decide +kernel
theorem dX6_take_18 : decode cX6_take 18 = .ok (.invokevirtual 125, 3) := by decide +kernel
theorem dX6_take_21 : decode cX6_take 21 = .ok (.iaload, 1) := by decide +kernel
theorem dX6_take_22 : decode cX6_take 22 = .ok (.istore 6, 2) := by decide +kernel
theorem dX6_take_24 : decode cX6_take 24 = .ok (.iconst 0, 1) := by decide +kernel
theorem dX6_take_25 : decode cX6_take 25 = .ok (.istore 7, 2) := by decide +kernel
theorem dX6_take_27 : decode cX6_take 27 = .ok (.iload 5, 2) := by decide +kernel
theorem dX6_take_29 : decode cX6_take 29 = .ok (.iconst 1, 1) := by decide +kernel
theorem dX6_take_30 : decode cX6_take 30 = .ok (.iadd, 1) := by decide +kernel
theorem dX6_take_31 : decode cX6_take 31 = .ok (.istore 8, 2) := by decide +kernel
theorem dX6_take_33 : decode cX6_take 33 = .ok (.iload 7, 2) := by decide +kernel
theorem dX6_take_35 : decode cX6_take 35 = .ok (.bipush 6, 2) := by decide +kernel
theorem dX6_take_37 : decode cX6_take 37 = .ok (.if_icmp .ge 64, 3) := by decide +kernel
theorem dX6_take_40 : decode cX6_take 40 = .ok (.iload 8, 2) := by decide +kernel
theorem dX6_take_42 : decode cX6_take 42 = .ok (.iload_n 2, 1) := by decide +kernel
theorem dX6_take_43 : decode cX6_take 43 = .ok (.if_icmp .ge 34, 3) := by decide +kernel
theorem dX6_take_46 : decode cX6_take 46 = .ok (.aload_n 0, 1) := by decide +kernel
theorem dX6_take_47 : decode cX6_take 47 = .ok (.iload 5, 2) := by decide +kernel
theorem dX6_take_49 : decode cX6_take 49 = .ok (.iload 8, 2) := by decide +kernel
theorem dX6_take_51 : decode cX6_take 51 = .ok (.iload 7, 2) := by decide +kernel
theorem dX6_take_53 : decode cX6_take 53 = .ok (.iload_n 3, 1) := by decide +kernel
theorem dX6_take_54 : decode cX6_take 54 = .ok (.invokevirtual 132, 3) := by decide +kernel
theorem dX6_take_57 : decode cX6_take 57 = .ok (.ifCond .eq 20, 3) := by decide +kernel
theorem dX6_take_60 : decode cX6_take 60 = .ok (.aload_n 0, 1) := by decide +kernel
theorem dX6_take_61 : decode cX6_take 61 = .ok (.iload 5, 2) := by decide +kernel
theorem dX6_take_63 : decode cX6_take 63 = .ok (.iload 8, 2) := by decide +kernel
theorem dX6_take_65 : decode cX6_take 65 = .ok (.iload 7, 2) := by decide +kernel
theorem dX6_take_67 : decode cX6_take 67 = .ok (.iload_n 2, 1) := by decide +kernel
theorem dX6_take_68 : decode cX6_take 68 = .ok (.iload_n 3, 1) := by decide +kernel
theorem dX6_take_69 : decode cX6_take 69 = .ok (.invokevirtual 136, 3) := by decide +kernel
theorem dX6_take_72 : decode cX6_take 72 = .ok (.iload 6, 2) := by decide +kernel
theorem dX6_take_74 : decode cX6_take 74 = .ok (.if_icmp .eq 27, 3) := by decide +kernel
theorem dX6_take_77 : decode cX6_take 77 = .ok (.iinc 8 1, 3) := by decide +kernel
theorem dX6_take_80 : decode cX6_take 80 = .ok (.iload 8, 2) := by decide +kernel
theorem dX6_take_82 : decode cX6_take 82 = .ok (.iload_n 2, 1) := by decide +kernel
theorem dX6_take_83 : decode cX6_take 83 = .ok (.if_icmp .ge 6, 3) := by decide +kernel
theorem dX6_take_86 : decode cX6_take 86 = .ok (.goto (-53), 3) := by decide +kernel
theorem dX6_take_89 : decode cX6_take 89 = .ok (.iload 5, 2) := by decide +kernel
theorem dX6_take_91 : decode cX6_take 91 = .ok (.iconst 1, 1) := by decide +kernel
theorem dX6_take_92 : decode cX6_take 92 = .ok (.iadd, 1) := by decide +kernel
theorem dX6_take_93 : decode cX6_take 93 = .ok (.istore 8, 2) := by decide +kernel
theorem dX6_take_95 : decode cX6_take 95 = .ok (.iinc 7 1, 3) := by decide +kernel
theorem dX6_take_98 : decode cX6_take 98 = .ok (.goto (-65), 3) := by decide +kernel
theorem dX6_take_101 : decode cX6_take 101 = .ok (.iload 7, 2) := by decide +kernel
theorem dX6_take_103 : decode cX6_take 103 = .ok (.bipush 6, 2) := by decide +kernel
theorem dX6_take_105 : decode cX6_take 105 = .ok (.if_icmp .ne 9, 3) := by decide +kernel
theorem dX6_take_108 : decode cX6_take 108 = .ok (.iinc 5 1, 3) := by decide +kernel
theorem dX6_take_111 : decode cX6_take 111 = .ok (.goto (-108), 3) := by decide +kernel
theorem dX6_take_114 : decode cX6_take 114 = .ok (.aload_n 0, 1) := by decide +kernel
theorem dX6_take_115 : decode cX6_take 115 = .ok (.getfield 90, 3) := by decide +kernel
theorem dX6_take_118 : decode cX6_take 118 = .ok (.istore 9, 2) := by decide +kernel
theorem dX6_take_120 : decode cX6_take 120 = .ok (.aload_n 0, 1) := by decide +kernel
theorem dX6_take_121 : decode cX6_take 121 = .ok (.getfield 37, 3) := by decide +kernel
theorem dX6_take_124 : decode cX6_take 124 = .ok (.iload 9, 2) := by decide +kernel
theorem dX6_take_126 : decode cX6_take 126 = .ok (.iload 7, 2) := by decide +kernel
theorem dX6_take_128 : decode cX6_take 128 = .ok (.iastore, 1) := by decide +kernel
theorem dX6_take_129 : decode cX6_take 129 = .ok (.aload_n 0, 1) := by decide +kernel
theorem dX6_take_130 : decode cX6_take 130 = .ok (.getfield 40, 3) := by decide +kernel
theorem dX6_take_133 : decode cX6_take 133 = .ok (.iload 9, 2) := by decide +kernel
theorem dX6_take_135 : decode cX6_take 135 = .ok (.aload_n 0, 1) := by decide +kernel
theorem dX6_take_136 : decode cX6_take 136 = .ok (.getfield 55, 3) := by decide +kernel
theorem dX6_take_139 : decode cX6_take 139 = .ok (.iload 5, 2) := by decide +kernel
theorem dX6_take_141 : decode cX6_take 141 = .ok (.iaload, 1) := by decide +kernel
theorem dX6_take_142 : decode cX6_take 142 = .ok (.iastore, 1) := by decide +kernel
theorem dX6_take_143 : decode cX6_take 143 = .ok (.aload_n 0, 1) := by decide +kernel
theorem dX6_take_144 : decode cX6_take 144 = .ok (.getfield 43, 3) := by decide +kernel
theorem dX6_take_147 : decode cX6_take 147 = .ok (.iload 9, 2) := by decide +kernel
theorem dX6_take_149 : decode cX6_take 149 = .ok (.aload_n 0, 1) := by decide +kernel
theorem dX6_take_150 : decode cX6_take 150 = .ok (.getfield 55, 3) := by decide +kernel
theorem dX6_take_153 : decode cX6_take 153 = .ok (.iload 8, 2) := by decide +kernel
theorem dX6_take_155 : decode cX6_take 155 = .ok (.iaload, 1) := by decide +kernel
theorem dX6_take_156 : decode cX6_take 156 = .ok (.aload_n 0, 1) := by decide +kernel
theorem dX6_take_157 : decode cX6_take 157 = .ok (.getfield 58, 3) := by decide +kernel
theorem dX6_take_160 : decode cX6_take 160 = .ok (.iload 8, 2) := by decide +kernel
theorem dX6_take_162 : decode cX6_take 162 = .ok (.iaload, 1) := by decide +kernel
theorem dX6_take_163 : decode cX6_take 163 = .ok (.iadd, 1) := by decide +kernel
theorem dX6_take_164 : decode cX6_take 164 = .ok (.iastore, 1) := by decide +kernel
theorem dX6_take_165 : decode cX6_take 165 = .ok (.aload_n 0, 1) := by decide +kernel
theorem dX6_take_166 : decode cX6_take 166 = .ok (.getfield 46, 3) := by decide +kernel
theorem dX6_take_169 : decode cX6_take 169 = .ok (.iload 9, 2) := by decide +kernel
theorem dX6_take_171 : decode cX6_take 171 = .ok (.iconst 0, 1) := by decide +kernel
theorem dX6_take_172 : decode cX6_take 172 = .ok (.iastore, 1) := by decide +kernel
theorem dX6_take_173 : decode cX6_take 173 = .ok (.aload_n 0, 1) := by decide +kernel
theorem dX6_take_174 : decode cX6_take 174 = .ok (.getfield 49, 3) := by decide +kernel
theorem dX6_take_177 : decode cX6_take 177 = .ok (.iload 9, 2) := by decide +kernel
theorem dX6_take_179 : decode cX6_take 179 = .ok (.iload 4, 2) := by decide +kernel
theorem dX6_take_181 : decode cX6_take 181 = .ok (.iastore, 1) := by decide +kernel
theorem dX6_take_182 : decode cX6_take 182 = .ok (.aload_n 0, 1) := by decide +kernel
theorem dX6_take_183 : decode cX6_take 183 = .ok (.dup, 1) := by decide +kernel
theorem dX6_take_184 : decode cX6_take 184 = .ok (.getfield 90, 3) := by decide +kernel
theorem dX6_take_187 : decode cX6_take 187 = .ok (.iconst 1, 1) := by decide +kernel
theorem dX6_take_188 : decode cX6_take 188 = .ok (.iadd, 1) := by decide +kernel
theorem dX6_take_189 : decode cX6_take 189 = .ok (.putfield 90, 3) := by decide +kernel
theorem dX6_take_192 : decode cX6_take 192 = .ok (.aload_n 0, 1) := by decide +kernel
theorem dX6_take_193 : decode cX6_take 193 = .ok (.getfield 27, 3) := by decide +kernel
theorem dX6_take_196 : decode cX6_take 196 = .ok (.iload 7, 2) := by decide +kernel
theorem dX6_take_198 : decode cX6_take 198 = .ok (.baload, 1) := by decide +kernel
theorem dX6_take_199 : decode cX6_take 199 = .ok (.ifCond .ne 17, 3) := by decide +kernel
theorem dX6_take_202 : decode cX6_take 202 = .ok (.aload_n 0, 1) := by decide +kernel
theorem dX6_take_203 : decode cX6_take 203 = .ok (.iload 5, 2) := by decide +kernel
theorem dX6_take_205 : decode cX6_take 205 = .ok (.iconst 1, 1) := by decide +kernel
theorem dX6_take_206 : decode cX6_take 206 = .ok (.iadd, 1) := by decide +kernel
theorem dX6_take_207 : decode cX6_take 207 = .ok (.iload 8, 2) := by decide +kernel
theorem dX6_take_209 : decode cX6_take 209 = .ok (.iload 7, 2) := by decide +kernel
theorem dX6_take_211 : decode cX6_take 211 = .ok (.iload 9, 2) := by decide +kernel
theorem dX6_take_213 : decode cX6_take 213 = .ok (.invokevirtual 143, 3) := by decide +kernel
theorem dX6_take_216 : decode cX6_take 216 = .ok (.iload 8, 2) := by decide +kernel
theorem dX6_take_218 : decode cX6_take 218 = .ok (.iconst 1, 1) := by decide +kernel
theorem dX6_take_219 : decode cX6_take 219 = .ok (.iadd, 1) := by decide +kernel
theorem dX6_take_220 : decode cX6_take 220 = .ok (.istore 5, 2) := by decide +kernel
theorem dX6_take_222 : decode cX6_take 222 = .ok (.goto (-219), 3) := by decide +kernel
theorem dX6_take_225 : decode cX6_take 225 = .ok (.return_, 1) := by decide +kernel
theorem dX6_best_0 : decode cX6_best 0 = .ok (.aload_n 0, 1) := by decide +kernel
theorem dX6_best_1 : decode cX6_best 1 = .ok (.iconst 0, 1) := by decide +kernel
theorem dX6_best_2 : decode cX6_best 2 = .ok (.putfield 64, 3) := by decide +kernel
theorem dX6_best_5 : decode cX6_best 5 = .ok (.aload_n 0, 1) := by decide +kernel
theorem dX6_best_6 : decode cX6_best 6 = .ok (.invokevirtual 147, 3) := by decide +kernel
theorem dX6_best_9 : decode cX6_best 9 = .ok (.aload_n 0, 1) := by decide +kernel
theorem dX6_best_10 : decode cX6_best 10 = .ok (.invokevirtual 150, 3) := by decide +kernel
theorem dX6_best_13 : decode cX6_best 13 = .ok (.aload_n 0, 1) := by decide +kernel
theorem dX6_best_14 : decode cX6_best 14 = .ok (.iconst 0, 1) := by decide +kernel
theorem dX6_best_15 : decode cX6_best 15 = .ok (.putfield 90, 3) := by decide +kernel
theorem dX6_best_18 : decode cX6_best 18 = .ok (.aload_n 0, 1) := by decide +kernel
theorem dX6_best_19 : decode cX6_best 19 = .ok (.aload_n 0, 1) := by decide +kernel
theorem dX6_best_20 : decode cX6_best 20 = .ok (.getfield 61, 3) := by decide +kernel
theorem dX6_best_23 : decode cX6_best 23 = .ok (.aload_n 0, 1) := by decide +kernel
theorem dX6_best_24 : decode cX6_best 24 = .ok (.iconst 0, 1) := by decide +kernel
theorem dX6_best_25 : decode cX6_best 25 = .ok (.aload_n 0, 1) := by decide +kernel
theorem dX6_best_26 : decode cX6_best 26 = .ok (.getfield 116, 3) := by decide +kernel
theorem dX6_best_29 : decode cX6_best 29 = .ok (.bipush 6, 2) := by decide +kernel
theorem dX6_best_31 : decode cX6_best 31 = .ok (.invokevirtual 125, 3) := by decide +kernel
theorem dX6_best_34 : decode cX6_best 34 = .ok (.iaload, 1) := by decide +kernel
theorem dX6_best_35 : decode cX6_best 35 = .ok (.putfield 110, 3) := by decide +kernel
theorem dX6_best_38 : decode cX6_best 38 = .ok (.aload_n 0, 1) := by decide +kernel
theorem dX6_best_39 : decode cX6_best 39 = .ok (.iconst 0, 1) := by decide +kernel
theorem dX6_best_40 : decode cX6_best 40 = .ok (.aload_n 0, 1) := by decide +kernel
theorem dX6_best_41 : decode cX6_best 41 = .ok (.getfield 116, 3) := by decide +kernel
theorem dX6_best_44 : decode cX6_best 44 = .ok (.bipush 6, 2) := by decide +kernel
theorem dX6_best_46 : decode cX6_best 46 = .ok (.iconst (-1), 1) := by decide +kernel
theorem dX6_best_47 : decode cX6_best 47 = .ok (.invokevirtual 143, 3) := by decide +kernel
theorem dX6_best_50 : decode cX6_best 50 = .ok (.aload_n 0, 1) := by decide +kernel
theorem dX6_best_51 : decode cX6_best 51 = .ok (.iconst 1, 1) := by decide +kernel
theorem dX6_best_52 : decode cX6_best 52 = .ok (.putfield 84, 3) := by decide +kernel
theorem dX6_best_55 : decode cX6_best 55 = .ok (.aload_n 0, 1) := by decide +kernel
theorem dX6_best_56 : decode cX6_best 56 = .ok (.getfield 110, 3) := by decide +kernel
theorem dX6_best_59 : decode cX6_best 59 = .ok (.ireturn, 1) := by decide +kernel
theorem dX6_hasReading_0 : decode cX6_hasReading 0 = .ok (.aload_n 0, 1) := by decide +kernel
theorem dX6_hasReading_1 : decode cX6_hasReading 1 = .ok (.iconst 0, 1) := by decide +kernel
theorem dX6_hasReading_2 : decode cX6_hasReading 2 = .ok (.putfield 64, 3) := by decide +kernel
theorem dX6_hasReading_5 : decode cX6_hasReading 5 = .ok (.aload_n 0, 1) := by decide +kernel
theorem dX6_hasReading_6 : decode cX6_hasReading 6 = .ok (.getfield 84, 3) := by decide +kernel
theorem dX6_hasReading_9 : decode cX6_hasReading 9 = .ok (.ireturn, 1) := by decide +kernel
theorem dX6_markCount_0 : decode cX6_markCount 0 = .ok (.aload_n 0, 1) := by decide +kernel
theorem dX6_markCount_1 : decode cX6_markCount 1 = .ok (.iconst 0, 1) := by decide +kernel
theorem dX6_markCount_2 : decode cX6_markCount 2 = .ok (.putfield 64, 3) := by decide +kernel
theorem dX6_markCount_5 : decode cX6_markCount 5 = .ok (.aload_n 0, 1) := by decide +kernel
theorem dX6_markCount_6 : decode cX6_markCount 6 = .ok (.invokevirtual 147, 3) := by decide +kernel
theorem dX6_markCount_9 : decode cX6_markCount 9 = .ok (.aload_n 0, 1) := by decide +kernel
theorem dX6_markCount_10 : decode cX6_markCount 10 = .ok (.getfield 116, 3) := by decide +kernel
theorem dX6_markCount_13 : decode cX6_markCount 13 = .ok (.ireturn, 1) := by decide +kernel
theorem dX6_mark_0 : decode cX6_mark 0 = .ok (.aload_n 0, 1) := by decide +kernel
theorem dX6_mark_1 : decode cX6_mark 1 = .ok (.iconst 0, 1) := by decide +kernel
theorem dX6_mark_2 : decode cX6_mark 2 = .ok (.putfield 64, 3) := by decide +kernel
theorem dX6_mark_5 : decode cX6_mark 5 = .ok (.aload_n 0, 1) := by decide +kernel
theorem dX6_mark_6 : decode cX6_mark 6 = .ok (.invokevirtual 147, 3) := by decide +kernel
theorem dX6_mark_9 : decode cX6_mark 9 = .ok (.iload_n 1, 1) := by decide +kernel
theorem dX6_mark_10 : decode cX6_mark 10 = .ok (.iconst 0, 1) := by decide +kernel
theorem dX6_mark_11 : decode cX6_mark 11 = .ok (.aload_n 0, 1) := by decide +kernel
theorem dX6_mark_12 : decode cX6_mark 12 = .ok (.getfield 116, 3) := by decide +kernel
theorem dX6_mark_15 : decode cX6_mark 15 = .ok (.iconst 1, 1) := by decide +kernel
theorem dX6_mark_16 : decode cX6_mark 16 = .ok (.isub, 1) := by decide +kernel
theorem dX6_mark_17 : decode cX6_mark 17 = .ok (.invokestatic 67, 3) := by decide +kernel
theorem dX6_mark_20 : decode cX6_mark 20 = .ok (.ifCond .eq 12, 3) := by decide +kernel
theorem dX6_mark_23 : decode cX6_mark 23 = .ok (.aload_n 0, 1) := by decide +kernel
theorem dX6_mark_24 : decode cX6_mark 24 = .ok (.getfield 55, 3) := by decide +kernel
theorem dX6_mark_27 : decode cX6_mark 27 = .ok (.iload_n 1, 1) := by decide +kernel
theorem dX6_mark_28 : decode cX6_mark 28 = .ok (.iaload, 1) := by decide +kernel
theorem dX6_mark_29 : decode cX6_mark 29 = .ok (.goto 8, 3) := by decide +kernel
theorem dX6_mark_32 : decode cX6_mark 32 = .ok (.aload_n 0, 1) := by decide +kernel
theorem dX6_mark_33 : decode cX6_mark 33 = .ok (.iconst 1, 1) := by decide +kernel
theorem dX6_mark_34 : decode cX6_mark 34 = .ok (.invokevirtual 77, 3) := by decide +kernel
theorem dX6_mark_37 : decode cX6_mark 37 = .ok (.ireturn, 1) := by decide +kernel
theorem dX6_asks_0 : decode cX6_asks 0 = .ok (.aload_n 0, 1) := by decide +kernel
theorem dX6_asks_1 : decode cX6_asks 1 = .ok (.aload_n 0, 1) := by decide +kernel
theorem dX6_asks_2 : decode cX6_asks 2 = .ok (.getfield 84, 3) := by decide +kernel
theorem dX6_asks_5 : decode cX6_asks 5 = .ok (.ifCond .ne 7, 3) := by decide +kernel
theorem dX6_asks_8 : decode cX6_asks 8 = .ok (.iconst 1, 1) := by decide +kernel
theorem dX6_asks_9 : decode cX6_asks 9 = .ok (.goto 17, 3) := by decide +kernel
theorem dX6_asks_12 : decode cX6_asks 12 = .ok (.iload_n 1, 1) := by decide +kernel
theorem dX6_asks_13 : decode cX6_asks 13 = .ok (.ifCond .lt 8, 3) := by decide +kernel
theorem dX6_asks_16 : decode cX6_asks 16 = .ok (.iload_n 1, 1) := by decide +kernel
theorem dX6_asks_17 : decode cX6_asks 17 = .ok (.iload_n 2, 1) := by decide +kernel
theorem dX6_asks_18 : decode cX6_asks 18 = .ok (.if_icmp .lt 7, 3) := by decide +kernel
theorem dX6_asks_21 : decode cX6_asks 21 = .ok (.iconst 2, 1) := by decide +kernel
theorem dX6_asks_22 : decode cX6_asks 22 = .ok (.goto 4, 3) := by decide +kernel
theorem dX6_asks_25 : decode cX6_asks 25 = .ok (.iconst 0, 1) := by decide +kernel
theorem dX6_asks_26 : decode cX6_asks 26 = .ok (.putfield 64, 3) := by decide +kernel
theorem dX6_asks_29 : decode cX6_asks 29 = .ok (.aload_n 0, 1) := by decide +kernel
theorem dX6_asks_30 : decode cX6_asks 30 = .ok (.getfield 64, 3) := by decide +kernel
theorem dX6_asks_33 : decode cX6_asks 33 = .ok (.ifCond .ne 7, 3) := by decide +kernel
theorem dX6_asks_36 : decode cX6_asks 36 = .ok (.iconst 1, 1) := by decide +kernel
theorem dX6_asks_37 : decode cX6_asks 37 = .ok (.goto 4, 3) := by decide +kernel
theorem dX6_asks_40 : decode cX6_asks 40 = .ok (.iconst 0, 1) := by decide +kernel
theorem dX6_asks_41 : decode cX6_asks 41 = .ok (.ireturn, 1) := by decide +kernel
theorem dX6_islandCount_0 : decode cX6_islandCount 0 = .ok (.aload_n 0, 1) := by decide +kernel
theorem dX6_islandCount_1 : decode cX6_islandCount 1 = .ok (.iconst 0, 1) := by decide +kernel
theorem dX6_islandCount_2 : decode cX6_islandCount 2 = .ok (.iconst 1, 1) := by decide +kernel
theorem dX6_islandCount_3 : decode cX6_islandCount 3 = .ok (.invokevirtual 153, 3) := by decide +kernel
theorem dX6_islandCount_6 : decode cX6_islandCount 6 = .ok (.ifCond .eq 10, 3) := by decide +kernel
theorem dX6_islandCount_9 : decode cX6_islandCount 9 = .ok (.aload_n 0, 1) := by decide +kernel
theorem dX6_islandCount_10 : decode cX6_islandCount 10 = .ok (.getfield 90, 3) := by decide +kernel
theorem dX6_islandCount_13 : decode cX6_islandCount 13 = .ok (.goto 4, 3) := by decide +kernel
theorem dX6_islandCount_16 : decode cX6_islandCount 16 = .ok (.iconst 0, 1) := by decide +kernel
theorem dX6_islandCount_17 : decode cX6_islandCount 17 = .ok (.ireturn, 1) := by decide +kernel
theorem dX6_kind_0 : decode cX6_kind 0 = .ok (.aload_n 0, 1) := by decide +kernel
theorem dX6_kind_1 : decode cX6_kind 1 = .ok (.iload_n 1, 1) := by decide +kernel
theorem dX6_kind_2 : decode cX6_kind 2 = .ok (.aload_n 0, 1) := by decide +kernel
theorem dX6_kind_3 : decode cX6_kind 3 = .ok (.getfield 90, 3) := by decide +kernel
theorem dX6_kind_6 : decode cX6_kind 6 = .ok (.invokevirtual 153, 3) := by decide +kernel
theorem dX6_kind_9 : decode cX6_kind 9 = .ok (.ifCond .eq 12, 3) := by decide +kernel
theorem dX6_kind_12 : decode cX6_kind 12 = .ok (.aload_n 0, 1) := by decide +kernel
theorem dX6_kind_13 : decode cX6_kind 13 = .ok (.getfield 37, 3) := by decide +kernel
theorem dX6_kind_16 : decode cX6_kind 16 = .ok (.iload_n 1, 1) := by decide +kernel
theorem dX6_kind_17 : decode cX6_kind 17 = .ok (.iaload, 1) := by decide +kernel
theorem dX6_kind_18 : decode cX6_kind 18 = .ok (.goto 4, 3) := by decide +kernel
theorem dX6_kind_21 : decode cX6_kind 21 = .ok (.iconst 0, 1) := by decide +kernel
theorem dX6_kind_22 : decode cX6_kind 22 = .ok (.ireturn, 1) := by decide +kernel
theorem dX6_start_0 : decode cX6_start 0 = .ok (.aload_n 0, 1) := by decide +kernel
theorem dX6_start_1 : decode cX6_start 1 = .ok (.iload_n 1, 1) := by decide +kernel
theorem dX6_start_2 : decode cX6_start 2 = .ok (.aload_n 0, 1) := by decide +kernel
theorem dX6_start_3 : decode cX6_start 3 = .ok (.getfield 90, 3) := by decide +kernel
theorem dX6_start_6 : decode cX6_start 6 = .ok (.invokevirtual 153, 3) := by decide +kernel
theorem dX6_start_9 : decode cX6_start 9 = .ok (.ifCond .eq 12, 3) := by decide +kernel
theorem dX6_start_12 : decode cX6_start 12 = .ok (.aload_n 0, 1) := by decide +kernel
theorem dX6_start_13 : decode cX6_start 13 = .ok (.getfield 40, 3) := by decide +kernel
theorem dX6_start_16 : decode cX6_start 16 = .ok (.iload_n 1, 1) := by decide +kernel
theorem dX6_start_17 : decode cX6_start 17 = .ok (.iaload, 1) := by decide +kernel
theorem dX6_start_18 : decode cX6_start 18 = .ok (.goto 4, 3) := by decide +kernel
theorem dX6_start_21 : decode cX6_start 21 = .ok (.iconst 0, 1) := by decide +kernel
theorem dX6_start_22 : decode cX6_start 22 = .ok (.ireturn, 1) := by decide +kernel
theorem dX6_end_0 : decode cX6_end 0 = .ok (.aload_n 0, 1) := by decide +kernel
theorem dX6_end_1 : decode cX6_end 1 = .ok (.iload_n 1, 1) := by decide +kernel
theorem dX6_end_2 : decode cX6_end 2 = .ok (.aload_n 0, 1) := by decide +kernel
theorem dX6_end_3 : decode cX6_end 3 = .ok (.getfield 90, 3) := by decide +kernel
theorem dX6_end_6 : decode cX6_end 6 = .ok (.invokevirtual 153, 3) := by decide +kernel
theorem dX6_end_9 : decode cX6_end 9 = .ok (.ifCond .eq 12, 3) := by decide +kernel
theorem dX6_end_12 : decode cX6_end 12 = .ok (.aload_n 0, 1) := by decide +kernel
theorem dX6_end_13 : decode cX6_end 13 = .ok (.getfield 43, 3) := by decide +kernel
theorem dX6_end_16 : decode cX6_end 16 = .ok (.iload_n 1, 1) := by decide +kernel
theorem dX6_end_17 : decode cX6_end 17 = .ok (.iaload, 1) := by decide +kernel
theorem dX6_end_18 : decode cX6_end 18 = .ok (.goto 4, 3) := by decide +kernel
theorem dX6_end_21 : decode cX6_end 21 = .ok (.iconst 0, 1) := by decide +kernel
theorem dX6_end_22 : decode cX6_end 22 = .ok (.ireturn, 1) := by decide +kernel
theorem dX6_state_0 : decode cX6_state 0 = .ok (.aload_n 0, 1) := by decide +kernel
theorem dX6_state_1 : decode cX6_state 1 = .ok (.iload_n 1, 1) := by decide +kernel
theorem dX6_state_2 : decode cX6_state 2 = .ok (.aload_n 0, 1) := by decide +kernel
theorem dX6_state_3 : decode cX6_state 3 = .ok (.getfield 90, 3) := by decide +kernel
theorem dX6_state_6 : decode cX6_state 6 = .ok (.invokevirtual 153, 3) := by decide +kernel
theorem dX6_state_9 : decode cX6_state 9 = .ok (.ifCond .eq 12, 3) := by decide +kernel
theorem dX6_state_12 : decode cX6_state 12 = .ok (.aload_n 0, 1) := by decide +kernel
theorem dX6_state_13 : decode cX6_state 13 = .ok (.getfield 46, 3) := by decide +kernel
theorem dX6_state_16 : decode cX6_state 16 = .ok (.iload_n 1, 1) := by decide +kernel
theorem dX6_state_17 : decode cX6_state 17 = .ok (.iaload, 1) := by decide +kernel
theorem dX6_state_18 : decode cX6_state 18 = .ok (.goto 4, 3) := by decide +kernel
theorem dX6_state_21 : decode cX6_state 21 = .ok (.iconst 0, 1) := by decide +kernel
theorem dX6_state_22 : decode cX6_state 22 = .ok (.ireturn, 1) := by decide +kernel
theorem dX6_parent_0 : decode cX6_parent 0 = .ok (.aload_n 0, 1) := by decide +kernel
theorem dX6_parent_1 : decode cX6_parent 1 = .ok (.iload_n 1, 1) := by decide +kernel
theorem dX6_parent_2 : decode cX6_parent 2 = .ok (.aload_n 0, 1) := by decide +kernel
theorem dX6_parent_3 : decode cX6_parent 3 = .ok (.getfield 90, 3) := by decide +kernel
theorem dX6_parent_6 : decode cX6_parent 6 = .ok (.invokevirtual 153, 3) := by decide +kernel
theorem dX6_parent_9 : decode cX6_parent 9 = .ok (.ifCond .eq 12, 3) := by decide +kernel
theorem dX6_parent_12 : decode cX6_parent 12 = .ok (.aload_n 0, 1) := by decide +kernel
theorem dX6_parent_13 : decode cX6_parent 13 = .ok (.getfield 49, 3) := by decide +kernel
theorem dX6_parent_16 : decode cX6_parent 16 = .ok (.iload_n 1, 1) := by decide +kernel
theorem dX6_parent_17 : decode cX6_parent 17 = .ok (.iaload, 1) := by decide +kernel
theorem dX6_parent_18 : decode cX6_parent 18 = .ok (.goto 4, 3) := by decide +kernel
theorem dX6_parent_21 : decode cX6_parent 21 = .ok (.iconst 0, 1) := by decide +kernel
theorem dX6_parent_22 : decode cX6_parent 22 = .ok (.ireturn, 1) := by decide +kernel
theorem dX6_depth_0 : decode cX6_depth 0 = .ok (.aload_n 0, 1) := by decide +kernel
theorem dX6_depth_1 : decode cX6_depth 1 = .ok (.iload_n 1, 1) := by decide +kernel
theorem dX6_depth_2 : decode cX6_depth 2 = .ok (.aload_n 0, 1) := by decide +kernel
theorem dX6_depth_3 : decode cX6_depth 3 = .ok (.getfield 90, 3) := by decide +kernel
theorem dX6_depth_6 : decode cX6_depth 6 = .ok (.invokevirtual 153, 3) := by decide +kernel
theorem dX6_depth_9 : decode cX6_depth 9 = .ok (.ifCond .ne 5, 3) := by decide +kernel
theorem dX6_depth_12 : decode cX6_depth 12 = .ok (.iconst 0, 1) := by decide +kernel
theorem dX6_depth_13 : decode cX6_depth 13 = .ok (.ireturn, 1) := by decide +kernel
theorem dX6_depth_14 : decode cX6_depth 14 = .ok (.iconst 0, 1) := by decide +kernel
theorem dX6_depth_15 : decode cX6_depth 15 = .ok (.istore_n 2, 1) := by decide +kernel
theorem dX6_depth_16 : decode cX6_depth 16 = .ok (.aload_n 0, 1) := by decide +kernel
theorem dX6_depth_17 : decode cX6_depth 17 = .ok (.getfield 49, 3) := by decide +kernel
theorem dX6_depth_20 : decode cX6_depth 20 = .ok (.iload_n 1, 1) := by decide +kernel
theorem dX6_depth_21 : decode cX6_depth 21 = .ok (.iaload, 1) := by decide +kernel
theorem dX6_depth_22 : decode cX6_depth 22 = .ok (.istore_n 3, 1) := by decide +kernel
theorem dX6_depth_23 : decode cX6_depth 23 = .ok (.iload_n 3, 1) := by decide +kernel
theorem dX6_depth_24 : decode cX6_depth 24 = .ok (.iconst (-1), 1) := by decide +kernel
theorem dX6_depth_25 : decode cX6_depth 25 = .ok (.if_icmp .eq 16, 3) := by decide +kernel
theorem dX6_depth_28 : decode cX6_depth 28 = .ok (.iinc 2 1, 3) := by decide +kernel
theorem dX6_depth_31 : decode cX6_depth 31 = .ok (.aload_n 0, 1) := by decide +kernel
theorem dX6_depth_32 : decode cX6_depth 32 = .ok (.getfield 49, 3) := by decide +kernel
theorem dX6_depth_35 : decode cX6_depth 35 = .ok (.iload_n 3, 1) := by decide +kernel
theorem dX6_depth_36 : decode cX6_depth 36 = .ok (.iaload, 1) := by decide +kernel
theorem dX6_depth_37 : decode cX6_depth 37 = .ok (.istore_n 3, 1) := by decide +kernel
theorem dX6_depth_38 : decode cX6_depth 38 = .ok (.goto (-15), 3) := by decide +kernel
theorem dX6_depth_41 : decode cX6_depth 41 = .ok (.iload_n 2, 1) := by decide +kernel
theorem dX6_depth_42 : decode cX6_depth 42 = .ok (.ireturn, 1) := by decide +kernel
theorem dX6_own_0 : decode cX6_own 0 = .ok (.aload_n 0, 1) := by decide +kernel
theorem dX6_own_1 : decode cX6_own 1 = .ok (.iload_n 1, 1) := by decide +kernel
theorem dX6_own_2 : decode cX6_own 2 = .ok (.aload_n 0, 1) := by decide +kernel
theorem dX6_own_3 : decode cX6_own 3 = .ok (.getfield 90, 3) := by decide +kernel
theorem dX6_own_6 : decode cX6_own 6 = .ok (.invokevirtual 153, 3) := by decide +kernel
theorem dX6_own_9 : decode cX6_own 9 = .ok (.ifCond .ne 5, 3) := by decide +kernel
theorem dX6_own_12 : decode cX6_own 12 = .ok (.iconst 0, 1) := by decide +kernel
theorem dX6_own_13 : decode cX6_own 13 = .ok (.ireturn, 1) := by decide +kernel
theorem dX6_own_14 : decode cX6_own 14 = .ok (.aload_n 0, 1) := by decide +kernel
theorem dX6_own_15 : decode cX6_own 15 = .ok (.getfield 43, 3) := by decide +kernel
theorem dX6_own_18 : decode cX6_own 18 = .ok (.iload_n 1, 1) := by decide +kernel
theorem dX6_own_19 : decode cX6_own 19 = .ok (.iaload, 1) := by decide +kernel
theorem dX6_own_20 : decode cX6_own 20 = .ok (.aload_n 0, 1) := by decide +kernel
theorem dX6_own_21 : decode cX6_own 21 = .ok (.getfield 40, 3) := by decide +kernel
theorem dX6_own_24 : decode cX6_own 24 = .ok (.iload_n 1, 1) := by decide +kernel
theorem dX6_own_25 : decode cX6_own 25 = .ok (.iaload, 1) := by decide +kernel
theorem dX6_own_26 : decode cX6_own 26 = .ok (.isub, 1) := by decide +kernel
theorem dX6_own_27 : decode cX6_own 27 = .ok (.istore_n 2, 1) := by decide +kernel
theorem dX6_own_28 : decode cX6_own 28 = .ok (.iconst 0, 1) := by decide +kernel
theorem dX6_own_29 : decode cX6_own 29 = .ok (.istore_n 3, 1) := by decide +kernel
theorem dX6_own_30 : decode cX6_own 30 = .ok (.iload_n 3, 1) := by decide +kernel
theorem dX6_own_31 : decode cX6_own 31 = .ok (.aload_n 0, 1) := by decide +kernel
theorem dX6_own_32 : decode cX6_own 32 = .ok (.getfield 90, 3) := by decide +kernel
theorem dX6_own_35 : decode cX6_own 35 = .ok (.if_icmp .ge 39, 3) := by decide +kernel
theorem dX6_own_38 : decode cX6_own 38 = .ok (.iload_n 2, 1) := by decide +kernel
theorem dX6_own_39 : decode cX6_own 39 = .ok (.aload_n 0, 1) := by decide +kernel
theorem dX6_own_40 : decode cX6_own 40 = .ok (.getfield 49, 3) := by decide +kernel
theorem dX6_own_43 : decode cX6_own 43 = .ok (.iload_n 3, 1) := by decide +kernel
theorem dX6_own_44 : decode cX6_own 44 = .ok (.iaload, 1) := by decide +kernel
theorem dX6_own_45 : decode cX6_own 45 = .ok (.iload_n 1, 1) := by decide +kernel
theorem dX6_own_46 : decode cX6_own 46 = .ok (.if_icmp .ne 19, 3) := by decide +kernel
theorem dX6_own_49 : decode cX6_own 49 = .ok (.aload_n 0, 1) := by decide +kernel
theorem dX6_own_50 : decode cX6_own 50 = .ok (.getfield 43, 3) := by decide +kernel
theorem dX6_own_53 : decode cX6_own 53 = .ok (.iload_n 3, 1) := by decide +kernel
theorem dX6_own_54 : decode cX6_own 54 = .ok (.iaload, 1) := by decide +kernel
theorem dX6_own_55 : decode cX6_own 55 = .ok (.aload_n 0, 1) := by decide +kernel
theorem dX6_own_56 : decode cX6_own 56 = .ok (.getfield 40, 3) := by decide +kernel
theorem dX6_own_59 : decode cX6_own 59 = .ok (.iload_n 3, 1) := by decide +kernel
theorem dX6_own_60 : decode cX6_own 60 = .ok (.iaload, 1) := by decide +kernel
theorem dX6_own_61 : decode cX6_own 61 = .ok (.isub, 1) := by decide +kernel
theorem dX6_own_62 : decode cX6_own 62 = .ok (.goto 4, 3) := by decide +kernel
theorem dX6_own_65 : decode cX6_own 65 = .ok (.iconst 0, 1) := by decide +kernel
theorem dX6_own_66 : decode cX6_own 66 = .ok (.isub, 1) := by decide +kernel
theorem dX6_own_67 : decode cX6_own 67 = .ok (.istore_n 2, 1) := by decide +kernel
theorem dX6_own_68 : decode cX6_own 68 = .ok (.iinc 3 1, 3) := by decide +kernel
theorem dX6_own_71 : decode cX6_own 71 = .ok (.goto (-41), 3) := by decide +kernel
theorem dX6_own_74 : decode cX6_own 74 = .ok (.iload_n 2, 1) := by decide +kernel
theorem dX6_own_75 : decode cX6_own 75 = .ok (.ireturn, 1) := by decide +kernel
theorem dX6_around_0 : decode cX6_around 0 = .ok (.iconst (-1), 1) := by decide +kernel
theorem dX6_around_1 : decode cX6_around 1 = .ok (.istore_n 2, 1) := by decide +kernel
theorem dX6_around_2 : decode cX6_around 2 = .ok (.iconst 0, 1) := by decide +kernel
theorem dX6_around_3 : decode cX6_around 3 = .ok (.istore_n 3, 1) := by decide +kernel
theorem dX6_around_4 : decode cX6_around 4 = .ok (.iload_n 3, 1) := by decide +kernel
theorem dX6_around_5 : decode cX6_around 5 = .ok (.aload_n 0, 1) := by decide +kernel
theorem dX6_around_6 : decode cX6_around 6 = .ok (.getfield 90, 3) := by decide +kernel
theorem dX6_around_9 : decode cX6_around 9 = .ok (.if_icmp .ge 31, 3) := by decide +kernel
theorem dX6_around_12 : decode cX6_around 12 = .ok (.aload_n 0, 1) := by decide +kernel
theorem dX6_around_13 : decode cX6_around 13 = .ok (.getfield 40, 3) := by decide +kernel
theorem dX6_around_16 : decode cX6_around 16 = .ok (.iload_n 3, 1) := by decide +kernel
theorem dX6_around_17 : decode cX6_around 17 = .ok (.iaload, 1) := by decide +kernel
theorem dX6_around_18 : decode cX6_around 18 = .ok (.iload_n 1, 1) := by decide +kernel
theorem dX6_around_19 : decode cX6_around 19 = .ok (.if_icmp .gt 15, 3) := by decide +kernel
theorem dX6_around_22 : decode cX6_around 22 = .ok (.iload_n 1, 1) := by decide +kernel
theorem dX6_around_23 : decode cX6_around 23 = .ok (.aload_n 0, 1) := by decide +kernel
theorem dX6_around_24 : decode cX6_around 24 = .ok (.getfield 43, 3) := by decide +kernel
theorem dX6_around_27 : decode cX6_around 27 = .ok (.iload_n 3, 1) := by decide +kernel
theorem dX6_around_28 : decode cX6_around 28 = .ok (.iaload, 1) := by decide +kernel
theorem dX6_around_29 : decode cX6_around 29 = .ok (.if_icmp .ge 5, 3) := by decide +kernel
theorem dX6_around_32 : decode cX6_around 32 = .ok (.iload_n 3, 1) := by decide +kernel
theorem dX6_around_33 : decode cX6_around 33 = .ok (.istore_n 2, 1) := by decide +kernel
theorem dX6_around_34 : decode cX6_around 34 = .ok (.iinc 3 1, 3) := by decide +kernel
theorem dX6_around_37 : decode cX6_around 37 = .ok (.goto (-33), 3) := by decide +kernel
theorem dX6_around_40 : decode cX6_around 40 = .ok (.iload_n 2, 1) := by decide +kernel
theorem dX6_around_41 : decode cX6_around 41 = .ok (.ireturn, 1) := by decide +kernel
theorem dX6_at__0 : decode cX6_at_ 0 = .ok (.aload_n 0, 1) := by decide +kernel
theorem dX6_at__1 : decode cX6_at_ 1 = .ok (.iload_n 1, 1) := by decide +kernel
theorem dX6_at__2 : decode cX6_at_ 2 = .ok (.aload_n 0, 1) := by decide +kernel
theorem dX6_at__3 : decode cX6_at_ 3 = .ok (.getfield 81, 3) := by decide +kernel
theorem dX6_at__6 : decode cX6_at_ 6 = .ok (.invokevirtual 153, 3) := by decide +kernel
theorem dX6_at__9 : decode cX6_at_ 9 = .ok (.ifCond .eq 11, 3) := by decide +kernel
theorem dX6_at__12 : decode cX6_at_ 12 = .ok (.aload_n 0, 1) := by decide +kernel
theorem dX6_at__13 : decode cX6_at_ 13 = .ok (.iload_n 1, 1) := by decide +kernel
theorem dX6_at__14 : decode cX6_at_ 14 = .ok (.invokevirtual 156, 3) := by decide +kernel
theorem dX6_at__17 : decode cX6_at_ 17 = .ok (.goto 4, 3) := by decide +kernel
theorem dX6_at__20 : decode cX6_at_ 20 = .ok (.iconst 0, 1) := by decide +kernel
theorem dX6_at__21 : decode cX6_at_ 21 = .ok (.ireturn, 1) := by decide +kernel
theorem dX6_count__0 : decode cX6_count_ 0 = .ok (.iconst 0, 1) := by decide +kernel
theorem dX6_count__1 : decode cX6_count_ 1 = .ok (.istore_n 3, 1) := by decide +kernel
theorem dX6_count__2 : decode cX6_count_ 2 = .ok (.aload_n 0, 1) := by decide +kernel
theorem dX6_count__3 : decode cX6_count_ 3 = .ok (.iload_n 1, 1) := by decide +kernel
theorem dX6_count__4 : decode cX6_count_ 4 = .ok (.bipush 6, 2) := by decide +kernel
theorem dX6_count__6 : decode cX6_count_ 6 = .ok (.invokevirtual 153, 3) := by decide +kernel
theorem dX6_count__9 : decode cX6_count_ 9 = .ok (.ifCond .eq 12, 3) := by decide +kernel
theorem dX6_count__12 : decode cX6_count_ 12 = .ok (.aload_n 0, 1) := by decide +kernel
theorem dX6_count__13 : decode cX6_count_ 13 = .ok (.iload_n 2, 1) := by decide +kernel
theorem dX6_count__14 : decode cX6_count_ 14 = .ok (.iconst 3, 1) := by decide +kernel
theorem dX6_count__15 : decode cX6_count_ 15 = .ok (.invokevirtual 153, 3) := by decide +kernel
theorem dX6_count__18 : decode cX6_count_ 18 = .ok (.ifCond .ne 5, 3) := by decide +kernel
theorem dX6_count__21 : decode cX6_count_ 21 = .ok (.iconst 0, 1) := by decide +kernel
theorem dX6_count__22 : decode cX6_count_ 22 = .ok (.ireturn, 1) := by decide +kernel
theorem dX6_count__23 : decode cX6_count_ 23 = .ok (.iconst 0, 1) := by decide +kernel
theorem dX6_count__24 : decode cX6_count_ 24 = .ok (.istore 4, 2) := by decide +kernel
theorem dX6_count__26 : decode cX6_count_ 26 = .ok (.iload 4, 2) := by decide +kernel
theorem dX6_count__28 : decode cX6_count_ 28 = .ok (.aload_n 0, 1) := by decide +kernel
theorem dX6_count__29 : decode cX6_count_ 29 = .ok (.getfield 90, 3) := by decide +kernel
theorem dX6_count__32 : decode cX6_count_ 32 = .ok (.if_icmp .ge 39, 3) := by decide +kernel
theorem dX6_count__35 : decode cX6_count_ 35 = .ok (.iload_n 3, 1) := by decide +kernel
theorem dX6_count__36 : decode cX6_count_ 36 = .ok (.aload_n 0, 1) := by decide +kernel
theorem dX6_count__37 : decode cX6_count_ 37 = .ok (.getfield 37, 3) := by decide +kernel
theorem dX6_count__40 : decode cX6_count_ 40 = .ok (.iload 4, 2) := by decide +kernel
theorem dX6_count__42 : decode cX6_count_ 42 = .ok (.iaload, 1) := by decide +kernel
theorem dX6_count__43 : decode cX6_count_ 43 = .ok (.iload_n 1, 1) := by decide +kernel
theorem dX6_count__44 : decode cX6_count_ 44 = .ok (.if_icmp .ne 18, 3) := by decide +kernel
theorem dX6_count__47 : decode cX6_count_ 47 = .ok (.aload_n 0, 1) := by decide +kernel
theorem dX6_count__48 : decode cX6_count_ 48 = .ok (.getfield 46, 3) := by decide +kernel
theorem dX6_count__51 : decode cX6_count_ 51 = .ok (.iload 4, 2) := by decide +kernel
theorem dX6_count__53 : decode cX6_count_ 53 = .ok (.iaload, 1) := by decide +kernel
theorem dX6_count__54 : decode cX6_count_ 54 = .ok (.iload_n 2, 1) := by decide +kernel
theorem dX6_count__55 : decode cX6_count_ 55 = .ok (.if_icmp .ne 7, 3) := by decide +kernel
theorem dX6_count__58 : decode cX6_count_ 58 = .ok (.iconst 1, 1) := by decide +kernel
theorem dX6_count__59 : decode cX6_count_ 59 = .ok (.goto 4, 3) := by decide +kernel
theorem dX6_count__62 : decode cX6_count_ 62 = .ok (.iconst 0, 1) := by decide +kernel
theorem dX6_count__63 : decode cX6_count_ 63 = .ok (.iadd, 1) := by decide +kernel
theorem dX6_count__64 : decode cX6_count_ 64 = .ok (.istore_n 3, 1) := by decide +kernel
theorem dX6_count__65 : decode cX6_count_ 65 = .ok (.iinc 4 1, 3) := by decide +kernel
theorem dX6_count__68 : decode cX6_count_ 68 = .ok (.goto (-42), 3) := by decide +kernel
theorem dX6_count__71 : decode cX6_count_ 71 = .ok (.iload_n 3, 1) := by decide +kernel
theorem dX6_count__72 : decode cX6_count_ 72 = .ok (.ireturn, 1) := by decide +kernel
theorem dX6_outside_0 : decode cX6_outside 0 = .ok (.iconst 0, 1) := by decide +kernel
theorem dX6_outside_1 : decode cX6_outside 1 = .ok (.istore_n 1, 1) := by decide +kernel
theorem dX6_outside_2 : decode cX6_outside 2 = .ok (.iconst 0, 1) := by decide +kernel
theorem dX6_outside_3 : decode cX6_outside 3 = .ok (.istore_n 2, 1) := by decide +kernel
theorem dX6_outside_4 : decode cX6_outside 4 = .ok (.iload_n 2, 1) := by decide +kernel
theorem dX6_outside_5 : decode cX6_outside 5 = .ok (.aload_n 0, 1) := by decide +kernel
theorem dX6_outside_6 : decode cX6_outside 6 = .ok (.getfield 81, 3) := by decide +kernel
theorem dX6_outside_9 : decode cX6_outside 9 = .ok (.if_icmp .ge 26, 3) := by decide +kernel
theorem dX6_outside_12 : decode cX6_outside 12 = .ok (.iload_n 1, 1) := by decide +kernel
theorem dX6_outside_13 : decode cX6_outside 13 = .ok (.aload_n 0, 1) := by decide +kernel
theorem dX6_outside_14 : decode cX6_outside 14 = .ok (.iload_n 2, 1) := by decide +kernel
theorem dX6_outside_15 : decode cX6_outside 15 = .ok (.invokevirtual 156, 3) := by decide +kernel
theorem dX6_outside_18 : decode cX6_outside 18 = .ok (.iconst (-1), 1) := by decide +kernel
theorem dX6_outside_19 : decode cX6_outside 19 = .ok (.if_icmp .ne 7, 3) := by decide +kernel
theorem dX6_outside_22 : decode cX6_outside 22 = .ok (.iconst 1, 1) := by decide +kernel
theorem dX6_outside_23 : decode cX6_outside 23 = .ok (.goto 4, 3) := by decide +kernel
theorem dX6_outside_26 : decode cX6_outside 26 = .ok (.iconst 0, 1) := by decide +kernel
theorem dX6_outside_27 : decode cX6_outside 27 = .ok (.iadd, 1) := by decide +kernel
theorem dX6_outside_28 : decode cX6_outside 28 = .ok (.istore_n 1, 1) := by decide +kernel
theorem dX6_outside_29 : decode cX6_outside 29 = .ok (.iinc 2 1, 3) := by decide +kernel
theorem dX6_outside_32 : decode cX6_outside 32 = .ok (.goto (-28), 3) := by decide +kernel
theorem dX6_outside_35 : decode cX6_outside 35 = .ok (.iload_n 1, 1) := by decide +kernel
theorem dX6_outside_36 : decode cX6_outside 36 = .ok (.ireturn, 1) := by decide +kernel
theorem dX6_water_0 : decode cX6_water 0 = .ok (.aload_n 0, 1) := by decide +kernel
theorem dX6_water_1 : decode cX6_water 1 = .ok (.iconst 0, 1) := by decide +kernel
theorem dX6_water_2 : decode cX6_water 2 = .ok (.iconst 1, 1) := by decide +kernel
theorem dX6_water_3 : decode cX6_water 3 = .ok (.invokevirtual 153, 3) := by decide +kernel
theorem dX6_water_6 : decode cX6_water 6 = .ok (.ifCond .eq 10, 3) := by decide +kernel
theorem dX6_water_9 : decode cX6_water 9 = .ok (.aload_n 0, 1) := by decide +kernel
theorem dX6_water_10 : decode cX6_water 10 = .ok (.invokevirtual 159, 3) := by decide +kernel
theorem dX6_water_13 : decode cX6_water 13 = .ok (.goto 4, 3) := by decide +kernel
theorem dX6_water_16 : decode cX6_water 16 = .ok (.iconst 0, 1) := by decide +kernel
theorem dX6_water_17 : decode cX6_water 17 = .ok (.ireturn, 1) := by decide +kernel
theorem dX6_left_0 : decode cX6_left 0 = .ok (.aload_n 0, 1) := by decide +kernel
theorem dX6_left_1 : decode cX6_left 1 = .ok (.iconst 0, 1) := by decide +kernel
theorem dX6_left_2 : decode cX6_left 2 = .ok (.iconst 1, 1) := by decide +kernel
theorem dX6_left_3 : decode cX6_left 3 = .ok (.invokevirtual 153, 3) := by decide +kernel
theorem dX6_left_6 : decode cX6_left 6 = .ok (.ifCond .eq 10, 3) := by decide +kernel
theorem dX6_left_9 : decode cX6_left 9 = .ok (.aload_n 0, 1) := by decide +kernel
theorem dX6_left_10 : decode cX6_left 10 = .ok (.getfield 110, 3) := by decide +kernel
theorem dX6_left_13 : decode cX6_left 13 = .ok (.goto 4, 3) := by decide +kernel
theorem dX6_left_16 : decode cX6_left 16 = .ok (.iconst 0, 1) := by decide +kernel
theorem dX6_left_17 : decode cX6_left 17 = .ok (.ireturn, 1) := by decide +kernel
theorem dX6_share_0 : decode cX6_share 0 = .ok (.aload_n 0, 1) := by decide +kernel
theorem dX6_share_1 : decode cX6_share 1 = .ok (.iconst 0, 1) := by decide +kernel
theorem dX6_share_2 : decode cX6_share 2 = .ok (.iconst 1, 1) := by decide +kernel
theorem dX6_share_3 : decode cX6_share 3 = .ok (.invokevirtual 153, 3) := by decide +kernel
theorem dX6_share_6 : decode cX6_share 6 = .ok (.ifCond .eq 10, 3) := by decide +kernel
theorem dX6_share_9 : decode cX6_share 9 = .ok (.aload_n 0, 1) := by decide +kernel
theorem dX6_share_10 : decode cX6_share 10 = .ok (.getfield 81, 3) := by decide +kernel
theorem dX6_share_13 : decode cX6_share 13 = .ok (.ifCond .ne 7, 3) := by decide +kernel
theorem dX6_share_16 : decode cX6_share 16 = .ok (.dconst 0, 1) := by decide +kernel
theorem dX6_share_17 : decode cX6_share 17 = .ok (.goto 19, 3) := by decide +kernel
theorem dX6_share_20 : decode cX6_share 20 = .ok (.aload_n 0, 1) := by decide +kernel
theorem dX6_share_21 : decode cX6_share 21 = .ok (.getfield 81, 3) := by decide +kernel
theorem dX6_share_24 : decode cX6_share 24 = .ok (.aload_n 0, 1) := by decide +kernel
theorem dX6_share_25 : decode cX6_share 25 = .ok (.invokevirtual 159, 3) := by decide +kernel
theorem dX6_share_28 : decode cX6_share 28 = .ok (.isub, 1) := by decide +kernel
theorem dX6_share_29 : decode cX6_share 29 = .ok (.i2d, 1) := by decide +kernel
theorem dX6_share_30 : decode cX6_share 30 = .ok (.aload_n 0, 1) := by decide +kernel
theorem dX6_share_31 : decode cX6_share 31 = .ok (.getfield 81, 3) := by decide +kernel
theorem dX6_share_34 : decode cX6_share 34 = .ok (.i2d, 1) := by decide +kernel
theorem dX6_share_35 : decode cX6_share 35 = .ok (.ddiv, 1) := by decide +kernel
theorem dX6_share_36 : decode cX6_share 36 = .ok (.dreturn, 1) := by decide +kernel
theorem dX6_digest_0 : decode cX6_digest 0 = .ok (.aload_n 0, 1) := by decide +kernel
theorem dX6_digest_1 : decode cX6_digest 1 = .ok (.iconst 0, 1) := by decide +kernel
theorem dX6_digest_2 : decode cX6_digest 2 = .ok (.putfield 64, 3) := by decide +kernel
theorem dX6_digest_5 : decode cX6_digest 5 = .ok (.ldc2_w 163, 3) := by decide +kernel
theorem dX6_digest_8 : decode cX6_digest 8 = .ok (.aload_n 0, 1) := by decide +kernel
theorem dX6_digest_9 : decode cX6_digest 9 = .ok (.getfield 81, 3) := by decide +kernel
theorem dX6_digest_12 : decode cX6_digest 12 = .ok (.i2l, 1) := by decide +kernel
theorem dX6_digest_13 : decode cX6_digest 13 = .ok (.ladd, 1) := by decide +kernel
theorem dX6_digest_14 : decode cX6_digest 14 = .ok (.lstore_n 1, 1) := by decide +kernel
theorem dX6_digest_15 : decode cX6_digest 15 = .ok (.iconst 0, 1) := by decide +kernel
theorem dX6_digest_16 : decode cX6_digest 16 = .ok (.istore_n 3, 1) := by decide +kernel
theorem dX6_digest_17 : decode cX6_digest 17 = .ok (.iload_n 3, 1) := by decide +kernel
theorem dX6_digest_18 : decode cX6_digest 18 = .ok (.aload_n 0, 1) := by decide +kernel
theorem dX6_digest_19 : decode cX6_digest 19 = .ok (.getfield 81, 3) := by decide +kernel
theorem dX6_digest_22 : decode cX6_digest 22 = .ok (.if_icmp .ge 23, 3) := by decide +kernel
theorem dX6_digest_25 : decode cX6_digest 25 = .ok (.lload_n 1, 1) := by decide +kernel
theorem dX6_digest_26 : decode cX6_digest 26 = .ok (.ldc2_w 165, 3) := by decide +kernel
theorem dX6_digest_29 : decode cX6_digest 29 = .ok (.lmul, 1) := by decide +kernel
theorem dX6_digest_30 : decode cX6_digest 30 = .ok (.aload_n 0, 1) := by decide +kernel
theorem dX6_digest_31 : decode cX6_digest 31 = .ok (.getfield 9, 3) := by decide +kernel
theorem dX6_digest_34 : decode cX6_digest 34 = .ok (.iload_n 3, 1) := by decide +kernel
theorem dX6_digest_35 : decode cX6_digest 35 = .ok (.iaload, 1) := by decide +kernel
theorem dX6_digest_36 : decode cX6_digest 36 = .ok (.i2l, 1) := by decide +kernel
theorem dX6_digest_37 : decode cX6_digest 37 = .ok (.ladd, 1) := by decide +kernel
theorem dX6_digest_38 : decode cX6_digest 38 = .ok (.lstore_n 1, 1) := by decide +kernel
theorem dX6_digest_39 : decode cX6_digest 39 = .ok (.iinc 3 1, 3) := by decide +kernel
theorem dX6_digest_42 : decode cX6_digest 42 = .ok (.goto (-25), 3) := by decide +kernel
theorem dX6_digest_45 : decode cX6_digest 45 = .ok (.lload_n 1, 1) := by decide +kernel
theorem dX6_digest_46 : decode cX6_digest 46 = .ok (.ldc2_w 165, 3) := by decide +kernel
theorem dX6_digest_49 : decode cX6_digest 49 = .ok (.lmul, 1) := by decide +kernel
theorem dX6_digest_50 : decode cX6_digest 50 = .ok (.aload_n 0, 1) := by decide +kernel
theorem dX6_digest_51 : decode cX6_digest 51 = .ok (.getfield 13, 3) := by decide +kernel
theorem dX6_digest_54 : decode cX6_digest 54 = .ok (.i2l, 1) := by decide +kernel
theorem dX6_digest_55 : decode cX6_digest 55 = .ok (.ladd, 1) := by decide +kernel
theorem dX6_digest_56 : decode cX6_digest 56 = .ok (.ldc2_w 165, 3) := by decide +kernel
theorem dX6_digest_59 : decode cX6_digest 59 = .ok (.lmul, 1) := by decide +kernel
theorem dX6_digest_60 : decode cX6_digest 60 = .ok (.aload_n 0, 1) := by decide +kernel
theorem dX6_digest_61 : decode cX6_digest 61 = .ok (.getfield 17, 3) := by decide +kernel
theorem dX6_digest_64 : decode cX6_digest 64 = .ok (.ifCond .eq 7, 3) := by decide +kernel
theorem dX6_digest_67 : decode cX6_digest 67 = .ok (.lconst 1, 1) := by decide +kernel
theorem dX6_digest_68 : decode cX6_digest 68 = .ok (.goto 4, 3) := by decide +kernel
theorem dX6_digest_71 : decode cX6_digest 71 = .ok (.lconst 0, 1) := by decide +kernel
theorem dX6_digest_72 : decode cX6_digest 72 = .ok (.ladd, 1) := by decide +kernel
theorem dX6_digest_73 : decode cX6_digest 73 = .ok (.lstore_n 1, 1) := by decide +kernel
theorem dX6_digest_74 : decode cX6_digest 74 = .ok (.iconst 0, 1) := by decide +kernel
theorem dX6_digest_75 : decode cX6_digest 75 = .ok (.istore_n 3, 1) := by decide +kernel
theorem dX6_digest_76 : decode cX6_digest 76 = .ok (.iload_n 3, 1) := by decide +kernel
theorem dX6_digest_77 : decode cX6_digest 77 = .ok (.bipush 6, 2) := by decide +kernel
theorem dX6_digest_79 : decode cX6_digest 79 = .ok (.if_icmp .ge 79, 3) := by decide +kernel
theorem dX6_digest_82 : decode cX6_digest 82 = .ok (.lload_n 1, 1) := by decide +kernel
theorem dX6_digest_83 : decode cX6_digest 83 = .ok (.ldc2_w 165, 3) := by decide +kernel
theorem dX6_digest_86 : decode cX6_digest 86 = .ok (.lmul, 1) := by decide +kernel
theorem dX6_digest_87 : decode cX6_digest 87 = .ok (.aload_n 0, 1) := by decide +kernel
theorem dX6_digest_88 : decode cX6_digest 88 = .ok (.iload_n 3, 1) := by decide +kernel
theorem dX6_digest_89 : decode cX6_digest 89 = .ok (.invokevirtual 87, 3) := by decide +kernel
theorem dX6_digest_92 : decode cX6_digest 92 = .ok (.ifCond .eq 7, 3) := by decide +kernel
theorem dX6_digest_95 : decode cX6_digest 95 = .ok (.lconst 1, 1) := by decide +kernel
theorem dX6_digest_96 : decode cX6_digest 96 = .ok (.goto 4, 3) := by decide +kernel
theorem dX6_digest_99 : decode cX6_digest 99 = .ok (.lconst 0, 1) := by decide +kernel
theorem dX6_digest_100 : decode cX6_digest 100 = .ok (.ladd, 1) := by decide +kernel
theorem dX6_digest_101 : decode cX6_digest 101 = .ok (.ldc2_w 165, 3) := by decide +kernel
theorem dX6_digest_104 : decode cX6_digest 104 = .ok (.lmul, 1) := by decide +kernel
theorem dX6_digest_105 : decode cX6_digest 105 = .ok (.aload_n 0, 1) := by decide +kernel
theorem dX6_digest_106 : decode cX6_digest 106 = .ok (.getfield 27, 3) := by decide +kernel
theorem dX6_digest_109 : decode cX6_digest 109 = .ok (.iload_n 3, 1) := by decide +kernel
theorem dX6_digest_110 : decode cX6_digest 110 = .ok (.baload, 1) := by decide +kernel
theorem dX6_digest_111 : decode cX6_digest 111 = .ok (.ifCond .eq 7, 3) := by decide +kernel
theorem dX6_digest_114 : decode cX6_digest 114 = .ok (.lconst 1, 1) := by decide +kernel
theorem dX6_digest_115 : decode cX6_digest 115 = .ok (.goto 4, 3) := by decide +kernel
theorem dX6_digest_118 : decode cX6_digest 118 = .ok (.lconst 0, 1) := by decide +kernel
theorem dX6_digest_119 : decode cX6_digest 119 = .ok (.ladd, 1) := by decide +kernel
theorem dX6_digest_120 : decode cX6_digest 120 = .ok (.ldc2_w 165, 3) := by decide +kernel
theorem dX6_digest_123 : decode cX6_digest 123 = .ok (.lmul, 1) := by decide +kernel
theorem dX6_digest_124 : decode cX6_digest 124 = .ok (.aload_n 0, 1) := by decide +kernel
theorem dX6_digest_125 : decode cX6_digest 125 = .ok (.getfield 31, 3) := by decide +kernel
theorem dX6_digest_128 : decode cX6_digest 128 = .ok (.iload_n 3, 1) := by decide +kernel
theorem dX6_digest_129 : decode cX6_digest 129 = .ok (.baload, 1) := by decide +kernel
theorem dX6_digest_130 : decode cX6_digest 130 = .ok (.ifCond .eq 7, 3) := by decide +kernel
theorem dX6_digest_133 : decode cX6_digest 133 = .ok (.lconst 1, 1) := by decide +kernel
theorem dX6_digest_134 : decode cX6_digest 134 = .ok (.goto 4, 3) := by decide +kernel
theorem dX6_digest_137 : decode cX6_digest 137 = .ok (.lconst 0, 1) := by decide +kernel
theorem dX6_digest_138 : decode cX6_digest 138 = .ok (.ladd, 1) := by decide +kernel
theorem dX6_digest_139 : decode cX6_digest 139 = .ok (.ldc2_w 165, 3) := by decide +kernel
theorem dX6_digest_142 : decode cX6_digest 142 = .ok (.lmul, 1) := by decide +kernel
theorem dX6_digest_143 : decode cX6_digest 143 = .ok (.aload_n 0, 1) := by decide +kernel
theorem dX6_digest_144 : decode cX6_digest 144 = .ok (.getfield 34, 3) := by decide +kernel
theorem dX6_digest_147 : decode cX6_digest 147 = .ok (.iload_n 3, 1) := by decide +kernel
theorem dX6_digest_148 : decode cX6_digest 148 = .ok (.iaload, 1) := by decide +kernel
theorem dX6_digest_149 : decode cX6_digest 149 = .ok (.i2l, 1) := by decide +kernel
theorem dX6_digest_150 : decode cX6_digest 150 = .ok (.ladd, 1) := by decide +kernel
theorem dX6_digest_151 : decode cX6_digest 151 = .ok (.lstore_n 1, 1) := by decide +kernel
theorem dX6_digest_152 : decode cX6_digest 152 = .ok (.iinc 3 1, 3) := by decide +kernel
theorem dX6_digest_155 : decode cX6_digest 155 = .ok (.goto (-79), 3) := by decide +kernel
theorem dX6_digest_158 : decode cX6_digest 158 = .ok (.aload_n 0, 1) := by decide +kernel
theorem dX6_digest_159 : decode cX6_digest 159 = .ok (.getfield 84, 3) := by decide +kernel
theorem dX6_digest_162 : decode cX6_digest 162 = .ok (.ifCond .ne 5, 3) := by decide +kernel
theorem dX6_digest_165 : decode cX6_digest 165 = .ok (.lload_n 1, 1) := by decide +kernel
theorem dX6_digest_166 : decode cX6_digest 166 = .ok (.lreturn, 1) := by decide +kernel
theorem dX6_digest_167 : decode cX6_digest 167 = .ok (.lload_n 1, 1) := by decide +kernel
theorem dX6_digest_168 : decode cX6_digest 168 = .ok (.ldc2_w 165, 3) := by decide +kernel
theorem dX6_digest_171 : decode cX6_digest 171 = .ok (.lmul, 1) := by decide +kernel
theorem dX6_digest_172 : decode cX6_digest 172 = .ok (.aload_n 0, 1) := by decide +kernel
theorem dX6_digest_173 : decode cX6_digest 173 = .ok (.getfield 90, 3) := by decide +kernel
theorem dX6_digest_176 : decode cX6_digest 176 = .ok (.i2l, 1) := by decide +kernel
theorem dX6_digest_177 : decode cX6_digest 177 = .ok (.ladd, 1) := by decide +kernel
theorem dX6_digest_178 : decode cX6_digest 178 = .ok (.lstore_n 1, 1) := by decide +kernel
theorem dX6_digest_179 : decode cX6_digest 179 = .ok (.iconst 0, 1) := by decide +kernel
theorem dX6_digest_180 : decode cX6_digest 180 = .ok (.istore_n 3, 1) := by decide +kernel
theorem dX6_digest_181 : decode cX6_digest 181 = .ok (.iload_n 3, 1) := by decide +kernel
theorem dX6_digest_182 : decode cX6_digest 182 = .ok (.aload_n 0, 1) := by decide +kernel
theorem dX6_digest_183 : decode cX6_digest 183 = .ok (.getfield 90, 3) := by decide +kernel
theorem dX6_digest_186 : decode cX6_digest 186 = .ok (.if_icmp .ge 59, 3) := by decide +kernel
theorem dX6_digest_189 : decode cX6_digest 189 = .ok (.lload_n 1, 1) := by decide +kernel
theorem dX6_digest_190 : decode cX6_digest 190 = .ok (.ldc2_w 165, 3) := by decide +kernel
theorem dX6_digest_193 : decode cX6_digest 193 = .ok (.lmul, 1) := by decide +kernel
theorem dX6_digest_194 : decode cX6_digest 194 = .ok (.aload_n 0, 1) := by decide +kernel
theorem dX6_digest_195 : decode cX6_digest 195 = .ok (.getfield 37, 3) := by decide +kernel
theorem dX6_digest_198 : decode cX6_digest 198 = .ok (.iload_n 3, 1) := by decide +kernel
theorem dX6_digest_199 : decode cX6_digest 199 = .ok (.iaload, 1) := by decide +kernel
theorem dX6_digest_200 : decode cX6_digest 200 = .ok (.i2l, 1) := by decide +kernel
theorem dX6_digest_201 : decode cX6_digest 201 = .ok (.ladd, 1) := by decide +kernel
theorem dX6_digest_202 : decode cX6_digest 202 = .ok (.ldc2_w 165, 3) := by decide +kernel
theorem dX6_digest_205 : decode cX6_digest 205 = .ok (.lmul, 1) := by decide +kernel
theorem dX6_digest_206 : decode cX6_digest 206 = .ok (.aload_n 0, 1) := by decide +kernel
theorem dX6_digest_207 : decode cX6_digest 207 = .ok (.getfield 40, 3) := by decide +kernel
theorem dX6_digest_210 : decode cX6_digest 210 = .ok (.iload_n 3, 1) := by decide +kernel
theorem dX6_digest_211 : decode cX6_digest 211 = .ok (.iaload, 1) := by decide +kernel
theorem dX6_digest_212 : decode cX6_digest 212 = .ok (.i2l, 1) := by decide +kernel
theorem dX6_digest_213 : decode cX6_digest 213 = .ok (.ladd, 1) := by decide +kernel
theorem dX6_digest_214 : decode cX6_digest 214 = .ok (.ldc2_w 165, 3) := by decide +kernel
theorem dX6_digest_217 : decode cX6_digest 217 = .ok (.lmul, 1) := by decide +kernel
theorem dX6_digest_218 : decode cX6_digest 218 = .ok (.aload_n 0, 1) := by decide +kernel
theorem dX6_digest_219 : decode cX6_digest 219 = .ok (.getfield 43, 3) := by decide +kernel
theorem dX6_digest_222 : decode cX6_digest 222 = .ok (.iload_n 3, 1) := by decide +kernel
theorem dX6_digest_223 : decode cX6_digest 223 = .ok (.iaload, 1) := by decide +kernel
theorem dX6_digest_224 : decode cX6_digest 224 = .ok (.i2l, 1) := by decide +kernel
theorem dX6_digest_225 : decode cX6_digest 225 = .ok (.ladd, 1) := by decide +kernel
theorem dX6_digest_226 : decode cX6_digest 226 = .ok (.ldc2_w 165, 3) := by decide +kernel
theorem dX6_digest_229 : decode cX6_digest 229 = .ok (.lmul, 1) := by decide +kernel
theorem dX6_digest_230 : decode cX6_digest 230 = .ok (.aload_n 0, 1) := by decide +kernel
theorem dX6_digest_231 : decode cX6_digest 231 = .ok (.getfield 46, 3) := by decide +kernel
theorem dX6_digest_234 : decode cX6_digest 234 = .ok (.iload_n 3, 1) := by decide +kernel
theorem dX6_digest_235 : decode cX6_digest 235 = .ok (.iaload, 1) := by decide +kernel
theorem dX6_digest_236 : decode cX6_digest 236 = .ok (.i2l, 1) := by decide +kernel
theorem dX6_digest_237 : decode cX6_digest 237 = .ok (.ladd, 1) := by decide +kernel
theorem dX6_digest_238 : decode cX6_digest 238 = .ok (.lstore_n 1, 1) := by decide +kernel
theorem dX6_digest_239 : decode cX6_digest 239 = .ok (.iinc 3 1, 3) := by decide +kernel
theorem dX6_digest_242 : decode cX6_digest 242 = .ok (.goto (-61), 3) := by decide +kernel
theorem dX6_digest_245 : decode cX6_digest 245 = .ok (.lload_n 1, 1) := by decide +kernel
theorem dX6_digest_246 : decode cX6_digest 246 = .ok (.ldc2_w 165, 3) := by decide +kernel
theorem dX6_digest_249 : decode cX6_digest 249 = .ok (.lmul, 1) := by decide +kernel
theorem dX6_digest_250 : decode cX6_digest 250 = .ok (.aload_n 0, 1) := by decide +kernel
theorem dX6_digest_251 : decode cX6_digest 251 = .ok (.getfield 110, 3) := by decide +kernel
theorem dX6_digest_254 : decode cX6_digest 254 = .ok (.i2l, 1) := by decide +kernel
theorem dX6_digest_255 : decode cX6_digest 255 = .ok (.ladd, 1) := by decide +kernel
theorem dX6_digest_256 : decode cX6_digest 256 = .ok (.lreturn, 1) := by decide +kernel
theorem dJ9_max_7cf53_0 : decode cJ9_max_7cf53 0 = .ok (.iload_n 0, 1) := by decide +kernel
theorem dJ9_max_7cf53_1 : decode cJ9_max_7cf53 1 = .ok (.iload_n 1, 1) := by decide +kernel
theorem dJ9_max_7cf53_2 : decode cJ9_max_7cf53 2 = .ok (.if_icmp .lt 7, 3) := by decide +kernel
theorem dJ9_max_7cf53_5 : decode cJ9_max_7cf53 5 = .ok (.iload_n 0, 1) := by decide +kernel
theorem dJ9_max_7cf53_6 : decode cJ9_max_7cf53 6 = .ok (.goto 4, 3) := by decide +kernel
theorem dJ9_max_7cf53_9 : decode cJ9_max_7cf53 9 = .ok (.iload_n 1, 1) := by decide +kernel
theorem dJ9_max_7cf53_10 : decode cJ9_max_7cf53 10 = .ok (.ireturn, 1) := by decide +kernel
theorem dJ9_min_7cf53_0 : decode cJ9_min_7cf53 0 = .ok (.iload_n 0, 1) := by decide +kernel
theorem dJ9_min_7cf53_1 : decode cJ9_min_7cf53 1 = .ok (.iload_n 1, 1) := by decide +kernel
theorem dJ9_min_7cf53_2 : decode cJ9_min_7cf53 2 = .ok (.if_icmp .gt 7, 3) := by decide +kernel
theorem dJ9_min_7cf53_5 : decode cJ9_min_7cf53 5 = .ok (.iload_n 0, 1) := by decide +kernel
theorem dJ9_min_7cf53_6 : decode cJ9_min_7cf53 6 = .ok (.goto 4, 3) := by decide +kernel
theorem dJ9_min_7cf53_9 : decode cJ9_min_7cf53 9 = .ok (.iload_n 1, 1) := by decide +kernel
theorem dJ9_min_7cf53_10 : decode cJ9_min_7cf53 10 = .ok (.ireturn, 1) := by decide +kernel
end
section
theorem dL_feed_0 : decode cL_feed 0 = .ok (.aload_n 3, 1) := by decide +kernel
theorem dL_feed_1 : decode cL_feed 1 = .ok (.iconst 0, 1) := by decide +kernel
theorem dL_feed_2 : decode cL_feed 2 = .ok (.aload_n 0, 1) := by decide +kernel
theorem dL_feed_3 : decode cL_feed 3 = .ok (.lload_n 1, 1) := by decide +kernel
theorem dL_feed_4 : decode cL_feed 4 = .ok (.invokevirtual 7, 3) := by decide +kernel
theorem dL_feed_7 : decode cL_feed 7 = .ok (.i2l, 1) := by decide +kernel
theorem dL_feed_8 : decode cL_feed 8 = .ok (.lastore, 1) := by decide +kernel
theorem dL_feed_9 : decode cL_feed 9 = .ok (.goto 11, 3) := by decide +kernel
theorem dL_feed_12 : decode cL_feed 12 = .ok (.astore 4, 2) := by decide +kernel
theorem dL_feed_14 : decode cL_feed 14 = .ok (.iconst 1, 1) := by decide +kernel
theorem dL_feed_15 : decode cL_feed 15 = .ok (.ireturn, 1) := by decide +kernel
theorem dL_feed_16 : decode cL_feed 16 = .ok (.astore 4, 2) := by decide +kernel
theorem dL_feed_18 : decode cL_feed 18 = .ok (.iconst 2, 1) := by decide +kernel
theorem dL_feed_19 : decode cL_feed 19 = .ok (.ireturn, 1) := by decide +kernel
theorem dL_feed_20 : decode cL_feed 20 = .ok (.iconst 0, 1) := by decide +kernel
theorem dL_feed_21 : decode cL_feed 21 = .ok (.ireturn, 1) := by decide +kernel
theorem dL_cut_0 : decode cL_cut 0 = .ok (.aload_n 2, 1) := by decide +kernel
theorem dL_cut_1 : decode cL_cut 1 = .ok (.iconst 0, 1) := by decide +kernel
theorem dL_cut_2 : decode cL_cut 2 = .ok (.aload_n 0, 1) := by decide +kernel
theorem dL_cut_3 : decode cL_cut 3 = .ok (.iload_n 1, 1) := by decide +kernel
theorem dL_cut_4 : decode cL_cut 4 = .ok (.invokevirtual 17, 3) := by decide +kernel
theorem dL_cut_7 : decode cL_cut 7 = .ok (.i2l, 1) := by decide +kernel
theorem dL_cut_8 : decode cL_cut 8 = .ok (.lastore, 1) := by decide +kernel
theorem dL_cut_9 : decode cL_cut 9 = .ok (.goto 6, 3) := by decide +kernel
theorem dL_cut_12 : decode cL_cut 12 = .ok (.astore_n 3, 1) := by decide +kernel
theorem dL_cut_13 : decode cL_cut 13 = .ok (.iconst 1, 1) := by decide +kernel
theorem dL_cut_14 : decode cL_cut 14 = .ok (.ireturn, 1) := by decide +kernel
theorem dL_cut_15 : decode cL_cut 15 = .ok (.iconst 0, 1) := by decide +kernel
theorem dL_cut_16 : decode cL_cut 16 = .ok (.ireturn, 1) := by decide +kernel
theorem dL_set_0 : decode cL_set 0 = .ok (.aload_n 3, 1) := by decide +kernel
theorem dL_set_1 : decode cL_set 1 = .ok (.iconst 0, 1) := by decide +kernel
theorem dL_set_2 : decode cL_set 2 = .ok (.aload_n 0, 1) := by decide +kernel
theorem dL_set_3 : decode cL_set 3 = .ok (.iload_n 1, 1) := by decide +kernel
theorem dL_set_4 : decode cL_set 4 = .ok (.iload_n 2, 1) := by decide +kernel
theorem dL_set_5 : decode cL_set 5 = .ok (.invokevirtual 21, 3) := by decide +kernel
theorem dL_set_8 : decode cL_set 8 = .ok (.i2l, 1) := by decide +kernel
theorem dL_set_9 : decode cL_set 9 = .ok (.lastore, 1) := by decide +kernel
theorem dL_set_10 : decode cL_set 10 = .ok (.goto 11, 3) := by decide +kernel
theorem dL_set_13 : decode cL_set 13 = .ok (.astore 4, 2) := by decide +kernel
theorem dL_set_15 : decode cL_set 15 = .ok (.iconst 1, 1) := by decide +kernel
theorem dL_set_16 : decode cL_set 16 = .ok (.ireturn, 1) := by decide +kernel
theorem dL_set_17 : decode cL_set 17 = .ok (.astore 4, 2) := by decide +kernel
theorem dL_set_19 : decode cL_set 19 = .ok (.iconst 2, 1) := by decide +kernel
theorem dL_set_20 : decode cL_set 20 = .ok (.ireturn, 1) := by decide +kernel
theorem dL_set_21 : decode cL_set 21 = .ok (.iconst 0, 1) := by decide +kernel
theorem dL_set_22 : decode cL_set 22 = .ok (.ireturn, 1) := by decide +kernel
theorem dL_byteAt_0 : decode cL_byteAt 0 = .ok (.aload_n 2, 1) := by decide +kernel
theorem dL_byteAt_1 : decode cL_byteAt 1 = .ok (.iconst 0, 1) := by decide +kernel
theorem dL_byteAt_2 : decode cL_byteAt 2 = .ok (.aload_n 0, 1) := by decide +kernel
theorem dL_byteAt_3 : decode cL_byteAt 3 = .ok (.iload_n 1, 1) := by decide +kernel
theorem dL_byteAt_4 : decode cL_byteAt 4 = .ok (.invokevirtual 27, 3) := by decide +kernel
theorem dL_byteAt_7 : decode cL_byteAt 7 = .ok (.i2l, 1) := by decide +kernel
theorem dL_byteAt_8 : decode cL_byteAt 8 = .ok (.lastore, 1) := by decide +kernel
theorem dL_byteAt_9 : decode cL_byteAt 9 = .ok (.goto 6, 3) := by decide +kernel
theorem dL_byteAt_12 : decode cL_byteAt 12 = .ok (.astore_n 3, 1) := by decide +kernel
theorem dL_byteAt_13 : decode cL_byteAt 13 = .ok (.iconst 1, 1) := by decide +kernel
theorem dL_byteAt_14 : decode cL_byteAt 14 = .ok (.ireturn, 1) := by decide +kernel
theorem dL_byteAt_15 : decode cL_byteAt 15 = .ok (.iconst 0, 1) := by decide +kernel
theorem dL_byteAt_16 : decode cL_byteAt 16 = .ok (.ireturn, 1) := by decide +kernel
theorem dL_setEscape_0 : decode cL_setEscape 0 = .ok (.aload_n 2, 1) := by decide +kernel
theorem dL_setEscape_1 : decode cL_setEscape 1 = .ok (.iconst 0, 1) := by decide +kernel
theorem dL_setEscape_2 : decode cL_setEscape 2 = .ok (.aload_n 0, 1) := by decide +kernel
theorem dL_setEscape_3 : decode cL_setEscape 3 = .ok (.iload_n 1, 1) := by decide +kernel
theorem dL_setEscape_4 : decode cL_setEscape 4 = .ok (.invokevirtual 30, 3) := by decide +kernel
theorem dL_setEscape_7 : decode cL_setEscape 7 = .ok (.i2l, 1) := by decide +kernel
theorem dL_setEscape_8 : decode cL_setEscape 8 = .ok (.lastore, 1) := by decide +kernel
theorem dL_setEscape_9 : decode cL_setEscape 9 = .ok (.goto 6, 3) := by decide +kernel
theorem dL_setEscape_12 : decode cL_setEscape 12 = .ok (.astore_n 3, 1) := by decide +kernel
theorem dL_setEscape_13 : decode cL_setEscape 13 = .ok (.iconst 1, 1) := by decide +kernel
theorem dL_setEscape_14 : decode cL_setEscape 14 = .ok (.ireturn, 1) := by decide +kernel
theorem dL_setEscape_15 : decode cL_setEscape 15 = .ok (.iconst 0, 1) := by decide +kernel
theorem dL_setEscape_16 : decode cL_setEscape 16 = .ok (.ireturn, 1) := by decide +kernel
theorem dL_setWord_0 : decode cL_setWord 0 = .ok (.aload 5, 2) := by decide +kernel
theorem dL_setWord_2 : decode cL_setWord 2 = .ok (.iconst 0, 1) := by decide +kernel
theorem dL_setWord_3 : decode cL_setWord 3 = .ok (.aload_n 0, 1) := by decide +kernel
theorem dL_setWord_4 : decode cL_setWord 4 = .ok (.iload_n 1, 1) := by decide +kernel
theorem dL_setWord_5 : decode cL_setWord 5 = .ok (.iload_n 2, 1) := by decide +kernel
theorem dL_setWord_6 : decode cL_setWord 6 = .ok (.iload_n 3, 1) := by decide +kernel
theorem dL_setWord_7 : decode cL_setWord 7 = .ok (.iload 4, 2) := by decide +kernel
theorem dL_setWord_9 : decode cL_setWord 9 = .ok (.invokevirtual 33, 3) := by decide +kernel
theorem dL_setWord_12 : decode cL_setWord 12 = .ok (.ifCond .eq 7, 3) := by decide +kernel
theorem dL_setWord_15 : decode cL_setWord 15 = .ok (.lconst 1, 1) := by decide +kernel
theorem dL_setWord_16 : decode cL_setWord 16 = .ok (.goto 4, 3) := by decide +kernel
theorem dL_setWord_19 : decode cL_setWord 19 = .ok (.lconst 0, 1) := by decide +kernel
theorem dL_setWord_20 : decode cL_setWord 20 = .ok (.lastore, 1) := by decide +kernel
theorem dL_setWord_21 : decode cL_setWord 21 = .ok (.goto 11, 3) := by decide +kernel
theorem dL_setWord_24 : decode cL_setWord 24 = .ok (.astore 6, 2) := by decide +kernel
theorem dL_setWord_26 : decode cL_setWord 26 = .ok (.iconst 1, 1) := by decide +kernel
theorem dL_setWord_27 : decode cL_setWord 27 = .ok (.ireturn, 1) := by decide +kernel
theorem dL_setWord_28 : decode cL_setWord 28 = .ok (.astore 6, 2) := by decide +kernel
theorem dL_setWord_30 : decode cL_setWord 30 = .ok (.iconst 2, 1) := by decide +kernel
theorem dL_setWord_31 : decode cL_setWord 31 = .ok (.ireturn, 1) := by decide +kernel
theorem dL_setWord_32 : decode cL_setWord 32 = .ok (.iconst 0, 1) := by decide +kernel
theorem dL_setWord_33 : decode cL_setWord 33 = .ok (.ireturn, 1) := by decide +kernel
theorem dL_setKind_0 : decode cL_setKind 0 = .ok (.aload 5, 2) := by decide +kernel
theorem dL_setKind_2 : decode cL_setKind 2 = .ok (.iconst 0, 1) := by decide +kernel
theorem dL_setKind_3 : decode cL_setKind 3 = .ok (.aload_n 0, 1) := by decide +kernel
theorem dL_setKind_4 : decode cL_setKind 4 = .ok (.iload_n 1, 1) := by decide +kernel
theorem dL_setKind_5 : decode cL_setKind 5 = .ok (.iload_n 2, 1) := by decide +kernel
theorem dL_setKind_6 : decode cL_setKind 6 = .ok (.iload_n 3, 1) := by decide +kernel
theorem dL_setKind_7 : decode cL_setKind 7 = .ok (.iload 4, 2) := by decide +kernel
theorem dL_setKind_9 : decode cL_setKind 9 = .ok (.invokevirtual 37, 3) := by decide +kernel
theorem dL_setKind_12 : decode cL_setKind 12 = .ok (.i2l, 1) := by decide +kernel
theorem dL_setKind_13 : decode cL_setKind 13 = .ok (.lastore, 1) := by decide +kernel
theorem dL_setKind_14 : decode cL_setKind 14 = .ok (.goto 11, 3) := by decide +kernel
theorem dL_setKind_17 : decode cL_setKind 17 = .ok (.astore 6, 2) := by decide +kernel
theorem dL_setKind_19 : decode cL_setKind 19 = .ok (.iconst 1, 1) := by decide +kernel
theorem dL_setKind_20 : decode cL_setKind 20 = .ok (.ireturn, 1) := by decide +kernel
theorem dL_setKind_21 : decode cL_setKind 21 = .ok (.astore 6, 2) := by decide +kernel
theorem dL_setKind_23 : decode cL_setKind 23 = .ok (.iconst 2, 1) := by decide +kernel
theorem dL_setKind_24 : decode cL_setKind 24 = .ok (.ireturn, 1) := by decide +kernel
theorem dL_setKind_25 : decode cL_setKind 25 = .ok (.iconst 0, 1) := by decide +kernel
theorem dL_setKind_26 : decode cL_setKind 26 = .ok (.ireturn, 1) := by decide +kernel
theorem dL_mark_0 : decode cL_mark 0 = .ok (.aload_n 2, 1) := by decide +kernel
theorem dL_mark_1 : decode cL_mark 1 = .ok (.iconst 0, 1) := by decide +kernel
theorem dL_mark_2 : decode cL_mark 2 = .ok (.aload_n 0, 1) := by decide +kernel
theorem dL_mark_3 : decode cL_mark 3 = .ok (.iload_n 1, 1) := by decide +kernel
theorem dL_mark_4 : decode cL_mark 4 = .ok (.invokevirtual 41, 3) := by decide +kernel
theorem dL_mark_7 : decode cL_mark 7 = .ok (.i2l, 1) := by decide +kernel
theorem dL_mark_8 : decode cL_mark 8 = .ok (.lastore, 1) := by decide +kernel
theorem dL_mark_9 : decode cL_mark 9 = .ok (.goto 6, 3) := by decide +kernel
theorem dL_mark_12 : decode cL_mark 12 = .ok (.astore_n 3, 1) := by decide +kernel
theorem dL_mark_13 : decode cL_mark 13 = .ok (.iconst 1, 1) := by decide +kernel
theorem dL_mark_14 : decode cL_mark 14 = .ok (.ireturn, 1) := by decide +kernel
theorem dL_mark_15 : decode cL_mark 15 = .ok (.iconst 0, 1) := by decide +kernel
theorem dL_mark_16 : decode cL_mark 16 = .ok (.ireturn, 1) := by decide +kernel
theorem dL_islandCount_0 : decode cL_islandCount 0 = .ok (.aload_n 1, 1) := by decide +kernel
theorem dL_islandCount_1 : decode cL_islandCount 1 = .ok (.iconst 0, 1) := by decide +kernel
theorem dL_islandCount_2 : decode cL_islandCount 2 = .ok (.aload_n 0, 1) := by decide +kernel
theorem dL_islandCount_3 : decode cL_islandCount 3 = .ok (.invokevirtual 44, 3) := by decide +kernel
theorem dL_islandCount_6 : decode cL_islandCount 6 = .ok (.i2l, 1) := by decide +kernel
theorem dL_islandCount_7 : decode cL_islandCount 7 = .ok (.lastore, 1) := by decide +kernel
theorem dL_islandCount_8 : decode cL_islandCount 8 = .ok (.goto 6, 3) := by decide +kernel
theorem dL_islandCount_11 : decode cL_islandCount 11 = .ok (.astore_n 2, 1) := by decide +kernel
theorem dL_islandCount_12 : decode cL_islandCount 12 = .ok (.iconst 1, 1) := by decide +kernel
theorem dL_islandCount_13 : decode cL_islandCount 13 = .ok (.ireturn, 1) := by decide +kernel
theorem dL_islandCount_14 : decode cL_islandCount 14 = .ok (.iconst 0, 1) := by decide +kernel
theorem dL_islandCount_15 : decode cL_islandCount 15 = .ok (.ireturn, 1) := by decide +kernel
theorem dL_kind_0 : decode cL_kind 0 = .ok (.aload_n 2, 1) := by decide +kernel
theorem dL_kind_1 : decode cL_kind 1 = .ok (.iconst 0, 1) := by decide +kernel
theorem dL_kind_2 : decode cL_kind 2 = .ok (.aload_n 0, 1) := by decide +kernel
theorem dL_kind_3 : decode cL_kind 3 = .ok (.iload_n 1, 1) := by decide +kernel
theorem dL_kind_4 : decode cL_kind 4 = .ok (.invokevirtual 48, 3) := by decide +kernel
theorem dL_kind_7 : decode cL_kind 7 = .ok (.i2l, 1) := by decide +kernel
theorem dL_kind_8 : decode cL_kind 8 = .ok (.lastore, 1) := by decide +kernel
theorem dL_kind_9 : decode cL_kind 9 = .ok (.goto 9, 3) := by decide +kernel
theorem dL_kind_12 : decode cL_kind 12 = .ok (.astore_n 3, 1) := by decide +kernel
theorem dL_kind_13 : decode cL_kind 13 = .ok (.iconst 1, 1) := by decide +kernel
theorem dL_kind_14 : decode cL_kind 14 = .ok (.ireturn, 1) := by decide +kernel
theorem dL_kind_15 : decode cL_kind 15 = .ok (.astore_n 3, 1) := by decide +kernel
theorem dL_kind_16 : decode cL_kind 16 = .ok (.iconst 2, 1) := by decide +kernel
theorem dL_kind_17 : decode cL_kind 17 = .ok (.ireturn, 1) := by decide +kernel
theorem dL_kind_18 : decode cL_kind 18 = .ok (.iconst 0, 1) := by decide +kernel
theorem dL_kind_19 : decode cL_kind 19 = .ok (.ireturn, 1) := by decide +kernel
theorem dL_start_0 : decode cL_start 0 = .ok (.aload_n 2, 1) := by decide +kernel
theorem dL_start_1 : decode cL_start 1 = .ok (.iconst 0, 1) := by decide +kernel
theorem dL_start_2 : decode cL_start 2 = .ok (.aload_n 0, 1) := by decide +kernel
theorem dL_start_3 : decode cL_start 3 = .ok (.iload_n 1, 1) := by decide +kernel
theorem dL_start_4 : decode cL_start 4 = .ok (.invokevirtual 51, 3) := by decide +kernel
theorem dL_start_7 : decode cL_start 7 = .ok (.i2l, 1) := by decide +kernel
theorem dL_start_8 : decode cL_start 8 = .ok (.lastore, 1) := by decide +kernel
theorem dL_start_9 : decode cL_start 9 = .ok (.goto 9, 3) := by decide +kernel
theorem dL_start_12 : decode cL_start 12 = .ok (.astore_n 3, 1) := by decide +kernel
theorem dL_start_13 : decode cL_start 13 = .ok (.iconst 1, 1) := by decide +kernel
theorem dL_start_14 : decode cL_start 14 = .ok (.ireturn, 1) := by decide +kernel
theorem dL_start_15 : decode cL_start 15 = .ok (.astore_n 3, 1) := by decide +kernel
theorem dL_start_16 : decode cL_start 16 = .ok (.iconst 2, 1) := by decide +kernel
theorem dL_start_17 : decode cL_start 17 = .ok (.ireturn, 1) := by decide +kernel
theorem dL_start_18 : decode cL_start 18 = .ok (.iconst 0, 1) := by decide +kernel
theorem dL_start_19 : decode cL_start 19 = .ok (.ireturn, 1) := by decide +kernel
theorem dL_end_0 : decode cL_end 0 = .ok (.aload_n 2, 1) := by decide +kernel
theorem dL_end_1 : decode cL_end 1 = .ok (.iconst 0, 1) := by decide +kernel
theorem dL_end_2 : decode cL_end 2 = .ok (.aload_n 0, 1) := by decide +kernel
theorem dL_end_3 : decode cL_end 3 = .ok (.iload_n 1, 1) := by decide +kernel
theorem dL_end_4 : decode cL_end 4 = .ok (.invokevirtual 54, 3) := by decide +kernel
theorem dL_end_7 : decode cL_end 7 = .ok (.i2l, 1) := by decide +kernel
theorem dL_end_8 : decode cL_end 8 = .ok (.lastore, 1) := by decide +kernel
theorem dL_end_9 : decode cL_end 9 = .ok (.goto 9, 3) := by decide +kernel
theorem dL_end_12 : decode cL_end 12 = .ok (.astore_n 3, 1) := by decide +kernel
theorem dL_end_13 : decode cL_end 13 = .ok (.iconst 1, 1) := by decide +kernel
theorem dL_end_14 : decode cL_end 14 = .ok (.ireturn, 1) := by decide +kernel
theorem dL_end_15 : decode cL_end 15 = .ok (.astore_n 3, 1) := by decide +kernel
theorem dL_end_16 : decode cL_end 16 = .ok (.iconst 2, 1) := by decide +kernel
theorem dL_end_17 : decode cL_end 17 = .ok (.ireturn, 1) := by decide +kernel
theorem dL_end_18 : decode cL_end 18 = .ok (.iconst 0, 1) := by decide +kernel
theorem dL_end_19 : decode cL_end 19 = .ok (.ireturn, 1) := by decide +kernel
theorem dL_state_0 : decode cL_state 0 = .ok (.aload_n 2, 1) := by decide +kernel
theorem dL_state_1 : decode cL_state 1 = .ok (.iconst 0, 1) := by decide +kernel
theorem dL_state_2 : decode cL_state 2 = .ok (.aload_n 0, 1) := by decide +kernel
theorem dL_state_3 : decode cL_state 3 = .ok (.iload_n 1, 1) := by decide +kernel
theorem dL_state_4 : decode cL_state 4 = .ok (.invokevirtual 57, 3) := by decide +kernel
theorem dL_state_7 : decode cL_state 7 = .ok (.i2l, 1) := by decide +kernel
theorem dL_state_8 : decode cL_state 8 = .ok (.lastore, 1) := by decide +kernel
theorem dL_state_9 : decode cL_state 9 = .ok (.goto 9, 3) := by decide +kernel
theorem dL_state_12 : decode cL_state 12 = .ok (.astore_n 3, 1) := by decide +kernel
theorem dL_state_13 : decode cL_state 13 = .ok (.iconst 1, 1) := by decide +kernel
theorem dL_state_14 : decode cL_state 14 = .ok (.ireturn, 1) := by decide +kernel
theorem dL_state_15 : decode cL_state 15 = .ok (.astore_n 3, 1) := by decide +kernel
theorem dL_state_16 : decode cL_state 16 = .ok (.iconst 2, 1) := by decide +kernel
theorem dL_state_17 : decode cL_state 17 = .ok (.ireturn, 1) := by decide +kernel
theorem dL_state_18 : decode cL_state 18 = .ok (.iconst 0, 1) := by decide +kernel
theorem dL_state_19 : decode cL_state 19 = .ok (.ireturn, 1) := by decide +kernel
theorem dL_parent_0 : decode cL_parent 0 = .ok (.aload_n 2, 1) := by decide +kernel
theorem dL_parent_1 : decode cL_parent 1 = .ok (.iconst 0, 1) := by decide +kernel
theorem dL_parent_2 : decode cL_parent 2 = .ok (.aload_n 0, 1) := by decide +kernel
theorem dL_parent_3 : decode cL_parent 3 = .ok (.iload_n 1, 1) := by decide +kernel
theorem dL_parent_4 : decode cL_parent 4 = .ok (.invokevirtual 60, 3) := by decide +kernel
theorem dL_parent_7 : decode cL_parent 7 = .ok (.i2l, 1) := by decide +kernel
theorem dL_parent_8 : decode cL_parent 8 = .ok (.lastore, 1) := by decide +kernel
theorem dL_parent_9 : decode cL_parent 9 = .ok (.goto 9, 3) := by decide +kernel
theorem dL_parent_12 : decode cL_parent 12 = .ok (.astore_n 3, 1) := by decide +kernel
theorem dL_parent_13 : decode cL_parent 13 = .ok (.iconst 1, 1) := by decide +kernel
theorem dL_parent_14 : decode cL_parent 14 = .ok (.ireturn, 1) := by decide +kernel
theorem dL_parent_15 : decode cL_parent 15 = .ok (.astore_n 3, 1) := by decide +kernel
theorem dL_parent_16 : decode cL_parent 16 = .ok (.iconst 2, 1) := by decide +kernel
theorem dL_parent_17 : decode cL_parent 17 = .ok (.ireturn, 1) := by decide +kernel
theorem dL_parent_18 : decode cL_parent 18 = .ok (.iconst 0, 1) := by decide +kernel
theorem dL_parent_19 : decode cL_parent 19 = .ok (.ireturn, 1) := by decide +kernel
theorem dL_depth_0 : decode cL_depth 0 = .ok (.aload_n 2, 1) := by decide +kernel
theorem dL_depth_1 : decode cL_depth 1 = .ok (.iconst 0, 1) := by decide +kernel
theorem dL_depth_2 : decode cL_depth 2 = .ok (.aload_n 0, 1) := by decide +kernel
theorem dL_depth_3 : decode cL_depth 3 = .ok (.iload_n 1, 1) := by decide +kernel
theorem dL_depth_4 : decode cL_depth 4 = .ok (.invokevirtual 63, 3) := by decide +kernel
theorem dL_depth_7 : decode cL_depth 7 = .ok (.i2l, 1) := by decide +kernel
theorem dL_depth_8 : decode cL_depth 8 = .ok (.lastore, 1) := by decide +kernel
theorem dL_depth_9 : decode cL_depth 9 = .ok (.goto 9, 3) := by decide +kernel
theorem dL_depth_12 : decode cL_depth 12 = .ok (.astore_n 3, 1) := by decide +kernel
theorem dL_depth_13 : decode cL_depth 13 = .ok (.iconst 1, 1) := by decide +kernel
theorem dL_depth_14 : decode cL_depth 14 = .ok (.ireturn, 1) := by decide +kernel
theorem dL_depth_15 : decode cL_depth 15 = .ok (.astore_n 3, 1) := by decide +kernel
theorem dL_depth_16 : decode cL_depth 16 = .ok (.iconst 2, 1) := by decide +kernel
theorem dL_depth_17 : decode cL_depth 17 = .ok (.ireturn, 1) := by decide +kernel
theorem dL_depth_18 : decode cL_depth 18 = .ok (.iconst 0, 1) := by decide +kernel
theorem dL_depth_19 : decode cL_depth 19 = .ok (.ireturn, 1) := by decide +kernel
theorem dL_own_0 : decode cL_own 0 = .ok (.aload_n 2, 1) := by decide +kernel
theorem dL_own_1 : decode cL_own 1 = .ok (.iconst 0, 1) := by decide +kernel
theorem dL_own_2 : decode cL_own 2 = .ok (.aload_n 0, 1) := by decide +kernel
theorem dL_own_3 : decode cL_own 3 = .ok (.iload_n 1, 1) := by decide +kernel
theorem dL_own_4 : decode cL_own 4 = .ok (.invokevirtual 66, 3) := by decide +kernel
theorem dL_own_7 : decode cL_own 7 = .ok (.i2l, 1) := by decide +kernel
theorem dL_own_8 : decode cL_own 8 = .ok (.lastore, 1) := by decide +kernel
theorem dL_own_9 : decode cL_own 9 = .ok (.goto 9, 3) := by decide +kernel
theorem dL_own_12 : decode cL_own 12 = .ok (.astore_n 3, 1) := by decide +kernel
theorem dL_own_13 : decode cL_own 13 = .ok (.iconst 1, 1) := by decide +kernel
theorem dL_own_14 : decode cL_own 14 = .ok (.ireturn, 1) := by decide +kernel
theorem dL_own_15 : decode cL_own 15 = .ok (.astore_n 3, 1) := by decide +kernel
theorem dL_own_16 : decode cL_own 16 = .ok (.iconst 2, 1) := by decide +kernel
theorem dL_own_17 : decode cL_own 17 = .ok (.ireturn, 1) := by decide +kernel
theorem dL_own_18 : decode cL_own 18 = .ok (.iconst 0, 1) := by decide +kernel
theorem dL_own_19 : decode cL_own 19 = .ok (.ireturn, 1) := by decide +kernel
theorem dL_at_0 : decode cL_at 0 = .ok (.aload_n 2, 1) := by decide +kernel
theorem dL_at_1 : decode cL_at 1 = .ok (.iconst 0, 1) := by decide +kernel
theorem dL_at_2 : decode cL_at 2 = .ok (.aload_n 0, 1) := by decide +kernel
theorem dL_at_3 : decode cL_at 3 = .ok (.iload_n 1, 1) := by decide +kernel
theorem dL_at_4 : decode cL_at 4 = .ok (.invokevirtual 69, 3) := by decide +kernel
theorem dL_at_7 : decode cL_at 7 = .ok (.i2l, 1) := by decide +kernel
theorem dL_at_8 : decode cL_at 8 = .ok (.lastore, 1) := by decide +kernel
theorem dL_at_9 : decode cL_at 9 = .ok (.goto 9, 3) := by decide +kernel
theorem dL_at_12 : decode cL_at 12 = .ok (.astore_n 3, 1) := by decide +kernel
theorem dL_at_13 : decode cL_at 13 = .ok (.iconst 1, 1) := by decide +kernel
theorem dL_at_14 : decode cL_at 14 = .ok (.ireturn, 1) := by decide +kernel
theorem dL_at_15 : decode cL_at 15 = .ok (.astore_n 3, 1) := by decide +kernel
theorem dL_at_16 : decode cL_at 16 = .ok (.iconst 2, 1) := by decide +kernel
theorem dL_at_17 : decode cL_at 17 = .ok (.ireturn, 1) := by decide +kernel
theorem dL_at_18 : decode cL_at 18 = .ok (.iconst 0, 1) := by decide +kernel
theorem dL_at_19 : decode cL_at 19 = .ok (.ireturn, 1) := by decide +kernel
theorem dL_count_0 : decode cL_count 0 = .ok (.aload_n 3, 1) := by decide +kernel
theorem dL_count_1 : decode cL_count 1 = .ok (.iconst 0, 1) := by decide +kernel
theorem dL_count_2 : decode cL_count 2 = .ok (.aload_n 0, 1) := by decide +kernel
theorem dL_count_3 : decode cL_count 3 = .ok (.iload_n 1, 1) := by decide +kernel
theorem dL_count_4 : decode cL_count 4 = .ok (.iload_n 2, 1) := by decide +kernel
theorem dL_count_5 : decode cL_count 5 = .ok (.invokevirtual 72, 3) := by decide +kernel
theorem dL_count_8 : decode cL_count 8 = .ok (.i2l, 1) := by decide +kernel
theorem dL_count_9 : decode cL_count 9 = .ok (.lastore, 1) := by decide +kernel
theorem dL_count_10 : decode cL_count 10 = .ok (.goto 11, 3) := by decide +kernel
theorem dL_count_13 : decode cL_count 13 = .ok (.astore 4, 2) := by decide +kernel
theorem dL_count_15 : decode cL_count 15 = .ok (.iconst 1, 1) := by decide +kernel
theorem dL_count_16 : decode cL_count 16 = .ok (.ireturn, 1) := by decide +kernel
theorem dL_count_17 : decode cL_count 17 = .ok (.astore 4, 2) := by decide +kernel
theorem dL_count_19 : decode cL_count 19 = .ok (.iconst 2, 1) := by decide +kernel
theorem dL_count_20 : decode cL_count 20 = .ok (.ireturn, 1) := by decide +kernel
theorem dL_count_21 : decode cL_count 21 = .ok (.iconst 0, 1) := by decide +kernel
theorem dL_count_22 : decode cL_count 22 = .ok (.ireturn, 1) := by decide +kernel
theorem dL_water_0 : decode cL_water 0 = .ok (.aload_n 1, 1) := by decide +kernel
theorem dL_water_1 : decode cL_water 1 = .ok (.iconst 0, 1) := by decide +kernel
theorem dL_water_2 : decode cL_water 2 = .ok (.aload_n 0, 1) := by decide +kernel
theorem dL_water_3 : decode cL_water 3 = .ok (.invokevirtual 75, 3) := by decide +kernel
theorem dL_water_6 : decode cL_water 6 = .ok (.i2l, 1) := by decide +kernel
theorem dL_water_7 : decode cL_water 7 = .ok (.lastore, 1) := by decide +kernel
theorem dL_water_8 : decode cL_water 8 = .ok (.goto 6, 3) := by decide +kernel
theorem dL_water_11 : decode cL_water 11 = .ok (.astore_n 2, 1) := by decide +kernel
theorem dL_water_12 : decode cL_water 12 = .ok (.iconst 1, 1) := by decide +kernel
theorem dL_water_13 : decode cL_water 13 = .ok (.ireturn, 1) := by decide +kernel
theorem dL_water_14 : decode cL_water 14 = .ok (.iconst 0, 1) := by decide +kernel
theorem dL_water_15 : decode cL_water 15 = .ok (.ireturn, 1) := by decide +kernel
theorem dL_left_0 : decode cL_left 0 = .ok (.aload_n 1, 1) := by decide +kernel
theorem dL_left_1 : decode cL_left 1 = .ok (.iconst 0, 1) := by decide +kernel
theorem dL_left_2 : decode cL_left 2 = .ok (.aload_n 0, 1) := by decide +kernel
theorem dL_left_3 : decode cL_left 3 = .ok (.invokevirtual 78, 3) := by decide +kernel
theorem dL_left_6 : decode cL_left 6 = .ok (.i2l, 1) := by decide +kernel
theorem dL_left_7 : decode cL_left 7 = .ok (.lastore, 1) := by decide +kernel
theorem dL_left_8 : decode cL_left 8 = .ok (.goto 6, 3) := by decide +kernel
theorem dL_left_11 : decode cL_left 11 = .ok (.astore_n 2, 1) := by decide +kernel
theorem dL_left_12 : decode cL_left 12 = .ok (.iconst 1, 1) := by decide +kernel
theorem dL_left_13 : decode cL_left 13 = .ok (.ireturn, 1) := by decide +kernel
theorem dL_left_14 : decode cL_left 14 = .ok (.iconst 0, 1) := by decide +kernel
theorem dL_left_15 : decode cL_left 15 = .ok (.ireturn, 1) := by decide +kernel
theorem dL_share_0 : decode cL_share 0 = .ok (.aload_n 1, 1) := by decide +kernel
theorem dL_share_1 : decode cL_share 1 = .ok (.iconst 0, 1) := by decide +kernel
theorem dL_share_2 : decode cL_share 2 = .ok (.aload_n 0, 1) := by decide +kernel
theorem dL_share_3 : decode cL_share 3 = .ok (.invokevirtual 81, 3) := by decide +kernel
theorem dL_share_6 : decode cL_share 6 = .ok (.dastore, 1) := by decide +kernel
theorem dL_share_7 : decode cL_share 7 = .ok (.goto 6, 3) := by decide +kernel
theorem dL_share_10 : decode cL_share 10 = .ok (.astore_n 2, 1) := by decide +kernel
theorem dL_share_11 : decode cL_share 11 = .ok (.iconst 1, 1) := by decide +kernel
theorem dL_share_12 : decode cL_share 12 = .ok (.ireturn, 1) := by decide +kernel
theorem dL_share_13 : decode cL_share 13 = .ok (.iconst 0, 1) := by decide +kernel
theorem dL_share_14 : decode cL_share 14 = .ok (.ireturn, 1) := by decide +kernel
end
section
theorem dL_law_0 : decode cL_law 0 = .ok (.new 8, 3) := by decide +kernel
theorem dL_law_3 : decode cL_law 3 = .ok (.dup, 1) := by decide +kernel
theorem dL_law_4 : decode cL_law 4 = .ok (.invokespecial 85, 3) := by decide +kernel
theorem dL_law_7 : decode cL_law 7 = .ok (.astore_n 1, 1) := by decide +kernel
theorem dL_law_8 : decode cL_law 8 = .ok (.new 86, 3) := by decide +kernel
theorem dL_law_11 : decode cL_law 11 = .ok (.dup, 1) := by decide +kernel
theorem dL_law_12 : decode cL_law 12 = .ok (.invokespecial 88, 3) := by decide +kernel
theorem dL_law_15 : decode cL_law 15 = .ok (.astore_n 2, 1) := by decide +kernel
theorem dL_law_16 : decode cL_law 16 = .ok (.iconst 1, 1) := by decide +kernel
theorem dL_law_17 : decode cL_law 17 = .ok (.newarray .long, 2) := by decide +kernel
theorem dL_law_19 : decode cL_law 19 = .ok (.astore_n 3, 1) := by decide +kernel
theorem dL_law_20 : decode cL_law 20 = .ok (.iconst 1, 1) := by decide +kernel
theorem dL_law_21 : decode cL_law 21 = .ok (.newarray .double, 2) := by decide +kernel
theorem dL_law_23 : decode cL_law 23 = .ok (.astore 4, 2) := by decide +kernel
theorem dL_law_25 : decode cL_law 25 = .ok (.iconst 0, 1) := by decide +kernel
theorem dL_law_26 : decode cL_law 26 = .ok (.istore 5, 2) := by decide +kernel
theorem dL_law_28 : decode cL_law 28 = .ok (.iload 5, 2) := by decide +kernel
theorem dL_law_30 : decode cL_law 30 = .ok (.aload_n 0, 1) := by decide +kernel
theorem dL_law_31 : decode cL_law 31 = .ok (.arraylength, 1) := by decide +kernel
theorem dL_law_32 : decode cL_law 32 = .ok (.iconst 5, 1) := by decide +kernel
theorem dL_law_33 : decode cL_law 33 = .ok (.isub, 1) := by decide +kernel
theorem dL_law_34 : decode cL_law 34 = .ok (.if_icmp .gt 1596, 3) := by decide +kernel
theorem dL_law_37 : decode cL_law 37 = .ok (.aload_n 0, 1) := by decide +kernel
theorem dL_law_38 : decode cL_law 38 = .ok (.iload 5, 2) := by decide +kernel
theorem dL_law_40 : decode cL_law 40 = .ok (.iaload, 1) := by decide +kernel
theorem dL_law_41 : decode cL_law 41 = .ok (.bipush 31, 2) := by decide +kernel
theorem dL_law_43 : decode cL_law 43 = .ok (.iand, 1) := by decide +kernel
theorem dL_law_44 : decode cL_law 44 = .ok (.tableswitch 1580 0 27 #[128, 216, 272, 340, 353, 409, 465, 580, 704, 745, 758, 771, 784, 797, 853, 897, 953, 1009, 1065, 1121, 1177, 1233, 1289, 1345, 1413, 1457, 1501, 1566], 128) := by decide +kernel
theorem dL_law_172 : decode cL_law 172 = .ok (.aload_n 1, 1) := by decide +kernel
theorem dL_law_173 : decode cL_law 173 = .ok (.aload_n 0, 1) := by decide +kernel
theorem dL_law_174 : decode cL_law 174 = .ok (.iload 5, 2) := by decide +kernel
theorem dL_law_176 : decode cL_law 176 = .ok (.iconst 1, 1) := by decide +kernel
theorem dL_law_177 : decode cL_law 177 = .ok (.iadd, 1) := by decide +kernel
theorem dL_law_178 : decode cL_law 178 = .ok (.iaload, 1) := by decide +kernel
theorem dL_law_179 : decode cL_law 179 = .ok (.i2l, 1) := by decide +kernel
theorem dL_law_180 : decode cL_law 180 = .ok (.bipush 32, 2) := by decide +kernel
theorem dL_law_182 : decode cL_law 182 = .ok (.lshl, 1) := by decide +kernel
theorem dL_law_183 : decode cL_law 183 = .ok (.aload_n 0, 1) := by decide +kernel
theorem dL_law_184 : decode cL_law 184 = .ok (.iload 5, 2) := by decide +kernel
theorem dL_law_186 : decode cL_law 186 = .ok (.iconst 2, 1) := by decide +kernel
theorem dL_law_187 : decode cL_law 187 = .ok (.iadd, 1) := by decide +kernel
theorem dL_law_188 : decode cL_law 188 = .ok (.iaload, 1) := by decide +kernel
theorem dL_law_189 : decode cL_law 189 = .ok (.i2l, 1) := by decide +kernel
theorem dL_law_190 : decode cL_law 190 = .ok (.ldc2_w 89, 3) := by decide +kernel
theorem dL_law_193 : decode cL_law 193 = .ok (.land, 1) := by decide +kernel
theorem dL_law_194 : decode cL_law 194 = .ok (.lor, 1) := by decide +kernel
theorem dL_law_195 : decode cL_law 195 = .ok (.aload_n 3, 1) := by decide +kernel
theorem dL_law_196 : decode cL_law 196 = .ok (.invokestatic 91, 3) := by decide +kernel
theorem dL_law_199 : decode cL_law 199 = .ok (.istore 6, 2) := by decide +kernel
theorem dL_law_201 : decode cL_law 201 = .ok (.aload_n 2, 1) := by decide +kernel
theorem dL_law_202 : decode cL_law 202 = .ok (.aload_n 0, 1) := by decide +kernel
theorem dL_law_203 : decode cL_law 203 = .ok (.iload 5, 2) := by decide +kernel
theorem dL_law_205 : decode cL_law 205 = .ok (.iconst 1, 1) := by decide +kernel
theorem dL_law_206 : decode cL_law 206 = .ok (.iadd, 1) := by decide +kernel
theorem dL_law_207 : decode cL_law 207 = .ok (.iaload, 1) := by decide +kernel
theorem dL_law_208 : decode cL_law 208 = .ok (.i2l, 1) := by decide +kernel
theorem dL_law_209 : decode cL_law 209 = .ok (.bipush 32, 2) := by decide +kernel
theorem dL_law_211 : decode cL_law 211 = .ok (.lshl, 1) := by decide +kernel
theorem dL_law_212 : decode cL_law 212 = .ok (.aload_n 0, 1) := by decide +kernel
theorem dL_law_213 : decode cL_law 213 = .ok (.iload 5, 2) := by decide +kernel
theorem dL_law_215 : decode cL_law 215 = .ok (.iconst 2, 1) := by decide +kernel
theorem dL_law_216 : decode cL_law 216 = .ok (.iadd, 1) := by decide +kernel
theorem dL_law_217 : decode cL_law 217 = .ok (.iaload, 1) := by decide +kernel
theorem dL_law_218 : decode cL_law 218 = .ok (.i2l, 1) := by decide +kernel
theorem dL_law_219 : decode cL_law 219 = .ok (.ldc2_w 89, 3) := by decide +kernel
theorem dL_law_222 : decode cL_law 222 = .ok (.land, 1) := by decide +kernel
theorem dL_law_223 : decode cL_law 223 = .ok (.lor, 1) := by decide +kernel
theorem dL_law_224 : decode cL_law 224 = .ok (.invokevirtual 96, 3) := by decide +kernel
theorem dL_law_227 : decode cL_law 227 = .ok (.istore 7, 2) := by decide +kernel
theorem dL_law_229 : decode cL_law 229 = .ok (.aload_n 2, 1) := by decide +kernel
theorem dL_law_230 : decode cL_law 230 = .ok (.invokevirtual 97, 3) := by decide +kernel
theorem dL_law_233 : decode cL_law 233 = .ok (.iload 6, 2) := by decide +kernel
theorem dL_law_235 : decode cL_law 235 = .ok (.if_icmp .eq 5, 3) := by decide +kernel
theorem dL_law_238 : decode cL_law 238 = .ok (.iconst 0, 1) := by decide +kernel
theorem dL_law_239 : decode cL_law 239 = .ok (.ireturn, 1) := by decide +kernel
theorem dL_law_240 : decode cL_law 240 = .ok (.iload 6, 2) := by decide +kernel
theorem dL_law_242 : decode cL_law 242 = .ok (.ifCond .ne 15, 3) := by decide +kernel
theorem dL_law_245 : decode cL_law 245 = .ok (.aload_n 3, 1) := by decide +kernel
theorem dL_law_246 : decode cL_law 246 = .ok (.iconst 0, 1) := by decide +kernel
theorem dL_law_247 : decode cL_law 247 = .ok (.laload, 1) := by decide +kernel
theorem dL_law_248 : decode cL_law 248 = .ok (.iload 7, 2) := by decide +kernel
theorem dL_law_250 : decode cL_law 250 = .ok (.i2l, 1) := by decide +kernel
theorem dL_law_251 : decode cL_law 251 = .ok (.lcmp, 1) := by decide +kernel
theorem dL_law_252 : decode cL_law 252 = .ok (.ifCond .eq 5, 3) := by decide +kernel
theorem dL_law_255 : decode cL_law 255 = .ok (.iconst 0, 1) := by decide +kernel
theorem dL_law_256 : decode cL_law 256 = .ok (.ireturn, 1) := by decide +kernel
theorem dL_law_257 : decode cL_law 257 = .ok (.goto 1367, 3) := by decide +kernel
theorem dL_law_260 : decode cL_law 260 = .ok (.aload_n 1, 1) := by decide +kernel
theorem dL_law_261 : decode cL_law 261 = .ok (.aload_n 0, 1) := by decide +kernel
theorem dL_law_262 : decode cL_law 262 = .ok (.iload 5, 2) := by decide +kernel
theorem dL_law_264 : decode cL_law 264 = .ok (.iconst 1, 1) := by decide +kernel
theorem dL_law_265 : decode cL_law 265 = .ok (.iadd, 1) := by decide +kernel
theorem dL_law_266 : decode cL_law 266 = .ok (.iaload, 1) := by decide +kernel
theorem dL_law_267 : decode cL_law 267 = .ok (.aload_n 3, 1) := by decide +kernel
theorem dL_law_268 : decode cL_law 268 = .ok (.invokestatic 100, 3) := by decide +kernel
theorem dL_law_271 : decode cL_law 271 = .ok (.istore 6, 2) := by decide +kernel
theorem dL_law_273 : decode cL_law 273 = .ok (.aload_n 2, 1) := by decide +kernel
theorem dL_law_274 : decode cL_law 274 = .ok (.aload_n 0, 1) := by decide +kernel
theorem dL_law_275 : decode cL_law 275 = .ok (.iload 5, 2) := by decide +kernel
theorem dL_law_277 : decode cL_law 277 = .ok (.iconst 1, 1) := by decide +kernel
theorem dL_law_278 : decode cL_law 278 = .ok (.iadd, 1) := by decide +kernel
theorem dL_law_279 : decode cL_law 279 = .ok (.iaload, 1) := by decide +kernel
theorem dL_law_280 : decode cL_law 280 = .ok (.invokevirtual 103, 3) := by decide +kernel
theorem dL_law_283 : decode cL_law 283 = .ok (.istore 7, 2) := by decide +kernel
theorem dL_law_285 : decode cL_law 285 = .ok (.aload_n 2, 1) := by decide +kernel
theorem dL_law_286 : decode cL_law 286 = .ok (.invokevirtual 97, 3) := by decide +kernel
theorem dL_law_289 : decode cL_law 289 = .ok (.iload 6, 2) := by decide +kernel
theorem dL_law_291 : decode cL_law 291 = .ok (.if_icmp .eq 5, 3) := by decide +kernel
theorem dL_law_294 : decode cL_law 294 = .ok (.iconst 0, 1) := by decide +kernel
theorem dL_law_295 : decode cL_law 295 = .ok (.ireturn, 1) := by decide +kernel
theorem dL_law_296 : decode cL_law 296 = .ok (.iload 6, 2) := by decide +kernel
theorem dL_law_298 : decode cL_law 298 = .ok (.ifCond .ne 15, 3) := by decide +kernel
theorem dL_law_301 : decode cL_law 301 = .ok (.aload_n 3, 1) := by decide +kernel
theorem dL_law_302 : decode cL_law 302 = .ok (.iconst 0, 1) := by decide +kernel
theorem dL_law_303 : decode cL_law 303 = .ok (.laload, 1) := by decide +kernel
theorem dL_law_304 : decode cL_law 304 = .ok (.iload 7, 2) := by decide +kernel
theorem dL_law_306 : decode cL_law 306 = .ok (.i2l, 1) := by decide +kernel
theorem dL_law_307 : decode cL_law 307 = .ok (.lcmp, 1) := by decide +kernel
theorem dL_law_308 : decode cL_law 308 = .ok (.ifCond .eq 5, 3) := by decide +kernel
theorem dL_law_311 : decode cL_law 311 = .ok (.iconst 0, 1) := by decide +kernel
theorem dL_law_312 : decode cL_law 312 = .ok (.ireturn, 1) := by decide +kernel
theorem dL_law_313 : decode cL_law 313 = .ok (.goto 1311, 3) := by decide +kernel
theorem dL_law_316 : decode cL_law 316 = .ok (.aload_n 1, 1) := by decide +kernel
theorem dL_law_317 : decode cL_law 317 = .ok (.aload_n 0, 1) := by decide +kernel
theorem dL_law_318 : decode cL_law 318 = .ok (.iload 5, 2) := by decide +kernel
theorem dL_law_320 : decode cL_law 320 = .ok (.iconst 1, 1) := by decide +kernel
theorem dL_law_321 : decode cL_law 321 = .ok (.iadd, 1) := by decide +kernel
theorem dL_law_322 : decode cL_law 322 = .ok (.iaload, 1) := by decide +kernel
theorem dL_law_323 : decode cL_law 323 = .ok (.aload_n 0, 1) := by decide +kernel
theorem dL_law_324 : decode cL_law 324 = .ok (.iload 5, 2) := by decide +kernel
theorem dL_law_326 : decode cL_law 326 = .ok (.iconst 2, 1) := by decide +kernel
theorem dL_law_327 : decode cL_law 327 = .ok (.iadd, 1) := by decide +kernel
theorem dL_law_328 : decode cL_law 328 = .ok (.iaload, 1) := by decide +kernel
theorem dL_law_329 : decode cL_law 329 = .ok (.aload_n 3, 1) := by decide +kernel
theorem dL_law_330 : decode cL_law 330 = .ok (.invokestatic 104, 3) := by decide +kernel
theorem dL_law_333 : decode cL_law 333 = .ok (.istore 6, 2) := by decide +kernel
theorem dL_law_335 : decode cL_law 335 = .ok (.aload_n 2, 1) := by decide +kernel
theorem dL_law_336 : decode cL_law 336 = .ok (.aload_n 0, 1) := by decide +kernel
theorem dL_law_337 : decode cL_law 337 = .ok (.iload 5, 2) := by decide +kernel
theorem dL_law_339 : decode cL_law 339 = .ok (.iconst 1, 1) := by decide +kernel
theorem dL_law_340 : decode cL_law 340 = .ok (.iadd, 1) := by decide +kernel
theorem dL_law_341 : decode cL_law 341 = .ok (.iaload, 1) := by decide +kernel
theorem dL_law_342 : decode cL_law 342 = .ok (.aload_n 0, 1) := by decide +kernel
theorem dL_law_343 : decode cL_law 343 = .ok (.iload 5, 2) := by decide +kernel
theorem dL_law_345 : decode cL_law 345 = .ok (.iconst 2, 1) := by decide +kernel
theorem dL_law_346 : decode cL_law 346 = .ok (.iadd, 1) := by decide +kernel
theorem dL_law_347 : decode cL_law 347 = .ok (.iaload, 1) := by decide +kernel
theorem dL_law_348 : decode cL_law 348 = .ok (.invokevirtual 107, 3) := by decide +kernel
theorem dL_law_351 : decode cL_law 351 = .ok (.istore 7, 2) := by decide +kernel
theorem dL_law_353 : decode cL_law 353 = .ok (.aload_n 2, 1) := by decide +kernel
theorem dL_law_354 : decode cL_law 354 = .ok (.invokevirtual 97, 3) := by decide +kernel
theorem dL_law_357 : decode cL_law 357 = .ok (.iload 6, 2) := by decide +kernel
theorem dL_law_359 : decode cL_law 359 = .ok (.if_icmp .eq 5, 3) := by decide +kernel
theorem dL_law_362 : decode cL_law 362 = .ok (.iconst 0, 1) := by decide +kernel
theorem dL_law_363 : decode cL_law 363 = .ok (.ireturn, 1) := by decide +kernel
theorem dL_law_364 : decode cL_law 364 = .ok (.iload 6, 2) := by decide +kernel
theorem dL_law_366 : decode cL_law 366 = .ok (.ifCond .ne 15, 3) := by decide +kernel
theorem dL_law_369 : decode cL_law 369 = .ok (.aload_n 3, 1) := by decide +kernel
theorem dL_law_370 : decode cL_law 370 = .ok (.iconst 0, 1) := by decide +kernel
theorem dL_law_371 : decode cL_law 371 = .ok (.laload, 1) := by decide +kernel
theorem dL_law_372 : decode cL_law 372 = .ok (.iload 7, 2) := by decide +kernel
theorem dL_law_374 : decode cL_law 374 = .ok (.i2l, 1) := by decide +kernel
theorem dL_law_375 : decode cL_law 375 = .ok (.lcmp, 1) := by decide +kernel
theorem dL_law_376 : decode cL_law 376 = .ok (.ifCond .eq 5, 3) := by decide +kernel
theorem dL_law_379 : decode cL_law 379 = .ok (.iconst 0, 1) := by decide +kernel
theorem dL_law_380 : decode cL_law 380 = .ok (.ireturn, 1) := by decide +kernel
theorem dL_law_381 : decode cL_law 381 = .ok (.goto 1243, 3) := by decide +kernel
theorem dL_law_384 : decode cL_law 384 = .ok (.aload_n 1, 1) := by decide +kernel
theorem dL_law_385 : decode cL_law 385 = .ok (.invokevirtual 108, 3) := by decide +kernel
theorem dL_law_388 : decode cL_law 388 = .ok (.aload_n 2, 1) := by decide +kernel
theorem dL_law_389 : decode cL_law 389 = .ok (.invokevirtual 111, 3) := by decide +kernel
theorem dL_law_392 : decode cL_law 392 = .ok (.if_icmp .eq 1232, 3) := by decide +kernel
theorem dL_law_395 : decode cL_law 395 = .ok (.iconst 0, 1) := by decide +kernel
theorem dL_law_396 : decode cL_law 396 = .ok (.ireturn, 1) := by decide +kernel
theorem dL_law_397 : decode cL_law 397 = .ok (.aload_n 1, 1) := by decide +kernel
theorem dL_law_398 : decode cL_law 398 = .ok (.aload_n 0, 1) := by decide +kernel
theorem dL_law_399 : decode cL_law 399 = .ok (.iload 5, 2) := by decide +kernel
theorem dL_law_401 : decode cL_law 401 = .ok (.iconst 1, 1) := by decide +kernel
theorem dL_law_402 : decode cL_law 402 = .ok (.iadd, 1) := by decide +kernel
theorem dL_law_403 : decode cL_law 403 = .ok (.iaload, 1) := by decide +kernel
theorem dL_law_404 : decode cL_law 404 = .ok (.aload_n 3, 1) := by decide +kernel
theorem dL_law_405 : decode cL_law 405 = .ok (.invokestatic 112, 3) := by decide +kernel
theorem dL_law_408 : decode cL_law 408 = .ok (.istore 6, 2) := by decide +kernel
theorem dL_law_410 : decode cL_law 410 = .ok (.aload_n 2, 1) := by decide +kernel
theorem dL_law_411 : decode cL_law 411 = .ok (.aload_n 0, 1) := by decide +kernel
theorem dL_law_412 : decode cL_law 412 = .ok (.iload 5, 2) := by decide +kernel
theorem dL_law_414 : decode cL_law 414 = .ok (.iconst 1, 1) := by decide +kernel
theorem dL_law_415 : decode cL_law 415 = .ok (.iadd, 1) := by decide +kernel
theorem dL_law_416 : decode cL_law 416 = .ok (.iaload, 1) := by decide +kernel
theorem dL_law_417 : decode cL_law 417 = .ok (.invokevirtual 114, 3) := by decide +kernel
theorem dL_law_420 : decode cL_law 420 = .ok (.istore 7, 2) := by decide +kernel
theorem dL_law_422 : decode cL_law 422 = .ok (.aload_n 2, 1) := by decide +kernel
theorem dL_law_423 : decode cL_law 423 = .ok (.invokevirtual 97, 3) := by decide +kernel
theorem dL_law_426 : decode cL_law 426 = .ok (.iload 6, 2) := by decide +kernel
theorem dL_law_428 : decode cL_law 428 = .ok (.if_icmp .eq 5, 3) := by decide +kernel
theorem dL_law_431 : decode cL_law 431 = .ok (.iconst 0, 1) := by decide +kernel
theorem dL_law_432 : decode cL_law 432 = .ok (.ireturn, 1) := by decide +kernel
theorem dL_law_433 : decode cL_law 433 = .ok (.iload 6, 2) := by decide +kernel
theorem dL_law_435 : decode cL_law 435 = .ok (.ifCond .ne 15, 3) := by decide +kernel
theorem dL_law_438 : decode cL_law 438 = .ok (.aload_n 3, 1) := by decide +kernel
theorem dL_law_439 : decode cL_law 439 = .ok (.iconst 0, 1) := by decide +kernel
theorem dL_law_440 : decode cL_law 440 = .ok (.laload, 1) := by decide +kernel
theorem dL_law_441 : decode cL_law 441 = .ok (.iload 7, 2) := by decide +kernel
theorem dL_law_443 : decode cL_law 443 = .ok (.i2l, 1) := by decide +kernel
theorem dL_law_444 : decode cL_law 444 = .ok (.lcmp, 1) := by decide +kernel
theorem dL_law_445 : decode cL_law 445 = .ok (.ifCond .eq 5, 3) := by decide +kernel
theorem dL_law_448 : decode cL_law 448 = .ok (.iconst 0, 1) := by decide +kernel
theorem dL_law_449 : decode cL_law 449 = .ok (.ireturn, 1) := by decide +kernel
theorem dL_law_450 : decode cL_law 450 = .ok (.goto 1174, 3) := by decide +kernel
theorem dL_law_453 : decode cL_law 453 = .ok (.aload_n 1, 1) := by decide +kernel
theorem dL_law_454 : decode cL_law 454 = .ok (.aload_n 0, 1) := by decide +kernel
theorem dL_law_455 : decode cL_law 455 = .ok (.iload 5, 2) := by decide +kernel
theorem dL_law_457 : decode cL_law 457 = .ok (.iconst 1, 1) := by decide +kernel
theorem dL_law_458 : decode cL_law 458 = .ok (.iadd, 1) := by decide +kernel
theorem dL_law_459 : decode cL_law 459 = .ok (.iaload, 1) := by decide +kernel
theorem dL_law_460 : decode cL_law 460 = .ok (.aload_n 3, 1) := by decide +kernel
theorem dL_law_461 : decode cL_law 461 = .ok (.invokestatic 115, 3) := by decide +kernel
theorem dL_law_464 : decode cL_law 464 = .ok (.istore 6, 2) := by decide +kernel
theorem dL_law_466 : decode cL_law 466 = .ok (.aload_n 2, 1) := by decide +kernel
theorem dL_law_467 : decode cL_law 467 = .ok (.aload_n 0, 1) := by decide +kernel
theorem dL_law_468 : decode cL_law 468 = .ok (.iload 5, 2) := by decide +kernel
theorem dL_law_470 : decode cL_law 470 = .ok (.iconst 1, 1) := by decide +kernel
theorem dL_law_471 : decode cL_law 471 = .ok (.iadd, 1) := by decide +kernel
theorem dL_law_472 : decode cL_law 472 = .ok (.iaload, 1) := by decide +kernel
theorem dL_law_473 : decode cL_law 473 = .ok (.invokevirtual 117, 3) := by decide +kernel
theorem dL_law_476 : decode cL_law 476 = .ok (.istore 7, 2) := by decide +kernel
theorem dL_law_478 : decode cL_law 478 = .ok (.aload_n 2, 1) := by decide +kernel
theorem dL_law_479 : decode cL_law 479 = .ok (.invokevirtual 97, 3) := by decide +kernel
theorem dL_law_482 : decode cL_law 482 = .ok (.iload 6, 2) := by decide +kernel
theorem dL_law_484 : decode cL_law 484 = .ok (.if_icmp .eq 5, 3) := by decide +kernel
theorem dL_law_487 : decode cL_law 487 = .ok (.iconst 0, 1) := by decide +kernel
theorem dL_law_488 : decode cL_law 488 = .ok (.ireturn, 1) := by decide +kernel
theorem dL_law_489 : decode cL_law 489 = .ok (.iload 6, 2) := by decide +kernel
theorem dL_law_491 : decode cL_law 491 = .ok (.ifCond .ne 15, 3) := by decide +kernel
theorem dL_law_494 : decode cL_law 494 = .ok (.aload_n 3, 1) := by decide +kernel
theorem dL_law_495 : decode cL_law 495 = .ok (.iconst 0, 1) := by decide +kernel
theorem dL_law_496 : decode cL_law 496 = .ok (.laload, 1) := by decide +kernel
theorem dL_law_497 : decode cL_law 497 = .ok (.iload 7, 2) := by decide +kernel
theorem dL_law_499 : decode cL_law 499 = .ok (.i2l, 1) := by decide +kernel
theorem dL_law_500 : decode cL_law 500 = .ok (.lcmp, 1) := by decide +kernel
theorem dL_law_501 : decode cL_law 501 = .ok (.ifCond .eq 5, 3) := by decide +kernel
theorem dL_law_504 : decode cL_law 504 = .ok (.iconst 0, 1) := by decide +kernel
theorem dL_law_505 : decode cL_law 505 = .ok (.ireturn, 1) := by decide +kernel
theorem dL_law_506 : decode cL_law 506 = .ok (.goto 1118, 3) := by decide +kernel
theorem dL_law_509 : decode cL_law 509 = .ok (.aload_n 1, 1) := by decide +kernel
theorem dL_law_510 : decode cL_law 510 = .ok (.aload_n 0, 1) := by decide +kernel
theorem dL_law_511 : decode cL_law 511 = .ok (.iload 5, 2) := by decide +kernel
theorem dL_law_513 : decode cL_law 513 = .ok (.iconst 1, 1) := by decide +kernel
theorem dL_law_514 : decode cL_law 514 = .ok (.iadd, 1) := by decide +kernel
theorem dL_law_515 : decode cL_law 515 = .ok (.iaload, 1) := by decide +kernel
theorem dL_law_516 : decode cL_law 516 = .ok (.aload_n 0, 1) := by decide +kernel
theorem dL_law_517 : decode cL_law 517 = .ok (.iload 5, 2) := by decide +kernel
theorem dL_law_519 : decode cL_law 519 = .ok (.iconst 2, 1) := by decide +kernel
theorem dL_law_520 : decode cL_law 520 = .ok (.iadd, 1) := by decide +kernel
theorem dL_law_521 : decode cL_law 521 = .ok (.iaload, 1) := by decide +kernel
theorem dL_law_522 : decode cL_law 522 = .ok (.ifCond .eq 7, 3) := by decide +kernel
theorem dL_law_525 : decode cL_law 525 = .ok (.iconst 1, 1) := by decide +kernel
theorem dL_law_526 : decode cL_law 526 = .ok (.goto 4, 3) := by decide +kernel
theorem dL_law_529 : decode cL_law 529 = .ok (.iconst 0, 1) := by decide +kernel
theorem dL_law_530 : decode cL_law 530 = .ok (.aload_n 0, 1) := by decide +kernel
theorem dL_law_531 : decode cL_law 531 = .ok (.iload 5, 2) := by decide +kernel
theorem dL_law_533 : decode cL_law 533 = .ok (.iconst 3, 1) := by decide +kernel
theorem dL_law_534 : decode cL_law 534 = .ok (.iadd, 1) := by decide +kernel
theorem dL_law_535 : decode cL_law 535 = .ok (.iaload, 1) := by decide +kernel
theorem dL_law_536 : decode cL_law 536 = .ok (.aload_n 0, 1) := by decide +kernel
theorem dL_law_537 : decode cL_law 537 = .ok (.iload 5, 2) := by decide +kernel
theorem dL_law_539 : decode cL_law 539 = .ok (.iconst 4, 1) := by decide +kernel
theorem dL_law_540 : decode cL_law 540 = .ok (.iadd, 1) := by decide +kernel
theorem dL_law_541 : decode cL_law 541 = .ok (.iaload, 1) := by decide +kernel
theorem dL_law_542 : decode cL_law 542 = .ok (.aload_n 3, 1) := by decide +kernel
theorem dL_law_543 : decode cL_law 543 = .ok (.invokestatic 118, 3) := by decide +kernel
theorem dL_law_546 : decode cL_law 546 = .ok (.istore 6, 2) := by decide +kernel
theorem dL_law_548 : decode cL_law 548 = .ok (.aload_n 2, 1) := by decide +kernel
theorem dL_law_549 : decode cL_law 549 = .ok (.aload_n 0, 1) := by decide +kernel
theorem dL_law_550 : decode cL_law 550 = .ok (.iload 5, 2) := by decide +kernel
theorem dL_law_552 : decode cL_law 552 = .ok (.iconst 1, 1) := by decide +kernel
theorem dL_law_553 : decode cL_law 553 = .ok (.iadd, 1) := by decide +kernel
theorem dL_law_554 : decode cL_law 554 = .ok (.iaload, 1) := by decide +kernel
theorem dL_law_555 : decode cL_law 555 = .ok (.aload_n 0, 1) := by decide +kernel
theorem dL_law_556 : decode cL_law 556 = .ok (.iload 5, 2) := by decide +kernel
theorem dL_law_558 : decode cL_law 558 = .ok (.iconst 2, 1) := by decide +kernel
theorem dL_law_559 : decode cL_law 559 = .ok (.iadd, 1) := by decide +kernel
theorem dL_law_560 : decode cL_law 560 = .ok (.iaload, 1) := by decide +kernel
theorem dL_law_561 : decode cL_law 561 = .ok (.ifCond .eq 7, 3) := by decide +kernel
theorem dL_law_564 : decode cL_law 564 = .ok (.iconst 1, 1) := by decide +kernel
theorem dL_law_565 : decode cL_law 565 = .ok (.goto 4, 3) := by decide +kernel
theorem dL_law_568 : decode cL_law 568 = .ok (.iconst 0, 1) := by decide +kernel
theorem dL_law_569 : decode cL_law 569 = .ok (.aload_n 0, 1) := by decide +kernel
theorem dL_law_570 : decode cL_law 570 = .ok (.iload 5, 2) := by decide +kernel
theorem dL_law_572 : decode cL_law 572 = .ok (.iconst 3, 1) := by decide +kernel
theorem dL_law_573 : decode cL_law 573 = .ok (.iadd, 1) := by decide +kernel
theorem dL_law_574 : decode cL_law 574 = .ok (.iaload, 1) := by decide +kernel
theorem dL_law_575 : decode cL_law 575 = .ok (.aload_n 0, 1) := by decide +kernel
theorem dL_law_576 : decode cL_law 576 = .ok (.iload 5, 2) := by decide +kernel
theorem dL_law_578 : decode cL_law 578 = .ok (.iconst 4, 1) := by decide +kernel
theorem dL_law_579 : decode cL_law 579 = .ok (.iadd, 1) := by decide +kernel
theorem dL_law_580 : decode cL_law 580 = .ok (.iaload, 1) := by decide +kernel
theorem dL_law_581 : decode cL_law 581 = .ok (.invokevirtual 121, 3) := by decide +kernel
theorem dL_law_584 : decode cL_law 584 = .ok (.istore 7, 2) := by decide +kernel
theorem dL_law_586 : decode cL_law 586 = .ok (.aload_n 2, 1) := by decide +kernel
theorem dL_law_587 : decode cL_law 587 = .ok (.invokevirtual 97, 3) := by decide +kernel
theorem dL_law_590 : decode cL_law 590 = .ok (.iload 6, 2) := by decide +kernel
theorem dL_law_592 : decode cL_law 592 = .ok (.if_icmp .eq 5, 3) := by decide +kernel
theorem dL_law_595 : decode cL_law 595 = .ok (.iconst 0, 1) := by decide +kernel
theorem dL_law_596 : decode cL_law 596 = .ok (.ireturn, 1) := by decide +kernel
theorem dL_law_597 : decode cL_law 597 = .ok (.iload 6, 2) := by decide +kernel
theorem dL_law_599 : decode cL_law 599 = .ok (.ifCond .ne 22, 3) := by decide +kernel
theorem dL_law_602 : decode cL_law 602 = .ok (.aload_n 3, 1) := by decide +kernel
theorem dL_law_603 : decode cL_law 603 = .ok (.iconst 0, 1) := by decide +kernel
theorem dL_law_604 : decode cL_law 604 = .ok (.laload, 1) := by decide +kernel
theorem dL_law_605 : decode cL_law 605 = .ok (.iload 7, 2) := by decide +kernel
theorem dL_law_607 : decode cL_law 607 = .ok (.ifCond .eq 7, 3) := by decide +kernel
theorem dL_law_610 : decode cL_law 610 = .ok (.lconst 1, 1) := by decide +kernel
theorem dL_law_611 : decode cL_law 611 = .ok (.goto 4, 3) := by decide +kernel
theorem dL_law_614 : decode cL_law 614 = .ok (.lconst 0, 1) := by decide +kernel
theorem dL_law_615 : decode cL_law 615 = .ok (.lcmp, 1) := by decide +kernel
theorem dL_law_616 : decode cL_law 616 = .ok (.ifCond .eq 5, 3) := by decide +kernel
theorem dL_law_619 : decode cL_law 619 = .ok (.iconst 0, 1) := by decide +kernel
theorem dL_law_620 : decode cL_law 620 = .ok (.ireturn, 1) := by decide +kernel
theorem dL_law_621 : decode cL_law 621 = .ok (.goto 1003, 3) := by decide +kernel
theorem dL_law_624 : decode cL_law 624 = .ok (.aload_n 1, 1) := by decide +kernel
theorem dL_law_625 : decode cL_law 625 = .ok (.aload_n 0, 1) := by decide +kernel
theorem dL_law_626 : decode cL_law 626 = .ok (.iload 5, 2) := by decide +kernel
theorem dL_law_628 : decode cL_law 628 = .ok (.iconst 1, 1) := by decide +kernel
theorem dL_law_629 : decode cL_law 629 = .ok (.iadd, 1) := by decide +kernel
theorem dL_law_630 : decode cL_law 630 = .ok (.iaload, 1) := by decide +kernel
theorem dL_law_631 : decode cL_law 631 = .ok (.aload_n 0, 1) := by decide +kernel
theorem dL_law_632 : decode cL_law 632 = .ok (.iload 5, 2) := by decide +kernel
theorem dL_law_634 : decode cL_law 634 = .ok (.iconst 2, 1) := by decide +kernel
theorem dL_law_635 : decode cL_law 635 = .ok (.iadd, 1) := by decide +kernel
theorem dL_law_636 : decode cL_law 636 = .ok (.iaload, 1) := by decide +kernel
theorem dL_law_637 : decode cL_law 637 = .ok (.ifCond .eq 7, 3) := by decide +kernel
theorem dL_law_640 : decode cL_law 640 = .ok (.iconst 1, 1) := by decide +kernel
theorem dL_law_641 : decode cL_law 641 = .ok (.goto 4, 3) := by decide +kernel
theorem dL_law_644 : decode cL_law 644 = .ok (.iconst 0, 1) := by decide +kernel
theorem dL_law_645 : decode cL_law 645 = .ok (.aload_n 0, 1) := by decide +kernel
theorem dL_law_646 : decode cL_law 646 = .ok (.iload 5, 2) := by decide +kernel
theorem dL_law_648 : decode cL_law 648 = .ok (.iconst 3, 1) := by decide +kernel
theorem dL_law_649 : decode cL_law 649 = .ok (.iadd, 1) := by decide +kernel
theorem dL_law_650 : decode cL_law 650 = .ok (.iaload, 1) := by decide +kernel
theorem dL_law_651 : decode cL_law 651 = .ok (.ifCond .eq 7, 3) := by decide +kernel
theorem dL_law_654 : decode cL_law 654 = .ok (.iconst 1, 1) := by decide +kernel
theorem dL_law_655 : decode cL_law 655 = .ok (.goto 4, 3) := by decide +kernel
theorem dL_law_658 : decode cL_law 658 = .ok (.iconst 0, 1) := by decide +kernel
theorem dL_law_659 : decode cL_law 659 = .ok (.aload_n 0, 1) := by decide +kernel
theorem dL_law_660 : decode cL_law 660 = .ok (.iload 5, 2) := by decide +kernel
theorem dL_law_662 : decode cL_law 662 = .ok (.iconst 4, 1) := by decide +kernel
theorem dL_law_663 : decode cL_law 663 = .ok (.iadd, 1) := by decide +kernel
theorem dL_law_664 : decode cL_law 664 = .ok (.iaload, 1) := by decide +kernel
theorem dL_law_665 : decode cL_law 665 = .ok (.aload_n 3, 1) := by decide +kernel
theorem dL_law_666 : decode cL_law 666 = .ok (.invokestatic 122, 3) := by decide +kernel
theorem dL_law_669 : decode cL_law 669 = .ok (.istore 6, 2) := by decide +kernel
theorem dL_law_671 : decode cL_law 671 = .ok (.aload_n 2, 1) := by decide +kernel
theorem dL_law_672 : decode cL_law 672 = .ok (.aload_n 0, 1) := by decide +kernel
theorem dL_law_673 : decode cL_law 673 = .ok (.iload 5, 2) := by decide +kernel
theorem dL_law_675 : decode cL_law 675 = .ok (.iconst 1, 1) := by decide +kernel
theorem dL_law_676 : decode cL_law 676 = .ok (.iadd, 1) := by decide +kernel
theorem dL_law_677 : decode cL_law 677 = .ok (.iaload, 1) := by decide +kernel
theorem dL_law_678 : decode cL_law 678 = .ok (.aload_n 0, 1) := by decide +kernel
theorem dL_law_679 : decode cL_law 679 = .ok (.iload 5, 2) := by decide +kernel
theorem dL_law_681 : decode cL_law 681 = .ok (.iconst 2, 1) := by decide +kernel
theorem dL_law_682 : decode cL_law 682 = .ok (.iadd, 1) := by decide +kernel
theorem dL_law_683 : decode cL_law 683 = .ok (.iaload, 1) := by decide +kernel
theorem dL_law_684 : decode cL_law 684 = .ok (.ifCond .eq 7, 3) := by decide +kernel
theorem dL_law_687 : decode cL_law 687 = .ok (.iconst 1, 1) := by decide +kernel
theorem dL_law_688 : decode cL_law 688 = .ok (.goto 4, 3) := by decide +kernel
theorem dL_law_691 : decode cL_law 691 = .ok (.iconst 0, 1) := by decide +kernel
theorem dL_law_692 : decode cL_law 692 = .ok (.aload_n 0, 1) := by decide +kernel
theorem dL_law_693 : decode cL_law 693 = .ok (.iload 5, 2) := by decide +kernel
theorem dL_law_695 : decode cL_law 695 = .ok (.iconst 3, 1) := by decide +kernel
theorem dL_law_696 : decode cL_law 696 = .ok (.iadd, 1) := by decide +kernel
theorem dL_law_697 : decode cL_law 697 = .ok (.iaload, 1) := by decide +kernel
theorem dL_law_698 : decode cL_law 698 = .ok (.ifCond .eq 7, 3) := by decide +kernel
theorem dL_law_701 : decode cL_law 701 = .ok (.iconst 1, 1) := by decide +kernel
theorem dL_law_702 : decode cL_law 702 = .ok (.goto 4, 3) := by decide +kernel
theorem dL_law_705 : decode cL_law 705 = .ok (.iconst 0, 1) := by decide +kernel
theorem dL_law_706 : decode cL_law 706 = .ok (.aload_n 0, 1) := by decide +kernel
theorem dL_law_707 : decode cL_law 707 = .ok (.iload 5, 2) := by decide +kernel
theorem dL_law_709 : decode cL_law 709 = .ok (.iconst 4, 1) := by decide +kernel
theorem dL_law_710 : decode cL_law 710 = .ok (.iadd, 1) := by decide +kernel
theorem dL_law_711 : decode cL_law 711 = .ok (.iaload, 1) := by decide +kernel
theorem dL_law_712 : decode cL_law 712 = .ok (.invokevirtual 125, 3) := by decide +kernel
theorem dL_law_715 : decode cL_law 715 = .ok (.istore 7, 2) := by decide +kernel
theorem dL_law_717 : decode cL_law 717 = .ok (.aload_n 2, 1) := by decide +kernel
theorem dL_law_718 : decode cL_law 718 = .ok (.invokevirtual 97, 3) := by decide +kernel
theorem dL_law_721 : decode cL_law 721 = .ok (.iload 6, 2) := by decide +kernel
theorem dL_law_723 : decode cL_law 723 = .ok (.if_icmp .eq 5, 3) := by decide +kernel
theorem dL_law_726 : decode cL_law 726 = .ok (.iconst 0, 1) := by decide +kernel
theorem dL_law_727 : decode cL_law 727 = .ok (.ireturn, 1) := by decide +kernel
theorem dL_law_728 : decode cL_law 728 = .ok (.iload 6, 2) := by decide +kernel
theorem dL_law_730 : decode cL_law 730 = .ok (.ifCond .ne 15, 3) := by decide +kernel
theorem dL_law_733 : decode cL_law 733 = .ok (.aload_n 3, 1) := by decide +kernel
theorem dL_law_734 : decode cL_law 734 = .ok (.iconst 0, 1) := by decide +kernel
theorem dL_law_735 : decode cL_law 735 = .ok (.laload, 1) := by decide +kernel
theorem dL_law_736 : decode cL_law 736 = .ok (.iload 7, 2) := by decide +kernel
theorem dL_law_738 : decode cL_law 738 = .ok (.i2l, 1) := by decide +kernel
theorem dL_law_739 : decode cL_law 739 = .ok (.lcmp, 1) := by decide +kernel
theorem dL_law_740 : decode cL_law 740 = .ok (.ifCond .eq 5, 3) := by decide +kernel
theorem dL_law_743 : decode cL_law 743 = .ok (.iconst 0, 1) := by decide +kernel
theorem dL_law_744 : decode cL_law 744 = .ok (.ireturn, 1) := by decide +kernel
theorem dL_law_745 : decode cL_law 745 = .ok (.goto 879, 3) := by decide +kernel
theorem dL_law_748 : decode cL_law 748 = .ok (.aload_n 1, 1) := by decide +kernel
theorem dL_law_749 : decode cL_law 749 = .ok (.aload_n 0, 1) := by decide +kernel
theorem dL_law_750 : decode cL_law 750 = .ok (.iload 5, 2) := by decide +kernel
theorem dL_law_752 : decode cL_law 752 = .ok (.iconst 1, 1) := by decide +kernel
theorem dL_law_753 : decode cL_law 753 = .ok (.iadd, 1) := by decide +kernel
theorem dL_law_754 : decode cL_law 754 = .ok (.iaload, 1) := by decide +kernel
theorem dL_law_755 : decode cL_law 755 = .ok (.ifCond .eq 7, 3) := by decide +kernel
theorem dL_law_758 : decode cL_law 758 = .ok (.iconst 1, 1) := by decide +kernel
theorem dL_law_759 : decode cL_law 759 = .ok (.goto 4, 3) := by decide +kernel
theorem dL_law_762 : decode cL_law 762 = .ok (.iconst 0, 1) := by decide +kernel
theorem dL_law_763 : decode cL_law 763 = .ok (.invokevirtual 126, 3) := by decide +kernel
theorem dL_law_766 : decode cL_law 766 = .ok (.aload_n 2, 1) := by decide +kernel
theorem dL_law_767 : decode cL_law 767 = .ok (.aload_n 0, 1) := by decide +kernel
theorem dL_law_768 : decode cL_law 768 = .ok (.iload 5, 2) := by decide +kernel
theorem dL_law_770 : decode cL_law 770 = .ok (.iconst 1, 1) := by decide +kernel
theorem dL_law_771 : decode cL_law 771 = .ok (.iadd, 1) := by decide +kernel
theorem dL_law_772 : decode cL_law 772 = .ok (.iaload, 1) := by decide +kernel
theorem dL_law_773 : decode cL_law 773 = .ok (.ifCond .eq 7, 3) := by decide +kernel
theorem dL_law_776 : decode cL_law 776 = .ok (.iconst 1, 1) := by decide +kernel
theorem dL_law_777 : decode cL_law 777 = .ok (.goto 4, 3) := by decide +kernel
theorem dL_law_780 : decode cL_law 780 = .ok (.iconst 0, 1) := by decide +kernel
theorem dL_law_781 : decode cL_law 781 = .ok (.invokevirtual 130, 3) := by decide +kernel
theorem dL_law_784 : decode cL_law 784 = .ok (.if_icmp .eq 840, 3) := by decide +kernel
theorem dL_law_787 : decode cL_law 787 = .ok (.iconst 0, 1) := by decide +kernel
theorem dL_law_788 : decode cL_law 788 = .ok (.ireturn, 1) := by decide +kernel
theorem dL_law_789 : decode cL_law 789 = .ok (.aload_n 1, 1) := by decide +kernel
theorem dL_law_790 : decode cL_law 790 = .ok (.invokevirtual 131, 3) := by decide +kernel
theorem dL_law_793 : decode cL_law 793 = .ok (.aload_n 2, 1) := by decide +kernel
theorem dL_law_794 : decode cL_law 794 = .ok (.invokevirtual 134, 3) := by decide +kernel
theorem dL_law_797 : decode cL_law 797 = .ok (.if_icmp .eq 827, 3) := by decide +kernel
theorem dL_law_800 : decode cL_law 800 = .ok (.iconst 0, 1) := by decide +kernel
theorem dL_law_801 : decode cL_law 801 = .ok (.ireturn, 1) := by decide +kernel
theorem dL_law_802 : decode cL_law 802 = .ok (.aload_n 1, 1) := by decide +kernel
theorem dL_law_803 : decode cL_law 803 = .ok (.invokevirtual 135, 3) := by decide +kernel
theorem dL_law_806 : decode cL_law 806 = .ok (.aload_n 2, 1) := by decide +kernel
theorem dL_law_807 : decode cL_law 807 = .ok (.invokevirtual 138, 3) := by decide +kernel
theorem dL_law_810 : decode cL_law 810 = .ok (.if_icmp .eq 814, 3) := by decide +kernel
theorem dL_law_813 : decode cL_law 813 = .ok (.iconst 0, 1) := by decide +kernel
theorem dL_law_814 : decode cL_law 814 = .ok (.ireturn, 1) := by decide +kernel
theorem dL_law_815 : decode cL_law 815 = .ok (.aload_n 1, 1) := by decide +kernel
theorem dL_law_816 : decode cL_law 816 = .ok (.invokevirtual 139, 3) := by decide +kernel
theorem dL_law_819 : decode cL_law 819 = .ok (.aload_n 2, 1) := by decide +kernel
theorem dL_law_820 : decode cL_law 820 = .ok (.invokevirtual 143, 3) := by decide +kernel
theorem dL_law_823 : decode cL_law 823 = .ok (.if_icmp .eq 801, 3) := by decide +kernel
theorem dL_law_826 : decode cL_law 826 = .ok (.iconst 0, 1) := by decide +kernel
theorem dL_law_827 : decode cL_law 827 = .ok (.ireturn, 1) := by decide +kernel
theorem dL_law_828 : decode cL_law 828 = .ok (.aload_n 1, 1) := by decide +kernel
theorem dL_law_829 : decode cL_law 829 = .ok (.invokevirtual 144, 3) := by decide +kernel
theorem dL_law_832 : decode cL_law 832 = .ok (.aload_n 2, 1) := by decide +kernel
theorem dL_law_833 : decode cL_law 833 = .ok (.invokevirtual 147, 3) := by decide +kernel
theorem dL_law_836 : decode cL_law 836 = .ok (.if_icmp .eq 788, 3) := by decide +kernel
theorem dL_law_839 : decode cL_law 839 = .ok (.iconst 0, 1) := by decide +kernel
theorem dL_law_840 : decode cL_law 840 = .ok (.ireturn, 1) := by decide +kernel
theorem dL_law_841 : decode cL_law 841 = .ok (.aload_n 1, 1) := by decide +kernel
theorem dL_law_842 : decode cL_law 842 = .ok (.aload_n 0, 1) := by decide +kernel
theorem dL_law_843 : decode cL_law 843 = .ok (.iload 5, 2) := by decide +kernel
theorem dL_law_845 : decode cL_law 845 = .ok (.iconst 1, 1) := by decide +kernel
theorem dL_law_846 : decode cL_law 846 = .ok (.iadd, 1) := by decide +kernel
theorem dL_law_847 : decode cL_law 847 = .ok (.iaload, 1) := by decide +kernel
theorem dL_law_848 : decode cL_law 848 = .ok (.aload_n 3, 1) := by decide +kernel
theorem dL_law_849 : decode cL_law 849 = .ok (.invokestatic 148, 3) := by decide +kernel
theorem dL_law_852 : decode cL_law 852 = .ok (.istore 6, 2) := by decide +kernel
theorem dL_law_854 : decode cL_law 854 = .ok (.aload_n 2, 1) := by decide +kernel
theorem dL_law_855 : decode cL_law 855 = .ok (.aload_n 0, 1) := by decide +kernel
theorem dL_law_856 : decode cL_law 856 = .ok (.iload 5, 2) := by decide +kernel
theorem dL_law_858 : decode cL_law 858 = .ok (.iconst 1, 1) := by decide +kernel
theorem dL_law_859 : decode cL_law 859 = .ok (.iadd, 1) := by decide +kernel
theorem dL_law_860 : decode cL_law 860 = .ok (.iaload, 1) := by decide +kernel
theorem dL_law_861 : decode cL_law 861 = .ok (.invokevirtual 150, 3) := by decide +kernel
theorem dL_law_864 : decode cL_law 864 = .ok (.istore 7, 2) := by decide +kernel
theorem dL_law_866 : decode cL_law 866 = .ok (.aload_n 2, 1) := by decide +kernel
theorem dL_law_867 : decode cL_law 867 = .ok (.invokevirtual 97, 3) := by decide +kernel
theorem dL_law_870 : decode cL_law 870 = .ok (.iload 6, 2) := by decide +kernel
theorem dL_law_872 : decode cL_law 872 = .ok (.if_icmp .eq 5, 3) := by decide +kernel
theorem dL_law_875 : decode cL_law 875 = .ok (.iconst 0, 1) := by decide +kernel
theorem dL_law_876 : decode cL_law 876 = .ok (.ireturn, 1) := by decide +kernel
theorem dL_law_877 : decode cL_law 877 = .ok (.iload 6, 2) := by decide +kernel
theorem dL_law_879 : decode cL_law 879 = .ok (.ifCond .ne 15, 3) := by decide +kernel
theorem dL_law_882 : decode cL_law 882 = .ok (.aload_n 3, 1) := by decide +kernel
theorem dL_law_883 : decode cL_law 883 = .ok (.iconst 0, 1) := by decide +kernel
theorem dL_law_884 : decode cL_law 884 = .ok (.laload, 1) := by decide +kernel
theorem dL_law_885 : decode cL_law 885 = .ok (.iload 7, 2) := by decide +kernel
theorem dL_law_887 : decode cL_law 887 = .ok (.i2l, 1) := by decide +kernel
theorem dL_law_888 : decode cL_law 888 = .ok (.lcmp, 1) := by decide +kernel
theorem dL_law_889 : decode cL_law 889 = .ok (.ifCond .eq 5, 3) := by decide +kernel
theorem dL_law_892 : decode cL_law 892 = .ok (.iconst 0, 1) := by decide +kernel
theorem dL_law_893 : decode cL_law 893 = .ok (.ireturn, 1) := by decide +kernel
theorem dL_law_894 : decode cL_law 894 = .ok (.goto 730, 3) := by decide +kernel
theorem dL_law_897 : decode cL_law 897 = .ok (.aload_n 1, 1) := by decide +kernel
theorem dL_law_898 : decode cL_law 898 = .ok (.aload_n 3, 1) := by decide +kernel
theorem dL_law_899 : decode cL_law 899 = .ok (.invokestatic 151, 3) := by decide +kernel
theorem dL_law_902 : decode cL_law 902 = .ok (.istore 6, 2) := by decide +kernel
theorem dL_law_904 : decode cL_law 904 = .ok (.aload_n 2, 1) := by decide +kernel
theorem dL_law_905 : decode cL_law 905 = .ok (.invokevirtual 154, 3) := by decide +kernel
theorem dL_law_908 : decode cL_law 908 = .ok (.istore 7, 2) := by decide +kernel
theorem dL_law_910 : decode cL_law 910 = .ok (.aload_n 2, 1) := by decide +kernel
theorem dL_law_911 : decode cL_law 911 = .ok (.invokevirtual 97, 3) := by decide +kernel
theorem dL_law_914 : decode cL_law 914 = .ok (.iload 6, 2) := by decide +kernel
theorem dL_law_916 : decode cL_law 916 = .ok (.if_icmp .eq 5, 3) := by decide +kernel
theorem dL_law_919 : decode cL_law 919 = .ok (.iconst 0, 1) := by decide +kernel
theorem dL_law_920 : decode cL_law 920 = .ok (.ireturn, 1) := by decide +kernel
theorem dL_law_921 : decode cL_law 921 = .ok (.iload 6, 2) := by decide +kernel
theorem dL_law_923 : decode cL_law 923 = .ok (.ifCond .ne 15, 3) := by decide +kernel
theorem dL_law_926 : decode cL_law 926 = .ok (.aload_n 3, 1) := by decide +kernel
theorem dL_law_927 : decode cL_law 927 = .ok (.iconst 0, 1) := by decide +kernel
theorem dL_law_928 : decode cL_law 928 = .ok (.laload, 1) := by decide +kernel
theorem dL_law_929 : decode cL_law 929 = .ok (.iload 7, 2) := by decide +kernel
theorem dL_law_931 : decode cL_law 931 = .ok (.i2l, 1) := by decide +kernel
theorem dL_law_932 : decode cL_law 932 = .ok (.lcmp, 1) := by decide +kernel
theorem dL_law_933 : decode cL_law 933 = .ok (.ifCond .eq 5, 3) := by decide +kernel
theorem dL_law_936 : decode cL_law 936 = .ok (.iconst 0, 1) := by decide +kernel
theorem dL_law_937 : decode cL_law 937 = .ok (.ireturn, 1) := by decide +kernel
theorem dL_law_938 : decode cL_law 938 = .ok (.goto 686, 3) := by decide +kernel
theorem dL_law_941 : decode cL_law 941 = .ok (.aload_n 1, 1) := by decide +kernel
theorem dL_law_942 : decode cL_law 942 = .ok (.aload_n 0, 1) := by decide +kernel
theorem dL_law_943 : decode cL_law 943 = .ok (.iload 5, 2) := by decide +kernel
theorem dL_law_945 : decode cL_law 945 = .ok (.iconst 1, 1) := by decide +kernel
theorem dL_law_946 : decode cL_law 946 = .ok (.iadd, 1) := by decide +kernel
theorem dL_law_947 : decode cL_law 947 = .ok (.iaload, 1) := by decide +kernel
theorem dL_law_948 : decode cL_law 948 = .ok (.aload_n 3, 1) := by decide +kernel
theorem dL_law_949 : decode cL_law 949 = .ok (.invokestatic 155, 3) := by decide +kernel
theorem dL_law_952 : decode cL_law 952 = .ok (.istore 6, 2) := by decide +kernel
theorem dL_law_954 : decode cL_law 954 = .ok (.aload_n 2, 1) := by decide +kernel
theorem dL_law_955 : decode cL_law 955 = .ok (.aload_n 0, 1) := by decide +kernel
theorem dL_law_956 : decode cL_law 956 = .ok (.iload 5, 2) := by decide +kernel
theorem dL_law_958 : decode cL_law 958 = .ok (.iconst 1, 1) := by decide +kernel
theorem dL_law_959 : decode cL_law 959 = .ok (.iadd, 1) := by decide +kernel
theorem dL_law_960 : decode cL_law 960 = .ok (.iaload, 1) := by decide +kernel
theorem dL_law_961 : decode cL_law 961 = .ok (.invokevirtual 157, 3) := by decide +kernel
theorem dL_law_964 : decode cL_law 964 = .ok (.istore 7, 2) := by decide +kernel
theorem dL_law_966 : decode cL_law 966 = .ok (.aload_n 2, 1) := by decide +kernel
theorem dL_law_967 : decode cL_law 967 = .ok (.invokevirtual 97, 3) := by decide +kernel
theorem dL_law_970 : decode cL_law 970 = .ok (.iload 6, 2) := by decide +kernel
theorem dL_law_972 : decode cL_law 972 = .ok (.if_icmp .eq 5, 3) := by decide +kernel
theorem dL_law_975 : decode cL_law 975 = .ok (.iconst 0, 1) := by decide +kernel
theorem dL_law_976 : decode cL_law 976 = .ok (.ireturn, 1) := by decide +kernel
theorem dL_law_977 : decode cL_law 977 = .ok (.iload 6, 2) := by decide +kernel
theorem dL_law_979 : decode cL_law 979 = .ok (.ifCond .ne 15, 3) := by decide +kernel
theorem dL_law_982 : decode cL_law 982 = .ok (.aload_n 3, 1) := by decide +kernel
theorem dL_law_983 : decode cL_law 983 = .ok (.iconst 0, 1) := by decide +kernel
theorem dL_law_984 : decode cL_law 984 = .ok (.laload, 1) := by decide +kernel
theorem dL_law_985 : decode cL_law 985 = .ok (.iload 7, 2) := by decide +kernel
theorem dL_law_987 : decode cL_law 987 = .ok (.i2l, 1) := by decide +kernel
theorem dL_law_988 : decode cL_law 988 = .ok (.lcmp, 1) := by decide +kernel
theorem dL_law_989 : decode cL_law 989 = .ok (.ifCond .eq 5, 3) := by decide +kernel
theorem dL_law_992 : decode cL_law 992 = .ok (.iconst 0, 1) := by decide +kernel
theorem dL_law_993 : decode cL_law 993 = .ok (.ireturn, 1) := by decide +kernel
theorem dL_law_994 : decode cL_law 994 = .ok (.goto 630, 3) := by decide +kernel
theorem dL_law_997 : decode cL_law 997 = .ok (.aload_n 1, 1) := by decide +kernel
theorem dL_law_998 : decode cL_law 998 = .ok (.aload_n 0, 1) := by decide +kernel
theorem dL_law_999 : decode cL_law 999 = .ok (.iload 5, 2) := by decide +kernel
theorem dL_law_1001 : decode cL_law 1001 = .ok (.iconst 1, 1) := by decide +kernel
theorem dL_law_1002 : decode cL_law 1002 = .ok (.iadd, 1) := by decide +kernel
theorem dL_law_1003 : decode cL_law 1003 = .ok (.iaload, 1) := by decide +kernel
theorem dL_law_1004 : decode cL_law 1004 = .ok (.aload_n 3, 1) := by decide +kernel
theorem dL_law_1005 : decode cL_law 1005 = .ok (.invokestatic 158, 3) := by decide +kernel
theorem dL_law_1008 : decode cL_law 1008 = .ok (.istore 6, 2) := by decide +kernel
theorem dL_law_1010 : decode cL_law 1010 = .ok (.aload_n 2, 1) := by decide +kernel
theorem dL_law_1011 : decode cL_law 1011 = .ok (.aload_n 0, 1) := by decide +kernel
theorem dL_law_1012 : decode cL_law 1012 = .ok (.iload 5, 2) := by decide +kernel
theorem dL_law_1014 : decode cL_law 1014 = .ok (.iconst 1, 1) := by decide +kernel
theorem dL_law_1015 : decode cL_law 1015 = .ok (.iadd, 1) := by decide +kernel
theorem dL_law_1016 : decode cL_law 1016 = .ok (.iaload, 1) := by decide +kernel
theorem dL_law_1017 : decode cL_law 1017 = .ok (.invokevirtual 160, 3) := by decide +kernel
theorem dL_law_1020 : decode cL_law 1020 = .ok (.istore 7, 2) := by decide +kernel
theorem dL_law_1022 : decode cL_law 1022 = .ok (.aload_n 2, 1) := by decide +kernel
theorem dL_law_1023 : decode cL_law 1023 = .ok (.invokevirtual 97, 3) := by decide +kernel
theorem dL_law_1026 : decode cL_law 1026 = .ok (.iload 6, 2) := by decide +kernel
theorem dL_law_1028 : decode cL_law 1028 = .ok (.if_icmp .eq 5, 3) := by decide +kernel
theorem dL_law_1031 : decode cL_law 1031 = .ok (.iconst 0, 1) := by decide +kernel
theorem dL_law_1032 : decode cL_law 1032 = .ok (.ireturn, 1) := by decide +kernel
theorem dL_law_1033 : decode cL_law 1033 = .ok (.iload 6, 2) := by decide +kernel
theorem dL_law_1035 : decode cL_law 1035 = .ok (.ifCond .ne 15, 3) := by decide +kernel
theorem dL_law_1038 : decode cL_law 1038 = .ok (.aload_n 3, 1) := by decide +kernel
theorem dL_law_1039 : decode cL_law 1039 = .ok (.iconst 0, 1) := by decide +kernel
theorem dL_law_1040 : decode cL_law 1040 = .ok (.laload, 1) := by decide +kernel
theorem dL_law_1041 : decode cL_law 1041 = .ok (.iload 7, 2) := by decide +kernel
theorem dL_law_1043 : decode cL_law 1043 = .ok (.i2l, 1) := by decide +kernel
theorem dL_law_1044 : decode cL_law 1044 = .ok (.lcmp, 1) := by decide +kernel
theorem dL_law_1045 : decode cL_law 1045 = .ok (.ifCond .eq 5, 3) := by decide +kernel
theorem dL_law_1048 : decode cL_law 1048 = .ok (.iconst 0, 1) := by decide +kernel
theorem dL_law_1049 : decode cL_law 1049 = .ok (.ireturn, 1) := by decide +kernel
theorem dL_law_1050 : decode cL_law 1050 = .ok (.goto 574, 3) := by decide +kernel
theorem dL_law_1053 : decode cL_law 1053 = .ok (.aload_n 1, 1) := by decide +kernel
theorem dL_law_1054 : decode cL_law 1054 = .ok (.aload_n 0, 1) := by decide +kernel
theorem dL_law_1055 : decode cL_law 1055 = .ok (.iload 5, 2) := by decide +kernel
theorem dL_law_1057 : decode cL_law 1057 = .ok (.iconst 1, 1) := by decide +kernel
theorem dL_law_1058 : decode cL_law 1058 = .ok (.iadd, 1) := by decide +kernel
theorem dL_law_1059 : decode cL_law 1059 = .ok (.iaload, 1) := by decide +kernel
theorem dL_law_1060 : decode cL_law 1060 = .ok (.aload_n 3, 1) := by decide +kernel
theorem dL_law_1061 : decode cL_law 1061 = .ok (.invokestatic 161, 3) := by decide +kernel
theorem dL_law_1064 : decode cL_law 1064 = .ok (.istore 6, 2) := by decide +kernel
theorem dL_law_1066 : decode cL_law 1066 = .ok (.aload_n 2, 1) := by decide +kernel
theorem dL_law_1067 : decode cL_law 1067 = .ok (.aload_n 0, 1) := by decide +kernel
theorem dL_law_1068 : decode cL_law 1068 = .ok (.iload 5, 2) := by decide +kernel
theorem dL_law_1070 : decode cL_law 1070 = .ok (.iconst 1, 1) := by decide +kernel
theorem dL_law_1071 : decode cL_law 1071 = .ok (.iadd, 1) := by decide +kernel
theorem dL_law_1072 : decode cL_law 1072 = .ok (.iaload, 1) := by decide +kernel
theorem dL_law_1073 : decode cL_law 1073 = .ok (.invokevirtual 163, 3) := by decide +kernel
theorem dL_law_1076 : decode cL_law 1076 = .ok (.istore 7, 2) := by decide +kernel
theorem dL_law_1078 : decode cL_law 1078 = .ok (.aload_n 2, 1) := by decide +kernel
theorem dL_law_1079 : decode cL_law 1079 = .ok (.invokevirtual 97, 3) := by decide +kernel
theorem dL_law_1082 : decode cL_law 1082 = .ok (.iload 6, 2) := by decide +kernel
theorem dL_law_1084 : decode cL_law 1084 = .ok (.if_icmp .eq 5, 3) := by decide +kernel
theorem dL_law_1087 : decode cL_law 1087 = .ok (.iconst 0, 1) := by decide +kernel
theorem dL_law_1088 : decode cL_law 1088 = .ok (.ireturn, 1) := by decide +kernel
theorem dL_law_1089 : decode cL_law 1089 = .ok (.iload 6, 2) := by decide +kernel
theorem dL_law_1091 : decode cL_law 1091 = .ok (.ifCond .ne 15, 3) := by decide +kernel
theorem dL_law_1094 : decode cL_law 1094 = .ok (.aload_n 3, 1) := by decide +kernel
theorem dL_law_1095 : decode cL_law 1095 = .ok (.iconst 0, 1) := by decide +kernel
theorem dL_law_1096 : decode cL_law 1096 = .ok (.laload, 1) := by decide +kernel
theorem dL_law_1097 : decode cL_law 1097 = .ok (.iload 7, 2) := by decide +kernel
theorem dL_law_1099 : decode cL_law 1099 = .ok (.i2l, 1) := by decide +kernel
theorem dL_law_1100 : decode cL_law 1100 = .ok (.lcmp, 1) := by decide +kernel
theorem dL_law_1101 : decode cL_law 1101 = .ok (.ifCond .eq 5, 3) := by decide +kernel
theorem dL_law_1104 : decode cL_law 1104 = .ok (.iconst 0, 1) := by decide +kernel
theorem dL_law_1105 : decode cL_law 1105 = .ok (.ireturn, 1) := by decide +kernel
theorem dL_law_1106 : decode cL_law 1106 = .ok (.goto 518, 3) := by decide +kernel
theorem dL_law_1109 : decode cL_law 1109 = .ok (.aload_n 1, 1) := by decide +kernel
theorem dL_law_1110 : decode cL_law 1110 = .ok (.aload_n 0, 1) := by decide +kernel
theorem dL_law_1111 : decode cL_law 1111 = .ok (.iload 5, 2) := by decide +kernel
theorem dL_law_1113 : decode cL_law 1113 = .ok (.iconst 1, 1) := by decide +kernel
theorem dL_law_1114 : decode cL_law 1114 = .ok (.iadd, 1) := by decide +kernel
theorem dL_law_1115 : decode cL_law 1115 = .ok (.iaload, 1) := by decide +kernel
theorem dL_law_1116 : decode cL_law 1116 = .ok (.aload_n 3, 1) := by decide +kernel
theorem dL_law_1117 : decode cL_law 1117 = .ok (.invokestatic 164, 3) := by decide +kernel
theorem dL_law_1120 : decode cL_law 1120 = .ok (.istore 6, 2) := by decide +kernel
theorem dL_law_1122 : decode cL_law 1122 = .ok (.aload_n 2, 1) := by decide +kernel
theorem dL_law_1123 : decode cL_law 1123 = .ok (.aload_n 0, 1) := by decide +kernel
theorem dL_law_1124 : decode cL_law 1124 = .ok (.iload 5, 2) := by decide +kernel
theorem dL_law_1126 : decode cL_law 1126 = .ok (.iconst 1, 1) := by decide +kernel
theorem dL_law_1127 : decode cL_law 1127 = .ok (.iadd, 1) := by decide +kernel
theorem dL_law_1128 : decode cL_law 1128 = .ok (.iaload, 1) := by decide +kernel
theorem dL_law_1129 : decode cL_law 1129 = .ok (.invokevirtual 166, 3) := by decide +kernel
theorem dL_law_1132 : decode cL_law 1132 = .ok (.istore 7, 2) := by decide +kernel
theorem dL_law_1134 : decode cL_law 1134 = .ok (.aload_n 2, 1) := by decide +kernel
theorem dL_law_1135 : decode cL_law 1135 = .ok (.invokevirtual 97, 3) := by decide +kernel
theorem dL_law_1138 : decode cL_law 1138 = .ok (.iload 6, 2) := by decide +kernel
theorem dL_law_1140 : decode cL_law 1140 = .ok (.if_icmp .eq 5, 3) := by decide +kernel
theorem dL_law_1143 : decode cL_law 1143 = .ok (.iconst 0, 1) := by decide +kernel
theorem dL_law_1144 : decode cL_law 1144 = .ok (.ireturn, 1) := by decide +kernel
theorem dL_law_1145 : decode cL_law 1145 = .ok (.iload 6, 2) := by decide +kernel
theorem dL_law_1147 : decode cL_law 1147 = .ok (.ifCond .ne 15, 3) := by decide +kernel
theorem dL_law_1150 : decode cL_law 1150 = .ok (.aload_n 3, 1) := by decide +kernel
theorem dL_law_1151 : decode cL_law 1151 = .ok (.iconst 0, 1) := by decide +kernel
theorem dL_law_1152 : decode cL_law 1152 = .ok (.laload, 1) := by decide +kernel
theorem dL_law_1153 : decode cL_law 1153 = .ok (.iload 7, 2) := by decide +kernel
theorem dL_law_1155 : decode cL_law 1155 = .ok (.i2l, 1) := by decide +kernel
theorem dL_law_1156 : decode cL_law 1156 = .ok (.lcmp, 1) := by decide +kernel
theorem dL_law_1157 : decode cL_law 1157 = .ok (.ifCond .eq 5, 3) := by decide +kernel
theorem dL_law_1160 : decode cL_law 1160 = .ok (.iconst 0, 1) := by decide +kernel
theorem dL_law_1161 : decode cL_law 1161 = .ok (.ireturn, 1) := by decide +kernel
theorem dL_law_1162 : decode cL_law 1162 = .ok (.goto 462, 3) := by decide +kernel
theorem dL_law_1165 : decode cL_law 1165 = .ok (.aload_n 1, 1) := by decide +kernel
theorem dL_law_1166 : decode cL_law 1166 = .ok (.aload_n 0, 1) := by decide +kernel
theorem dL_law_1167 : decode cL_law 1167 = .ok (.iload 5, 2) := by decide +kernel
theorem dL_law_1169 : decode cL_law 1169 = .ok (.iconst 1, 1) := by decide +kernel
theorem dL_law_1170 : decode cL_law 1170 = .ok (.iadd, 1) := by decide +kernel
theorem dL_law_1171 : decode cL_law 1171 = .ok (.iaload, 1) := by decide +kernel
theorem dL_law_1172 : decode cL_law 1172 = .ok (.aload_n 3, 1) := by decide +kernel
theorem dL_law_1173 : decode cL_law 1173 = .ok (.invokestatic 167, 3) := by decide +kernel
theorem dL_law_1176 : decode cL_law 1176 = .ok (.istore 6, 2) := by decide +kernel
theorem dL_law_1178 : decode cL_law 1178 = .ok (.aload_n 2, 1) := by decide +kernel
theorem dL_law_1179 : decode cL_law 1179 = .ok (.aload_n 0, 1) := by decide +kernel
theorem dL_law_1180 : decode cL_law 1180 = .ok (.iload 5, 2) := by decide +kernel
theorem dL_law_1182 : decode cL_law 1182 = .ok (.iconst 1, 1) := by decide +kernel
theorem dL_law_1183 : decode cL_law 1183 = .ok (.iadd, 1) := by decide +kernel
theorem dL_law_1184 : decode cL_law 1184 = .ok (.iaload, 1) := by decide +kernel
theorem dL_law_1185 : decode cL_law 1185 = .ok (.invokevirtual 169, 3) := by decide +kernel
theorem dL_law_1188 : decode cL_law 1188 = .ok (.istore 7, 2) := by decide +kernel
theorem dL_law_1190 : decode cL_law 1190 = .ok (.aload_n 2, 1) := by decide +kernel
theorem dL_law_1191 : decode cL_law 1191 = .ok (.invokevirtual 97, 3) := by decide +kernel
theorem dL_law_1194 : decode cL_law 1194 = .ok (.iload 6, 2) := by decide +kernel
theorem dL_law_1196 : decode cL_law 1196 = .ok (.if_icmp .eq 5, 3) := by decide +kernel
theorem dL_law_1199 : decode cL_law 1199 = .ok (.iconst 0, 1) := by decide +kernel
theorem dL_law_1200 : decode cL_law 1200 = .ok (.ireturn, 1) := by decide +kernel
theorem dL_law_1201 : decode cL_law 1201 = .ok (.iload 6, 2) := by decide +kernel
theorem dL_law_1203 : decode cL_law 1203 = .ok (.ifCond .ne 15, 3) := by decide +kernel
theorem dL_law_1206 : decode cL_law 1206 = .ok (.aload_n 3, 1) := by decide +kernel
theorem dL_law_1207 : decode cL_law 1207 = .ok (.iconst 0, 1) := by decide +kernel
theorem dL_law_1208 : decode cL_law 1208 = .ok (.laload, 1) := by decide +kernel
theorem dL_law_1209 : decode cL_law 1209 = .ok (.iload 7, 2) := by decide +kernel
theorem dL_law_1211 : decode cL_law 1211 = .ok (.i2l, 1) := by decide +kernel
theorem dL_law_1212 : decode cL_law 1212 = .ok (.lcmp, 1) := by decide +kernel
theorem dL_law_1213 : decode cL_law 1213 = .ok (.ifCond .eq 5, 3) := by decide +kernel
theorem dL_law_1216 : decode cL_law 1216 = .ok (.iconst 0, 1) := by decide +kernel
theorem dL_law_1217 : decode cL_law 1217 = .ok (.ireturn, 1) := by decide +kernel
theorem dL_law_1218 : decode cL_law 1218 = .ok (.goto 406, 3) := by decide +kernel
theorem dL_law_1221 : decode cL_law 1221 = .ok (.aload_n 1, 1) := by decide +kernel
theorem dL_law_1222 : decode cL_law 1222 = .ok (.aload_n 0, 1) := by decide +kernel
theorem dL_law_1223 : decode cL_law 1223 = .ok (.iload 5, 2) := by decide +kernel
theorem dL_law_1225 : decode cL_law 1225 = .ok (.iconst 1, 1) := by decide +kernel
theorem dL_law_1226 : decode cL_law 1226 = .ok (.iadd, 1) := by decide +kernel
theorem dL_law_1227 : decode cL_law 1227 = .ok (.iaload, 1) := by decide +kernel
theorem dL_law_1228 : decode cL_law 1228 = .ok (.aload_n 3, 1) := by decide +kernel
theorem dL_law_1229 : decode cL_law 1229 = .ok (.invokestatic 170, 3) := by decide +kernel
theorem dL_law_1232 : decode cL_law 1232 = .ok (.istore 6, 2) := by decide +kernel
theorem dL_law_1234 : decode cL_law 1234 = .ok (.aload_n 2, 1) := by decide +kernel
theorem dL_law_1235 : decode cL_law 1235 = .ok (.aload_n 0, 1) := by decide +kernel
theorem dL_law_1236 : decode cL_law 1236 = .ok (.iload 5, 2) := by decide +kernel
theorem dL_law_1238 : decode cL_law 1238 = .ok (.iconst 1, 1) := by decide +kernel
theorem dL_law_1239 : decode cL_law 1239 = .ok (.iadd, 1) := by decide +kernel
theorem dL_law_1240 : decode cL_law 1240 = .ok (.iaload, 1) := by decide +kernel
theorem dL_law_1241 : decode cL_law 1241 = .ok (.invokevirtual 172, 3) := by decide +kernel
theorem dL_law_1244 : decode cL_law 1244 = .ok (.istore 7, 2) := by decide +kernel
theorem dL_law_1246 : decode cL_law 1246 = .ok (.aload_n 2, 1) := by decide +kernel
theorem dL_law_1247 : decode cL_law 1247 = .ok (.invokevirtual 97, 3) := by decide +kernel
theorem dL_law_1250 : decode cL_law 1250 = .ok (.iload 6, 2) := by decide +kernel
theorem dL_law_1252 : decode cL_law 1252 = .ok (.if_icmp .eq 5, 3) := by decide +kernel
theorem dL_law_1255 : decode cL_law 1255 = .ok (.iconst 0, 1) := by decide +kernel
theorem dL_law_1256 : decode cL_law 1256 = .ok (.ireturn, 1) := by decide +kernel
theorem dL_law_1257 : decode cL_law 1257 = .ok (.iload 6, 2) := by decide +kernel
theorem dL_law_1259 : decode cL_law 1259 = .ok (.ifCond .ne 15, 3) := by decide +kernel
theorem dL_law_1262 : decode cL_law 1262 = .ok (.aload_n 3, 1) := by decide +kernel
theorem dL_law_1263 : decode cL_law 1263 = .ok (.iconst 0, 1) := by decide +kernel
theorem dL_law_1264 : decode cL_law 1264 = .ok (.laload, 1) := by decide +kernel
theorem dL_law_1265 : decode cL_law 1265 = .ok (.iload 7, 2) := by decide +kernel
theorem dL_law_1267 : decode cL_law 1267 = .ok (.i2l, 1) := by decide +kernel
theorem dL_law_1268 : decode cL_law 1268 = .ok (.lcmp, 1) := by decide +kernel
theorem dL_law_1269 : decode cL_law 1269 = .ok (.ifCond .eq 5, 3) := by decide +kernel
theorem dL_law_1272 : decode cL_law 1272 = .ok (.iconst 0, 1) := by decide +kernel
theorem dL_law_1273 : decode cL_law 1273 = .ok (.ireturn, 1) := by decide +kernel
theorem dL_law_1274 : decode cL_law 1274 = .ok (.goto 350, 3) := by decide +kernel
theorem dL_law_1277 : decode cL_law 1277 = .ok (.aload_n 1, 1) := by decide +kernel
theorem dL_law_1278 : decode cL_law 1278 = .ok (.aload_n 0, 1) := by decide +kernel
theorem dL_law_1279 : decode cL_law 1279 = .ok (.iload 5, 2) := by decide +kernel
theorem dL_law_1281 : decode cL_law 1281 = .ok (.iconst 1, 1) := by decide +kernel
theorem dL_law_1282 : decode cL_law 1282 = .ok (.iadd, 1) := by decide +kernel
theorem dL_law_1283 : decode cL_law 1283 = .ok (.iaload, 1) := by decide +kernel
theorem dL_law_1284 : decode cL_law 1284 = .ok (.aload_n 3, 1) := by decide +kernel
theorem dL_law_1285 : decode cL_law 1285 = .ok (.invokestatic 173, 3) := by decide +kernel
theorem dL_law_1288 : decode cL_law 1288 = .ok (.istore 6, 2) := by decide +kernel
theorem dL_law_1290 : decode cL_law 1290 = .ok (.aload_n 2, 1) := by decide +kernel
theorem dL_law_1291 : decode cL_law 1291 = .ok (.aload_n 0, 1) := by decide +kernel
theorem dL_law_1292 : decode cL_law 1292 = .ok (.iload 5, 2) := by decide +kernel
theorem dL_law_1294 : decode cL_law 1294 = .ok (.iconst 1, 1) := by decide +kernel
theorem dL_law_1295 : decode cL_law 1295 = .ok (.iadd, 1) := by decide +kernel
theorem dL_law_1296 : decode cL_law 1296 = .ok (.iaload, 1) := by decide +kernel
theorem dL_law_1297 : decode cL_law 1297 = .ok (.invokevirtual 175, 3) := by decide +kernel
theorem dL_law_1300 : decode cL_law 1300 = .ok (.istore 7, 2) := by decide +kernel
theorem dL_law_1302 : decode cL_law 1302 = .ok (.aload_n 2, 1) := by decide +kernel
theorem dL_law_1303 : decode cL_law 1303 = .ok (.invokevirtual 97, 3) := by decide +kernel
theorem dL_law_1306 : decode cL_law 1306 = .ok (.iload 6, 2) := by decide +kernel
theorem dL_law_1308 : decode cL_law 1308 = .ok (.if_icmp .eq 5, 3) := by decide +kernel
theorem dL_law_1311 : decode cL_law 1311 = .ok (.iconst 0, 1) := by decide +kernel
theorem dL_law_1312 : decode cL_law 1312 = .ok (.ireturn, 1) := by decide +kernel
theorem dL_law_1313 : decode cL_law 1313 = .ok (.iload 6, 2) := by decide +kernel
theorem dL_law_1315 : decode cL_law 1315 = .ok (.ifCond .ne 15, 3) := by decide +kernel
theorem dL_law_1318 : decode cL_law 1318 = .ok (.aload_n 3, 1) := by decide +kernel
theorem dL_law_1319 : decode cL_law 1319 = .ok (.iconst 0, 1) := by decide +kernel
theorem dL_law_1320 : decode cL_law 1320 = .ok (.laload, 1) := by decide +kernel
theorem dL_law_1321 : decode cL_law 1321 = .ok (.iload 7, 2) := by decide +kernel
theorem dL_law_1323 : decode cL_law 1323 = .ok (.i2l, 1) := by decide +kernel
theorem dL_law_1324 : decode cL_law 1324 = .ok (.lcmp, 1) := by decide +kernel
theorem dL_law_1325 : decode cL_law 1325 = .ok (.ifCond .eq 5, 3) := by decide +kernel
theorem dL_law_1328 : decode cL_law 1328 = .ok (.iconst 0, 1) := by decide +kernel
theorem dL_law_1329 : decode cL_law 1329 = .ok (.ireturn, 1) := by decide +kernel
theorem dL_law_1330 : decode cL_law 1330 = .ok (.goto 294, 3) := by decide +kernel
theorem dL_law_1333 : decode cL_law 1333 = .ok (.aload_n 1, 1) := by decide +kernel
theorem dL_law_1334 : decode cL_law 1334 = .ok (.aload_n 0, 1) := by decide +kernel
theorem dL_law_1335 : decode cL_law 1335 = .ok (.iload 5, 2) := by decide +kernel
theorem dL_law_1337 : decode cL_law 1337 = .ok (.iconst 1, 1) := by decide +kernel
theorem dL_law_1338 : decode cL_law 1338 = .ok (.iadd, 1) := by decide +kernel
theorem dL_law_1339 : decode cL_law 1339 = .ok (.iaload, 1) := by decide +kernel
theorem dL_law_1340 : decode cL_law 1340 = .ok (.aload_n 3, 1) := by decide +kernel
theorem dL_law_1341 : decode cL_law 1341 = .ok (.invokestatic 176, 3) := by decide +kernel
theorem dL_law_1344 : decode cL_law 1344 = .ok (.istore 6, 2) := by decide +kernel
theorem dL_law_1346 : decode cL_law 1346 = .ok (.aload_n 2, 1) := by decide +kernel
theorem dL_law_1347 : decode cL_law 1347 = .ok (.aload_n 0, 1) := by decide +kernel
theorem dL_law_1348 : decode cL_law 1348 = .ok (.iload 5, 2) := by decide +kernel
theorem dL_law_1350 : decode cL_law 1350 = .ok (.iconst 1, 1) := by decide +kernel
theorem dL_law_1351 : decode cL_law 1351 = .ok (.iadd, 1) := by decide +kernel
theorem dL_law_1352 : decode cL_law 1352 = .ok (.iaload, 1) := by decide +kernel
theorem dL_law_1353 : decode cL_law 1353 = .ok (.invokevirtual 178, 3) := by decide +kernel
theorem dL_law_1356 : decode cL_law 1356 = .ok (.istore 7, 2) := by decide +kernel
theorem dL_law_1358 : decode cL_law 1358 = .ok (.aload_n 2, 1) := by decide +kernel
theorem dL_law_1359 : decode cL_law 1359 = .ok (.invokevirtual 97, 3) := by decide +kernel
theorem dL_law_1362 : decode cL_law 1362 = .ok (.iload 6, 2) := by decide +kernel
theorem dL_law_1364 : decode cL_law 1364 = .ok (.if_icmp .eq 5, 3) := by decide +kernel
theorem dL_law_1367 : decode cL_law 1367 = .ok (.iconst 0, 1) := by decide +kernel
theorem dL_law_1368 : decode cL_law 1368 = .ok (.ireturn, 1) := by decide +kernel
theorem dL_law_1369 : decode cL_law 1369 = .ok (.iload 6, 2) := by decide +kernel
theorem dL_law_1371 : decode cL_law 1371 = .ok (.ifCond .ne 15, 3) := by decide +kernel
theorem dL_law_1374 : decode cL_law 1374 = .ok (.aload_n 3, 1) := by decide +kernel
theorem dL_law_1375 : decode cL_law 1375 = .ok (.iconst 0, 1) := by decide +kernel
theorem dL_law_1376 : decode cL_law 1376 = .ok (.laload, 1) := by decide +kernel
theorem dL_law_1377 : decode cL_law 1377 = .ok (.iload 7, 2) := by decide +kernel
theorem dL_law_1379 : decode cL_law 1379 = .ok (.i2l, 1) := by decide +kernel
theorem dL_law_1380 : decode cL_law 1380 = .ok (.lcmp, 1) := by decide +kernel
theorem dL_law_1381 : decode cL_law 1381 = .ok (.ifCond .eq 5, 3) := by decide +kernel
theorem dL_law_1384 : decode cL_law 1384 = .ok (.iconst 0, 1) := by decide +kernel
theorem dL_law_1385 : decode cL_law 1385 = .ok (.ireturn, 1) := by decide +kernel
theorem dL_law_1386 : decode cL_law 1386 = .ok (.goto 238, 3) := by decide +kernel
theorem dL_law_1389 : decode cL_law 1389 = .ok (.aload_n 1, 1) := by decide +kernel
theorem dL_law_1390 : decode cL_law 1390 = .ok (.aload_n 0, 1) := by decide +kernel
theorem dL_law_1391 : decode cL_law 1391 = .ok (.iload 5, 2) := by decide +kernel
theorem dL_law_1393 : decode cL_law 1393 = .ok (.iconst 1, 1) := by decide +kernel
theorem dL_law_1394 : decode cL_law 1394 = .ok (.iadd, 1) := by decide +kernel
theorem dL_law_1395 : decode cL_law 1395 = .ok (.iaload, 1) := by decide +kernel
theorem dL_law_1396 : decode cL_law 1396 = .ok (.aload_n 0, 1) := by decide +kernel
theorem dL_law_1397 : decode cL_law 1397 = .ok (.iload 5, 2) := by decide +kernel
theorem dL_law_1399 : decode cL_law 1399 = .ok (.iconst 2, 1) := by decide +kernel
theorem dL_law_1400 : decode cL_law 1400 = .ok (.iadd, 1) := by decide +kernel
theorem dL_law_1401 : decode cL_law 1401 = .ok (.iaload, 1) := by decide +kernel
theorem dL_law_1402 : decode cL_law 1402 = .ok (.aload_n 3, 1) := by decide +kernel
theorem dL_law_1403 : decode cL_law 1403 = .ok (.invokestatic 179, 3) := by decide +kernel
theorem dL_law_1406 : decode cL_law 1406 = .ok (.istore 6, 2) := by decide +kernel
theorem dL_law_1408 : decode cL_law 1408 = .ok (.aload_n 2, 1) := by decide +kernel
theorem dL_law_1409 : decode cL_law 1409 = .ok (.aload_n 0, 1) := by decide +kernel
theorem dL_law_1410 : decode cL_law 1410 = .ok (.iload 5, 2) := by decide +kernel
theorem dL_law_1412 : decode cL_law 1412 = .ok (.iconst 1, 1) := by decide +kernel
theorem dL_law_1413 : decode cL_law 1413 = .ok (.iadd, 1) := by decide +kernel
theorem dL_law_1414 : decode cL_law 1414 = .ok (.iaload, 1) := by decide +kernel
theorem dL_law_1415 : decode cL_law 1415 = .ok (.aload_n 0, 1) := by decide +kernel
theorem dL_law_1416 : decode cL_law 1416 = .ok (.iload 5, 2) := by decide +kernel
theorem dL_law_1418 : decode cL_law 1418 = .ok (.iconst 2, 1) := by decide +kernel
theorem dL_law_1419 : decode cL_law 1419 = .ok (.iadd, 1) := by decide +kernel
theorem dL_law_1420 : decode cL_law 1420 = .ok (.iaload, 1) := by decide +kernel
theorem dL_law_1421 : decode cL_law 1421 = .ok (.invokevirtual 181, 3) := by decide +kernel
theorem dL_law_1424 : decode cL_law 1424 = .ok (.istore 7, 2) := by decide +kernel
theorem dL_law_1426 : decode cL_law 1426 = .ok (.aload_n 2, 1) := by decide +kernel
theorem dL_law_1427 : decode cL_law 1427 = .ok (.invokevirtual 97, 3) := by decide +kernel
theorem dL_law_1430 : decode cL_law 1430 = .ok (.iload 6, 2) := by decide +kernel
theorem dL_law_1432 : decode cL_law 1432 = .ok (.if_icmp .eq 5, 3) := by decide +kernel
theorem dL_law_1435 : decode cL_law 1435 = .ok (.iconst 0, 1) := by decide +kernel
theorem dL_law_1436 : decode cL_law 1436 = .ok (.ireturn, 1) := by decide +kernel
theorem dL_law_1437 : decode cL_law 1437 = .ok (.iload 6, 2) := by decide +kernel
theorem dL_law_1439 : decode cL_law 1439 = .ok (.ifCond .ne 15, 3) := by decide +kernel
theorem dL_law_1442 : decode cL_law 1442 = .ok (.aload_n 3, 1) := by decide +kernel
theorem dL_law_1443 : decode cL_law 1443 = .ok (.iconst 0, 1) := by decide +kernel
theorem dL_law_1444 : decode cL_law 1444 = .ok (.laload, 1) := by decide +kernel
theorem dL_law_1445 : decode cL_law 1445 = .ok (.iload 7, 2) := by decide +kernel
theorem dL_law_1447 : decode cL_law 1447 = .ok (.i2l, 1) := by decide +kernel
theorem dL_law_1448 : decode cL_law 1448 = .ok (.lcmp, 1) := by decide +kernel
theorem dL_law_1449 : decode cL_law 1449 = .ok (.ifCond .eq 5, 3) := by decide +kernel
theorem dL_law_1452 : decode cL_law 1452 = .ok (.iconst 0, 1) := by decide +kernel
theorem dL_law_1453 : decode cL_law 1453 = .ok (.ireturn, 1) := by decide +kernel
theorem dL_law_1454 : decode cL_law 1454 = .ok (.goto 170, 3) := by decide +kernel
theorem dL_law_1457 : decode cL_law 1457 = .ok (.aload_n 1, 1) := by decide +kernel
theorem dL_law_1458 : decode cL_law 1458 = .ok (.aload_n 3, 1) := by decide +kernel
theorem dL_law_1459 : decode cL_law 1459 = .ok (.invokestatic 182, 3) := by decide +kernel
theorem dL_law_1462 : decode cL_law 1462 = .ok (.istore 6, 2) := by decide +kernel
theorem dL_law_1464 : decode cL_law 1464 = .ok (.aload_n 2, 1) := by decide +kernel
theorem dL_law_1465 : decode cL_law 1465 = .ok (.invokevirtual 184, 3) := by decide +kernel
theorem dL_law_1468 : decode cL_law 1468 = .ok (.istore 7, 2) := by decide +kernel
theorem dL_law_1470 : decode cL_law 1470 = .ok (.aload_n 2, 1) := by decide +kernel
theorem dL_law_1471 : decode cL_law 1471 = .ok (.invokevirtual 97, 3) := by decide +kernel
theorem dL_law_1474 : decode cL_law 1474 = .ok (.iload 6, 2) := by decide +kernel
theorem dL_law_1476 : decode cL_law 1476 = .ok (.if_icmp .eq 5, 3) := by decide +kernel
theorem dL_law_1479 : decode cL_law 1479 = .ok (.iconst 0, 1) := by decide +kernel
theorem dL_law_1480 : decode cL_law 1480 = .ok (.ireturn, 1) := by decide +kernel
theorem dL_law_1481 : decode cL_law 1481 = .ok (.iload 6, 2) := by decide +kernel
theorem dL_law_1483 : decode cL_law 1483 = .ok (.ifCond .ne 15, 3) := by decide +kernel
theorem dL_law_1486 : decode cL_law 1486 = .ok (.aload_n 3, 1) := by decide +kernel
theorem dL_law_1487 : decode cL_law 1487 = .ok (.iconst 0, 1) := by decide +kernel
theorem dL_law_1488 : decode cL_law 1488 = .ok (.laload, 1) := by decide +kernel
theorem dL_law_1489 : decode cL_law 1489 = .ok (.iload 7, 2) := by decide +kernel
theorem dL_law_1491 : decode cL_law 1491 = .ok (.i2l, 1) := by decide +kernel
theorem dL_law_1492 : decode cL_law 1492 = .ok (.lcmp, 1) := by decide +kernel
theorem dL_law_1493 : decode cL_law 1493 = .ok (.ifCond .eq 5, 3) := by decide +kernel
theorem dL_law_1496 : decode cL_law 1496 = .ok (.iconst 0, 1) := by decide +kernel
theorem dL_law_1497 : decode cL_law 1497 = .ok (.ireturn, 1) := by decide +kernel
theorem dL_law_1498 : decode cL_law 1498 = .ok (.goto 126, 3) := by decide +kernel
theorem dL_law_1501 : decode cL_law 1501 = .ok (.aload_n 1, 1) := by decide +kernel
theorem dL_law_1502 : decode cL_law 1502 = .ok (.aload_n 3, 1) := by decide +kernel
theorem dL_law_1503 : decode cL_law 1503 = .ok (.invokestatic 185, 3) := by decide +kernel
theorem dL_law_1506 : decode cL_law 1506 = .ok (.istore 6, 2) := by decide +kernel
theorem dL_law_1508 : decode cL_law 1508 = .ok (.aload_n 2, 1) := by decide +kernel
theorem dL_law_1509 : decode cL_law 1509 = .ok (.invokevirtual 187, 3) := by decide +kernel
theorem dL_law_1512 : decode cL_law 1512 = .ok (.istore 7, 2) := by decide +kernel
theorem dL_law_1514 : decode cL_law 1514 = .ok (.aload_n 2, 1) := by decide +kernel
theorem dL_law_1515 : decode cL_law 1515 = .ok (.invokevirtual 97, 3) := by decide +kernel
theorem dL_law_1518 : decode cL_law 1518 = .ok (.iload 6, 2) := by decide +kernel
theorem dL_law_1520 : decode cL_law 1520 = .ok (.if_icmp .eq 5, 3) := by decide +kernel
theorem dL_law_1523 : decode cL_law 1523 = .ok (.iconst 0, 1) := by decide +kernel
theorem dL_law_1524 : decode cL_law 1524 = .ok (.ireturn, 1) := by decide +kernel
theorem dL_law_1525 : decode cL_law 1525 = .ok (.iload 6, 2) := by decide +kernel
theorem dL_law_1527 : decode cL_law 1527 = .ok (.ifCond .ne 15, 3) := by decide +kernel
theorem dL_law_1530 : decode cL_law 1530 = .ok (.aload_n 3, 1) := by decide +kernel
theorem dL_law_1531 : decode cL_law 1531 = .ok (.iconst 0, 1) := by decide +kernel
theorem dL_law_1532 : decode cL_law 1532 = .ok (.laload, 1) := by decide +kernel
theorem dL_law_1533 : decode cL_law 1533 = .ok (.iload 7, 2) := by decide +kernel
theorem dL_law_1535 : decode cL_law 1535 = .ok (.i2l, 1) := by decide +kernel
theorem dL_law_1536 : decode cL_law 1536 = .ok (.lcmp, 1) := by decide +kernel
theorem dL_law_1537 : decode cL_law 1537 = .ok (.ifCond .eq 5, 3) := by decide +kernel
theorem dL_law_1540 : decode cL_law 1540 = .ok (.iconst 0, 1) := by decide +kernel
theorem dL_law_1541 : decode cL_law 1541 = .ok (.ireturn, 1) := by decide +kernel
theorem dL_law_1542 : decode cL_law 1542 = .ok (.goto 82, 3) := by decide +kernel
theorem dL_law_1545 : decode cL_law 1545 = .ok (.aload_n 1, 1) := by decide +kernel
theorem dL_law_1546 : decode cL_law 1546 = .ok (.aload 4, 2) := by decide +kernel
theorem dL_law_1548 : decode cL_law 1548 = .ok (.invokestatic 188, 3) := by decide +kernel
theorem dL_law_1551 : decode cL_law 1551 = .ok (.istore 6, 2) := by decide +kernel
theorem dL_law_1553 : decode cL_law 1553 = .ok (.aload_n 2, 1) := by decide +kernel
theorem dL_law_1554 : decode cL_law 1554 = .ok (.invokevirtual 191, 3) := by decide +kernel
theorem dL_law_1557 : decode cL_law 1557 = .ok (.dstore 7, 2) := by decide +kernel
theorem dL_law_1559 : decode cL_law 1559 = .ok (.aload_n 2, 1) := by decide +kernel
theorem dL_law_1560 : decode cL_law 1560 = .ok (.invokevirtual 97, 3) := by decide +kernel
theorem dL_law_1563 : decode cL_law 1563 = .ok (.iload 6, 2) := by decide +kernel
theorem dL_law_1565 : decode cL_law 1565 = .ok (.if_icmp .eq 5, 3) := by decide +kernel
theorem dL_law_1568 : decode cL_law 1568 = .ok (.iconst 0, 1) := by decide +kernel
theorem dL_law_1569 : decode cL_law 1569 = .ok (.ireturn, 1) := by decide +kernel
theorem dL_law_1570 : decode cL_law 1570 = .ok (.iload 6, 2) := by decide +kernel
theorem dL_law_1572 : decode cL_law 1572 = .ok (.ifCond .ne 35, 3) := by decide +kernel
theorem dL_law_1575 : decode cL_law 1575 = .ok (.aload 4, 2) := by decide +kernel
theorem dL_law_1577 : decode cL_law 1577 = .ok (.iconst 0, 1) := by decide +kernel
theorem dL_law_1578 : decode cL_law 1578 = .ok (.daload, 1) := by decide +kernel
theorem dL_law_1579 : decode cL_law 1579 = .ok (.dload 7, 2) := by decide +kernel
theorem dL_law_1581 : decode cL_law 1581 = .ok (.dcmp .l, 1) := by decide +kernel
theorem dL_law_1582 : decode cL_law 1582 = .ok (.ifCond .eq 25, 3) := by decide +kernel
theorem dL_law_1585 : decode cL_law 1585 = .ok (.aload 4, 2) := by decide +kernel
theorem dL_law_1587 : decode cL_law 1587 = .ok (.iconst 0, 1) := by decide +kernel
theorem dL_law_1588 : decode cL_law 1588 = .ok (.daload, 1) := by decide +kernel
theorem dL_law_1589 : decode cL_law 1589 = .ok (.aload 4, 2) := by decide +kernel
theorem dL_law_1591 : decode cL_law 1591 = .ok (.iconst 0, 1) := by decide +kernel
theorem dL_law_1592 : decode cL_law 1592 = .ok (.daload, 1) := by decide +kernel
theorem dL_law_1593 : decode cL_law 1593 = .ok (.dcmp .l, 1) := by decide +kernel
theorem dL_law_1594 : decode cL_law 1594 = .ok (.ifCond .eq 11, 3) := by decide +kernel
theorem dL_law_1597 : decode cL_law 1597 = .ok (.dload 7, 2) := by decide +kernel
theorem dL_law_1599 : decode cL_law 1599 = .ok (.dload 7, 2) := by decide +kernel
theorem dL_law_1601 : decode cL_law 1601 = .ok (.dcmp .l, 1) := by decide +kernel
theorem dL_law_1602 : decode cL_law 1602 = .ok (.ifCond .ne 5, 3) := by decide +kernel
theorem dL_law_1605 : decode cL_law 1605 = .ok (.iconst 0, 1) := by decide +kernel
theorem dL_law_1606 : decode cL_law 1606 = .ok (.ireturn, 1) := by decide +kernel
theorem dL_law_1607 : decode cL_law 1607 = .ok (.goto 17, 3) := by decide +kernel
theorem dL_law_1610 : decode cL_law 1610 = .ok (.aload_n 1, 1) := by decide +kernel
theorem dL_law_1611 : decode cL_law 1611 = .ok (.invokevirtual 192, 3) := by decide +kernel
theorem dL_law_1614 : decode cL_law 1614 = .ok (.aload_n 2, 1) := by decide +kernel
theorem dL_law_1615 : decode cL_law 1615 = .ok (.invokevirtual 196, 3) := by decide +kernel
theorem dL_law_1618 : decode cL_law 1618 = .ok (.lcmp, 1) := by decide +kernel
theorem dL_law_1619 : decode cL_law 1619 = .ok (.ifCond .eq 5, 3) := by decide +kernel
theorem dL_law_1622 : decode cL_law 1622 = .ok (.iconst 0, 1) := by decide +kernel
theorem dL_law_1623 : decode cL_law 1623 = .ok (.ireturn, 1) := by decide +kernel
theorem dL_law_1624 : decode cL_law 1624 = .ok (.iinc 5 5, 3) := by decide +kernel
theorem dL_law_1627 : decode cL_law 1627 = .ok (.goto (-1599), 3) := by decide +kernel
theorem dL_law_1630 : decode cL_law 1630 = .ok (.iconst 1, 1) := by decide +kernel
theorem dL_law_1631 : decode cL_law 1631 = .ok (.ireturn, 1) := by decide +kernel
end
section

/-! THE WALK: xAT = "the frame at pc with locals lv, stack st, over the world ws, comes to Q"; CX = what holds in the method's body throughout; kI, kL, kV .. = contracts with one answer and one new world -/
section XA
abbrev xTY (tc : Nat → ClassId) : List (ClassId × FieldType) := [(tc 0, .int), (tc 1, .long), (tc 2, .boolean), (tc 3, .double)]
def xStr : List (Nat × String) := [(54, "a byte is not 0 or 32 to 126"), (65, "the text would have more than 48 bytes"), (75, "the text has not so many bytes"), (217, "there is no such place"), (80, "the byte is not 32 to 126"), (86, "the escape byte is not -1 or 32 to 126"), (219, "the kind is not 0 to 5"), (94, "a word has 0 to 3 bytes"), (96, "a byte of the word is not 32 to 126"), (107, "the inner set is not 0 to 63"), (161, "there is no such mark"), (221, "there is no reading"), (223, "there is no such island"), (196, "the state is not 0 to 2")]
def xIA : String := "java/lang/IllegalArgumentException"
def xIS : String := "java/lang/IllegalStateException"
def xIO : String := "java/lang/IndexOutOfBoundsException"
def xCst : List String := [xIA, xIS, xIO]
def xNcs : List (String × String) := [(xIA, xIS), (xIA, xIO), (xIS, xIA), (xIS, xIO), (xIO, xIA), (xIO, xIS)]
/-- what the tables say, in every state of the run -/
def xE (G : va_G) (tc : Nat → ClassId) (U : State) : Prop := va_K G vwCl (xTY tc) U ∧ va_Nw (.methodLinkNest RX0 33 yX5_holdsKind RX5) U ∧ va_Nw (.methodLinkNest RX2 36 yX5_holdsKind RX5) U ∧ (∀ q ∈ xStr, ∃ sa : Nat, vk_R RX5 q.1 q.2 sa U) ∧ (∀ q ∈ xCst, va_Nw (.castable q q) U) ∧ (∀ q ∈ xNcs, va_Nc q.1 q.2 U)
theorem xE.warm {G : va_G} {tc : Nat → ClassId} {s U : State} (hW : s.WarmedH U.vm) (h : xE G tc s) : xE G tc U :=
  ⟨va_K.moved hW.alike h.1, va_Nw.warmM hW h.2.1, va_Nw.warmM hW h.2.2.1, fun q hq => (h.2.2.2.1 q hq).elim fun sa hs => ⟨sa, vk_R.warm hW hs⟩, fun q hq => va_Nw.warmC hW (h.2.2.2.2.1 q hq), fun q hq => va_Nc.moved hW.alike (h.2.2.2.2.2 q hq)⟩
theorem xE.same {G : va_G} {tc : Nat → ClassId} {s U : State} (hv : U.vm = s.vm) (h : xE G tc s) : xE G tc U :=
  ⟨va_K.moved (hv ▸ Vm.Alike.refl s.vm) h.1, va_Nw.same rfl hv.symm h.2.1, va_Nw.same rfl hv.symm h.2.2.1, fun q hq => (h.2.2.2.1 q hq).elim fun sa hs => ⟨sa, vk_R.same hv hs⟩, fun q hq => va_Nw.same rfl hv.symm (h.2.2.2.2.1 q hq), fun q hq => va_Nc.moved (hv ▸ Vm.Alike.refl s.vm) (h.2.2.2.2.2 q hq)⟩
/-- the two statics that a throw reads -/
def xZ (A : Nat → Prop) (U : State) (H : Heap) : Prop := vx_Zq Bundle.tN "UNASSIGNED_STACK" Bundle.steD A U H ∧ vx_Zq Bundle.tN "SUPPRESSED_SENTINEL" Bundle.listD A U H
theorem xZ.moved {A : Nat → Prop} {u U : State} {H : Heap} (hvm : u.vm.Alike U.vm) (h : xZ A u H) : xZ A U H := ⟨h.1.moved hvm, h.2.moved hvm⟩
theorem xZ.kept {A : Nat → Prop} {U : State} {H H1 : Heap} (h : xZ A U H) (hq : ∀ a : Nat, a < H.size → ¬ A a → H1[a]? = H[a]?) : xZ A U H1 := ⟨h.1.kept hq, h.2.kept hq⟩
theorem xZ.narrow {A B : Nat → Prop} {U : State} {H : Heap} (h : xZ A U H) (hAB : ∀ q, B q → A q) : xZ B U H := ⟨h.1.narrow hAB, h.2.narrow hAB⟩
/-- a room: d levels of calls -/
def xR (d mc ms : Nat) : Room := { frames := d + 6, cells := mc, slots := ms, locals := 40 * d + 120 }
abbrev xw (y : MethodName) (cc : ByteArray) (n : Nat) (ret : Option FieldType) : List Cond := Cond.code y cc n ret :: wsL_law
def xPre (G : va_G) (tc : Nat → ClassId) (av : List Value) (w0 : va_W) (sz : Nat) : Array Value → State → Prop := va_Pc av (fun U => U.heap.size = sz ∧ va_P G vwCl w0 U.heap ∧ va_D (fun _ => True) w0 ∧ xE G tc U ∧ xZ (va_A w0 sz) U U.heap)
theorem xPre_blind {G : va_G} {tc : Nat → ClassId} {av : List Value} {w0 : va_W} {sz : Nat} : FrameBlind (xPre G tc av w0 sz) := fun a U g mk q => ⟨q.1, q.2.1, q.2.2.1, q.2.2.2.1, xE.same (s := U) (U := U.calling g mk a) rfl q.2.2.2.2.1, xZ.moved (u := U) (U := U.calling g mk a) (Vm.Alike.refl U.vm) q.2.2.2.2.2⟩
def xB (G : va_G) (A : Nat → Prop) (w1 : va_W) : Unit → State → Prop := fun _ t => va_P G vwCl w1 t.heap ∧ va_D A w1
def kI (l : Launch) (y : MethodName) (ws : List Cond) (d : Nat) (G : va_G) (tc : Nat → ClassId) (av : List Value) (w0 : va_W) (r : Int32) (w1 : va_W) : Prop := ∀ sz : Nat, Met l y ws (xR d 0 0) (xPre G tc av w0 sz) (va_Qi (fun r' (_ : Unit) => r' = r) (xB G (va_A w0 sz) w1) (va_A w0 sz)) 0 0 (va_A w0 sz)
def kL (l : Launch) (y : MethodName) (ws : List Cond) (d : Nat) (G : va_G) (tc : Nat → ClassId) (av : List Value) (w0 : va_W) (r : Int64) (w1 : va_W) : Prop := ∀ sz : Nat, Met l y ws (xR d 0 0) (xPre G tc av w0 sz) (va_Ql (fun r' (_ : Unit) => r' = r) (xB G (va_A w0 sz) w1) (va_A w0 sz)) 0 0 (va_A w0 sz)
def kD (l : Launch) (y : MethodName) (ws : List Cond) (d : Nat) (G : va_G) (tc : Nat → ClassId) (av : List Value) (w0 : va_W) (r : UInt64) (w1 : va_W) : Prop := ∀ sz : Nat, Met l y ws (xR d 0 0) (xPre G tc av w0 sz) (va_Qd (fun r' (_ : Unit) => r' = r) (xB G (va_A w0 sz) w1) (va_A w0 sz)) 0 0 (va_A w0 sz)
def kV (l : Launch) (y : MethodName) (ws : List Cond) (d : Nat) (G : va_G) (tc : Nat → ClassId) (av : List Value) (w0 : va_W) (w1 : va_W) : Prop := ∀ sz : Nat, Met l y ws (xR d 0 0) (xPre G tc av w0 sz) (va_Qv (fun (_ : Unit) => True) (xB G (va_A w0 sz) w1) (va_A w0 sz)) 0 0 (va_A w0 sz)
/-- a constructor: its world grows by cells at new places u -/
def kN (l : Launch) (y : MethodName) (ws : List Cond) (d mc ms : Nat) (G : va_G) (tc : Nat → ClassId) (av : List Value) (w0 : va_W) (w1 : (Nat → Nat) → va_W) : Prop := ∀ sz : Nat, Met l y ws (xR d mc ms) (xPre G tc av w0 sz) (va_Qv (fun (_ : Nat → Nat) => True) (fun u t => va_P G vwCl (w1 u) t.heap ∧ va_D (va_A w0 sz) (w1 u)) (va_A w0 sz)) mc ms (va_A w0 sz)
/-- it throws thr, or answers -/
def xX (G : va_G) (A : Nat → Prop) (thr : Option String) (w0 : va_W) : String → State → State → Prop := vx_X (fun _ : Unit => True) (fun E _ t => thr = some E ∧ va_P G vwCl w0 t.heap ∧ va_D A w0) A
def tI (l : Launch) (y : MethodName) (ws : List Cond) (d : Nat) (G : va_G) (tc : Nat → ClassId) (av : List Value) (w0 : va_W) (thr : Option String) (r : Int32) (w1 : va_W) : Prop := ∀ sz : Nat, vx_Met l y ws (xR d 1 6) (xPre G tc av w0 sz) (va_Qi (fun r' (_ : Unit) => thr = none ∧ r' = r) (xB G (va_A w0 sz) w1) (va_A w0 sz)) (xX G (va_A w0 sz) thr w0) 1 6 (va_A w0 sz)
def tD (l : Launch) (y : MethodName) (ws : List Cond) (d : Nat) (G : va_G) (tc : Nat → ClassId) (av : List Value) (w0 : va_W) (thr : Option String) (r : UInt64) (w1 : va_W) : Prop := ∀ sz : Nat, vx_Met l y ws (xR d 1 6) (xPre G tc av w0 sz) (va_Qd (fun r' (_ : Unit) => thr = none ∧ r' = r) (xB G (va_A w0 sz) w1) (va_A w0 sz)) (xX G (va_A w0 sz) thr w0) 1 6 (va_A w0 sz)
def tV (l : Launch) (y : MethodName) (ws : List Cond) (d : Nat) (G : va_G) (tc : Nat → ClassId) (av : List Value) (w0 : va_W) (thr : Option String) (w1 : va_W) : Prop := ∀ sz : Nat, vx_Met l y ws (xR d 1 6) (xPre G tc av w0 sz) (va_Qv (fun (_ : Unit) => thr = none) (xB G (va_A w0 sz) w1) (va_A w0 sz)) (xX G (va_A w0 sz) thr w0) 1 6 (va_A w0 sz)
-- locals: a list by index; none: nothing is known there
def xL (ls : Array Slot) (nL : Nat) (lv : List (Option Value)) : Prop := ls.size = nL ∧ lv_wf ls ∧ ∀ (i : Nat) (v : Value), lv[i]? = some (some v) → ls[i]? = some (.val v)
def xlv (lv : List (Option Value)) : List (Nat × Value) := (List.range lv.length).filterMap (fun i => (lv.getD i none).map (fun v => (i, v)))
theorem xlv_of {lv : List (Option Value)} {i : Nat} {v : Value} (h : lv[i]? = some (some v)) : (i, v) ∈ xlv lv := by
  have hi : i < lv.length := (List.getElem?_eq_some_iff.mp h).1
  refine List.mem_filterMap.mpr ⟨i, List.mem_range.mpr hi, ?_⟩
  rw [List.getD_eq_getElem?_getD, h]
  rfl
theorem xlv_to {lv : List (Option Value)} {q : Nat × Value} (h : q ∈ xlv lv) : lv[q.1]? = some (some q.2) := by
  obtain ⟨i, hi, h2⟩ := List.mem_filterMap.mp h
  rw [List.getD_eq_getElem?_getD] at h2
  have hi := List.mem_range.mp hi
  rw [List.getElem?_eq_getElem hi] at h2
  cases hc : lv[i] with
  | none => rw [hc] at h2; simp at h2
  | some w =>
    rw [hc] at h2
    have h3 : (i, w) = q := by simpa using h2
    subst h3
    show lv[i]? = some (some w)
    rw [List.getElem?_eq_getElem hi, hc]
theorem xL.has {ls : Array Slot} {nL : Nat} {lv : List (Option Value)} (h : xL ls nL lv) : lv_has ls nL (xlv lv) := ⟨h.1, h.2.1, fun q hq => h.2.2 q.1 q.2 (xlv_to hq)⟩
def xc1 : Option Value → Bool
  | some v => v.category == 1
  | none => true
/-- the local below a stored one isn't the first half of a long -/
def xbl (lv : List (Option Value)) : Nat → Bool
  | 0 => true
  | i + 1 => xc1 (lv.getD i none)
theorem xbl_ne {lv : List (Option Value)} {i j : Nat} {w : Value} (h : xbl lv i = true) (hj : lv[j]? = some (some w)) (e : j + 1 = i) : (w.category == 2) = false := by
  subst e
  have h1 : xc1 (lv.getD j none) = true := h
  rw [List.getD_eq_getElem?_getD, hj] at h1
  have h2 : (w.category == 1) = true := h1
  have h3 : w.category = 1 := by simpa using h2
  rw [h3]; rfl
theorem xL.st1 {ls : Array Slot} {nL i : Nat} {v : Value} {lv : List (Option Value)} (hb : xbl lv i = true) (h : lv_has ls nL ((i, v) :: (xlv lv).filter (fun q => !(q.1 == i) && !(q.1 + 1 == i && q.2.category == 2)))) : xL ls nL (lv.set i (some v)) := by
  refine ⟨h.1, h.2.1, fun j w hj => ?_⟩
  by_cases e : i = j
  · subst e
    rw [List.getElem?_set_self'] at hj
    cases hl : lv[i]? with
    | none => rw [hl] at hj; simp at hj
    | some z =>
      rw [hl] at hj
      have hw : v = w := by simpa using hj
      subst hw
      exact h.2.2 (i, v) List.mem_cons_self
  · rw [List.getElem?_set_ne e] at hj
    refine h.2.2 (j, w) (List.mem_cons_of_mem _ (List.mem_filter.mpr ⟨xlv_of hj, ?_⟩))
    have e1 : (j == i) = false := by simpa using fun h => e h.symm
    by_cases e2 : j + 1 = i
    · have := xbl_ne hb hj e2
      simp [e1, this]
    · have e3 : (j + 1 == i) = false := by simpa using e2
      simp [e1, e3]
theorem xL.st2 {ls : Array Slot} {nL i : Nat} {v : Value} {lv : List (Option Value)} (hb : xbl lv i = true) (h : lv_has ls nL ((i, v) :: (xlv lv).filter (fun q => !(q.1 == i) && (!(q.1 == i + 1) && !(q.1 + 1 == i && q.2.category == 2))))) : xL ls nL ((lv.set i (some v)).set (i + 1) none) := by
  refine ⟨h.1, h.2.1, fun j w hj => ?_⟩
  by_cases e0 : i + 1 = j
  · subst e0
    rw [List.getElem?_set_self'] at hj
    cases hl : (lv.set i (some v))[i + 1]? with
    | none => rw [hl] at hj; simp at hj
    | some z => rw [hl] at hj; simp at hj
  · rw [List.getElem?_set_ne e0] at hj
    by_cases e : i = j
    · subst e
      rw [List.getElem?_set_self'] at hj
      cases hl : lv[i]? with
      | none => rw [hl] at hj; simp at hj
      | some z =>
        rw [hl] at hj
        have hw : v = w := by simpa using hj
        subst hw
        exact h.2.2 (i, v) List.mem_cons_self
    · rw [List.getElem?_set_ne e] at hj
      refine h.2.2 (j, w) (List.mem_cons_of_mem _ (List.mem_filter.mpr ⟨xlv_of hj, ?_⟩))
      have e1 : (j == i) = false := by simpa using fun h => e h.symm
      have e4 : (j == i + 1) = false := by simpa using fun h => e0 h.symm
      by_cases e2 : j + 1 = i
      · have := xbl_ne hb hj e2
        simp [e1, e4, this]
      · have e3 : (j + 1 == i) = false := by simpa using e2
        simp [e1, e3, e4]
/-- what holds in a body throughout -/
def CX (p : Program) (R : Room) (s : State) (m : MethodId) (args : Array Value) (meth : Method) (c : Code) (cc : ByteArray) (nL : Nat) (own : String) (ret : Option FieldType) (G : va_G) (tc : Nat → ClassId) (A : Nat → Prop) (d : Nat) : Prop :=
  p.tables.exec = Jvm.exec ∧ c.code = cc ∧ c.maxLocals = nL ∧ s.vm.findClass own = some m.cls ∧ (∀ w ∈ wsL_law, w.before args s = true) ∧ meth.sig.returnType = ret ∧ meth.locks = false ∧ xE G tc s ∧ xZ A s s.heap ∧ (∀ q : Nat, s.heap.size ≤ q → A q) ∧ d + 6 ≤ R.frames ∧ 40 * d + 120 ≤ R.locals
def xAT (p : Program) (l : Launch) (e : Env) (R : Room) (s : State) (m : MethodId) (args : Array Value) (below : List Frame) (meth : Method) (c : Code) (Q : State → Prop) (G : va_G) (A : Nat → Prop) (nL : Nat) (cells slots : Nat) (ws : va_W) (lv : List (Option Value)) (pc : Nat) (st : List Value) : Prop :=
  ∀ (H : Heap) (locs : List Loc) (ls : Array Slot), va_P G vwCl ws H → va_D A ws → va_S A s.heap H locs → xL ls nL lv → W p l e R s m args below meth c H locs cells slots Q (F0 m pc ls st)
variable {p : Program} {l : Launch} {e : Env} {R : Room} {s : State} {m : MethodId} {args : Array Value} {below : List Frame} {meth : Method} {c : Code} {Q : State → Prop} {G : va_G} {tc : Nat → ClassId} {A : Nat → Prop} {cc : ByteArray} {nL : Nat} {own : String} {ret : Option FieldType} {d cells slots pc : Nat} {ws : va_W} {lv : List (Option Value)} {st : List Value}
theorem CX.call (C : CX p R s m args meth c cc nL own ret G tc A d) : CallFix p m c cc nL s args wsL_law own := ⟨C.1, C.2.1, C.2.2.1, C.2.2.2.1, C.2.2.2.2.1⟩
theorem CX.w (C : CX p R s m args meth c cc nL own ret G tc A d) {w : Cond} (h : w ∈ wsL_law) : w.before args s = true := C.2.2.2.2.1 w h
theorem CX.ow (C : CX p R s m args meth c cc nL own ret G tc A d) : s.vm.findClass own = some m.cls := C.2.2.2.1
theorem CX.rt (C : CX p R s m args meth c cc nL own ret G tc A d) : meth.sig.returnType = ret := C.2.2.2.2.2.1
theorem CX.lock (C : CX p R s m args meth c cc nL own ret G tc A d) : meth.locks = false := C.2.2.2.2.2.2.1
theorem CX.E (C : CX p R s m args meth c cc nL own ret G tc A d) : xE G tc s := C.2.2.2.2.2.2.2.1
theorem CX.K (C : CX p R s m args meth c cc nL own ret G tc A d) : va_K G vwCl (xTY tc) s := C.2.2.2.2.2.2.2.1.1
theorem CX.Z (C : CX p R s m args meth c cc nL own ret G tc A d) : xZ A s s.heap := C.2.2.2.2.2.2.2.2.1
theorem CX.al (C : CX p R s m args meth c cc nL own ret G tc A d) : ∀ q : Nat, s.heap.size ≤ q → A q := C.2.2.2.2.2.2.2.2.2.1
theorem CX.room (C : CX p R s m args meth c cc nL own ret G tc A d) : d + 6 ≤ R.frames ∧ 40 * d + 120 ≤ R.locals := C.2.2.2.2.2.2.2.2.2.2
theorem xentry (m : MethodId) (av : List Value) (n : Nat) (hn : (lg_sl av).length ≤ n) {lv : List (Option Value)} (hl : ∀ (i : Nat) (v : Value), lv[i]? = some (some v) → (i, v) ∈ lv_args 0 av) : ∃ ls, entryFrame m av.toArray n = F0 m 0 ls [] ∧ xL ls n lv :=
  ⟨_, lg_entry_eq m av n, (lv_entry av hn).1, (lv_entry av hn).2.1, fun i v h => (lv_entry av hn).2.2 (i, v) (hl i v h)⟩

theorem xiadd (C : CX p R s m args meth c cc nL own ret G tc A d) {x y : Int32} (hdg : decode cc pc = .ok (.iadd, 1)) (k : xAT p l e R s m args below meth c Q G A nL cells slots ws lv (pc + 1) (.int (x + y) :: st)) : xAT p l e R s m args below meth c Q G A nL cells slots ws lv pc (.int y :: .int x :: st) := fun H locs ls hP hD hS hl => lv_iadd C.1 C.2.1 hdg (k H locs ls hP hD hS hl)
theorem xisub (C : CX p R s m args meth c cc nL own ret G tc A d) {x y : Int32} (hdg : decode cc pc = .ok (.isub, 1)) (k : xAT p l e R s m args below meth c Q G A nL cells slots ws lv (pc + 1) (.int (x - y) :: st)) : xAT p l e R s m args below meth c Q G A nL cells slots ws lv pc (.int y :: .int x :: st) := fun H locs ls hP hD hS hl => lv_isub C.1 C.2.1 hdg (k H locs ls hP hD hS hl)
theorem ximul (C : CX p R s m args meth c cc nL own ret G tc A d) {x y : Int32} (hdg : decode cc pc = .ok (.imul, 1)) (k : xAT p l e R s m args below meth c Q G A nL cells slots ws lv (pc + 1) (.int (x * y) :: st)) : xAT p l e R s m args below meth c Q G A nL cells slots ws lv pc (.int y :: .int x :: st) := fun H locs ls hP hD hS hl => lv_imul C.1 C.2.1 hdg (k H locs ls hP hD hS hl)
theorem xiand (C : CX p R s m args meth c cc nL own ret G tc A d) {x y : Int32} (hdg : decode cc pc = .ok (.iand, 1)) (k : xAT p l e R s m args below meth c Q G A nL cells slots ws lv (pc + 1) (.int (x &&& y) :: st)) : xAT p l e R s m args below meth c Q G A nL cells slots ws lv pc (.int y :: .int x :: st) := fun H locs ls hP hD hS hl => lv_iand C.1 C.2.1 hdg (k H locs ls hP hD hS hl)
theorem xior (C : CX p R s m args meth c cc nL own ret G tc A d) {x y : Int32} (hdg : decode cc pc = .ok (.ior, 1)) (k : xAT p l e R s m args below meth c Q G A nL cells slots ws lv (pc + 1) (.int (x ||| y) :: st)) : xAT p l e R s m args below meth c Q G A nL cells slots ws lv pc (.int y :: .int x :: st) := fun H locs ls hP hD hS hl => lv_ior C.1 C.2.1 hdg (k H locs ls hP hD hS hl)
theorem xixor (C : CX p R s m args meth c cc nL own ret G tc A d) {x y : Int32} (hdg : decode cc pc = .ok (.ixor, 1)) (k : xAT p l e R s m args below meth c Q G A nL cells slots ws lv (pc + 1) (.int (x ^^^ y) :: st)) : xAT p l e R s m args below meth c Q G A nL cells slots ws lv pc (.int y :: .int x :: st) := fun H locs ls hP hD hS hl => lv_ixor C.1 C.2.1 hdg (k H locs ls hP hD hS hl)
theorem xishl (C : CX p R s m args meth c cc nL own ret G tc A d) {x y : Int32} (hdg : decode cc pc = .ok (.ishl, 1)) (k : xAT p l e R s m args below meth c Q G A nL cells slots ws lv (pc + 1) (.int (x <<< (y &&& 31)) :: st)) : xAT p l e R s m args below meth c Q G A nL cells slots ws lv pc (.int y :: .int x :: st) := fun H locs ls hP hD hS hl => lv_ishl C.1 C.2.1 hdg (k H locs ls hP hD hS hl)
theorem xishr (C : CX p R s m args meth c cc nL own ret G tc A d) {x y : Int32} (hdg : decode cc pc = .ok (.ishr, 1)) (k : xAT p l e R s m args below meth c Q G A nL cells slots ws lv (pc + 1) (.int (x >>> (y &&& 31)) :: st)) : xAT p l e R s m args below meth c Q G A nL cells slots ws lv pc (.int y :: .int x :: st) := fun H locs ls hP hD hS hl => lv_ishr C.1 C.2.1 hdg (k H locs ls hP hD hS hl)
theorem xladd (C : CX p R s m args meth c cc nL own ret G tc A d) {x y : Int64} (hdg : decode cc pc = .ok (.ladd, 1)) (k : xAT p l e R s m args below meth c Q G A nL cells slots ws lv (pc + 1) (.long (x + y) :: st)) : xAT p l e R s m args below meth c Q G A nL cells slots ws lv pc (.long y :: .long x :: st) := fun H locs ls hP hD hS hl => lv_ladd C.1 C.2.1 hdg (k H locs ls hP hD hS hl)
theorem xlmul (C : CX p R s m args meth c cc nL own ret G tc A d) {x y : Int64} (hdg : decode cc pc = .ok (.lmul, 1)) (k : xAT p l e R s m args below meth c Q G A nL cells slots ws lv (pc + 1) (.long (x * y) :: st)) : xAT p l e R s m args below meth c Q G A nL cells slots ws lv pc (.long y :: .long x :: st) := fun H locs ls hP hD hS hl => lv_lmul C.1 C.2.1 hdg (k H locs ls hP hD hS hl)
theorem xland (C : CX p R s m args meth c cc nL own ret G tc A d) {x y : Int64} (hdg : decode cc pc = .ok (.land, 1)) (k : xAT p l e R s m args below meth c Q G A nL cells slots ws lv (pc + 1) (.long (x &&& y) :: st)) : xAT p l e R s m args below meth c Q G A nL cells slots ws lv pc (.long y :: .long x :: st) := fun H locs ls hP hD hS hl => lv_land C.1 C.2.1 hdg (k H locs ls hP hD hS hl)
theorem xlor (C : CX p R s m args meth c cc nL own ret G tc A d) {x y : Int64} (hdg : decode cc pc = .ok (.lor, 1)) (k : xAT p l e R s m args below meth c Q G A nL cells slots ws lv (pc + 1) (.long (x ||| y) :: st)) : xAT p l e R s m args below meth c Q G A nL cells slots ws lv pc (.long y :: .long x :: st) := fun H locs ls hP hD hS hl => lv_lor C.1 C.2.1 hdg (k H locs ls hP hD hS hl)
theorem xlxor (C : CX p R s m args meth c cc nL own ret G tc A d) {x y : Int64} (hdg : decode cc pc = .ok (.lxor, 1)) (k : xAT p l e R s m args below meth c Q G A nL cells slots ws lv (pc + 1) (.long (x ^^^ y) :: st)) : xAT p l e R s m args below meth c Q G A nL cells slots ws lv pc (.long y :: .long x :: st) := fun H locs ls hP hD hS hl => lv_lxor C.1 C.2.1 hdg (k H locs ls hP hD hS hl)
theorem xiushr (C : CX p R s m args meth c cc nL own ret G tc A d) {x y : Int32} (hdg : decode cc pc = .ok (.iushr, 1)) (k : xAT p l e R s m args below meth c Q G A nL cells slots ws lv (pc + 1) (.int (x.toUInt32 >>> (y.toUInt32 &&& Int32.toUInt32 31)).toInt32 :: st)) : xAT p l e R s m args below meth c Q G A nL cells slots ws lv pc (.int y :: .int x :: st) := fun H locs ls hP hD hS hl => lv_iushr C.1 C.2.1 hdg rfl (k H locs ls hP hD hS hl)
theorem xlushr (C : CX p R s m args meth c cc nL own ret G tc A d) {x : Int64} {y : Int32} (hdg : decode cc pc = .ok (.lushr, 1)) (k : xAT p l e R s m args below meth c Q G A nL cells slots ws lv (pc + 1) (.long (x.toUInt64 >>> (y.toInt64.toUInt64 &&& Int64.toUInt64 63)).toInt64 :: st)) : xAT p l e R s m args below meth c Q G A nL cells slots ws lv pc (.int y :: .long x :: st) := fun H locs ls hP hD hS hl => lv_lushr C.1 C.2.1 hdg rfl (k H locs ls hP hD hS hl)
theorem xlshl (C : CX p R s m args meth c cc nL own ret G tc A d) {x : Int64} {y : Int32} (hdg : decode cc pc = .ok (.lshl, 1)) (k : xAT p l e R s m args below meth c Q G A nL cells slots ws lv (pc + 1) (.long (x <<< (y.toInt64 &&& 63)) :: st)) : xAT p l e R s m args below meth c Q G A nL cells slots ws lv pc (.int y :: .long x :: st) := fun H locs ls hP hD hS hl => lv_lshl C.1 C.2.1 hdg rfl (k H locs ls hP hD hS hl)
theorem xlshr (C : CX p R s m args meth c cc nL own ret G tc A d) {x : Int64} {y : Int32} (hdg : decode cc pc = .ok (.lshr, 1)) (k : xAT p l e R s m args below meth c Q G A nL cells slots ws lv (pc + 1) (.long (x >>> (y.toInt64 &&& 63)) :: st)) : xAT p l e R s m args below meth c Q G A nL cells slots ws lv pc (.int y :: .long x :: st) := fun H locs ls hP hD hS hl => lv_lshr C.1 C.2.1 hdg rfl (k H locs ls hP hD hS hl)
theorem xi2l (C : CX p R s m args meth c cc nL own ret G tc A d) {x : Int32} (hdg : decode cc pc = .ok (.i2l, 1)) (k : xAT p l e R s m args below meth c Q G A nL cells slots ws lv (pc + 1) (.long x.toInt64 :: st)) : xAT p l e R s m args below meth c Q G A nL cells slots ws lv pc (.int x :: st) := fun H locs ls hP hD hS hl => lv_i2l C.1 C.2.1 hdg rfl (k H locs ls hP hD hS hl)
theorem xl2i (C : CX p R s m args meth c cc nL own ret G tc A d) {x : Int64} (hdg : decode cc pc = .ok (.l2i, 1)) (k : xAT p l e R s m args below meth c Q G A nL cells slots ws lv (pc + 1) (.int x.toInt32 :: st)) : xAT p l e R s m args below meth c Q G A nL cells slots ws lv pc (.long x :: st) := fun H locs ls hP hD hS hl => lv_l2i C.1 C.2.1 hdg rfl (k H locs ls hP hD hS hl)
theorem xi2d (C : CX p R s m args meth c cc nL own ret G tc A d) {x : Int32} (hdg : decode cc pc = .ok (.i2d, 1)) (k : xAT p l e R s m args below meth c Q G A nL cells slots ws lv (pc + 1) (.double (FP.i2d x) :: st)) : xAT p l e R s m args below meth c Q G A nL cells slots ws lv pc (.int x :: st) := fun H locs ls hP hD hS hl => lv_i2d C.1 C.2.1 hdg (k H locs ls hP hD hS hl)
theorem xddiv (C : CX p R s m args meth c cc nL own ret G tc A d) {x y : UInt64} (hdg : decode cc pc = .ok (.ddiv, 1)) (hne : vf_n64 (FP.ddiv x y)) (k : xAT p l e R s m args below meth c Q G A nL cells slots ws lv (pc + 1) (.double (FP.ddiv x y) :: st)) : xAT p l e R s m args below meth c Q G A nL cells slots ws lv pc (.double y :: .double x :: st) := fun H locs ls hP hD hS hl => lv_ddiv C.1 C.2.1 hdg hne (k H locs ls hP hD hS hl)
theorem xdcmp (C : CX p R s m args meth c cc nL own ret G tc A d) {x y : UInt64} {op : CmpOp} (hdg : decode cc pc = .ok (.dcmp op, 1)) (k : xAT p l e R s m args below meth c Q G A nL cells slots ws lv (pc + 1) (.int (Op.cmpValue (FP.dcmp x y) op) :: st)) : xAT p l e R s m args below meth c Q G A nL cells slots ws lv pc (.double y :: .double x :: st) := fun H locs ls hP hD hS hl => lv_dcmp C.1 C.2.1 hdg (k H locs ls hP hD hS hl)
theorem xdconst0 (C : CX p R s m args meth c cc nL own ret G tc A d)  (hdg : decode cc pc = .ok (.dconst 0, 1)) (k : xAT p l e R s m args below meth c Q G A nL cells slots ws lv (pc + 1) (.double FP.dconst0 :: st)) : xAT p l e R s m args below meth c Q G A nL cells slots ws lv pc st := fun H locs ls hP hD hS hl => lv_dconst0 C.1 C.2.1 hdg (k H locs ls hP hD hS hl)
theorem xlcmp (C : CX p R s m args meth c cc nL own ret G tc A d) {x y : Int64} (hdg : decode cc pc = .ok (.lcmp, 1)) (k : xAT p l e R s m args below meth c Q G A nL cells slots ws lv (pc + 1) (.int (lg_cmp x y) :: st)) : xAT p l e R s m args below meth c Q G A nL cells slots ws lv pc (.long y :: .long x :: st) := fun H locs ls hP hD hS hl => W.lcmp C.1 C.2.1 hdg (k H locs ls hP hD hS hl)
theorem xiconst (C : CX p R s m args meth c cc nL own ret G tc A d) {n : Int} (v : Int32) (hdg : decode cc pc = .ok (.iconst n, 1)) (hv : Int32.ofInt n = v) (k : xAT p l e R s m args below meth c Q G A nL cells slots ws lv (pc + 1) (.int v :: st)) : xAT p l e R s m args below meth c Q G A nL cells slots ws lv pc st := fun H locs ls hP hD hS hl => lv_iconst C.1 C.2.1 hdg hv (k H locs ls hP hD hS hl)
theorem xlconst (C : CX p R s m args meth c cc nL own ret G tc A d) {n : Fin 2} (v : Int64) (hdg : decode cc pc = .ok (.lconst n, 1)) (hv : Int64.ofNat (n : Nat) = v) (k : xAT p l e R s m args below meth c Q G A nL cells slots ws lv (pc + 1) (.long v :: st)) : xAT p l e R s m args below meth c Q G A nL cells slots ws lv pc st := fun H locs ls hP hD hS hl => lv_lconst C.1 C.2.1 hdg hv (k H locs ls hP hD hS hl)
theorem xbipush (C : CX p R s m args meth c cc nL own ret G tc A d) {n : Int} (v : Int32) (hdg : decode cc pc = .ok (.bipush n, 2)) (hv : (Int8.ofInt n).toInt32 = v) (k : xAT p l e R s m args below meth c Q G A nL cells slots ws lv (pc + 2) (.int v :: st)) : xAT p l e R s m args below meth c Q G A nL cells slots ws lv pc st := fun H locs ls hP hD hS hl => lv_bipush C.1 C.2.1 hdg hv (k H locs ls hP hD hS hl)
theorem xsipush (C : CX p R s m args meth c cc nL own ret G tc A d) {n : Int} (v : Int32) (hdg : decode cc pc = .ok (.sipush n, 3)) (hv : (Int16.ofInt n).toInt32 = v) (k : xAT p l e R s m args below meth c Q G A nL cells slots ws lv (pc + 3) (.int v :: st)) : xAT p l e R s m args below meth c Q G A nL cells slots ws lv pc st := fun H locs ls hP hD hS hl => lv_sipush C.1 C.2.1 hdg hv (k H locs ls hP hD hS hl)
theorem xdup (C : CX p R s m args meth c cc nL own ret G tc A d) {a : Value} (hdg : decode cc pc = .ok (.dup, 1)) (h1 : a.category = 1) (k : xAT p l e R s m args below meth c Q G A nL cells slots ws lv (pc + 1) (a :: a :: st)) : xAT p l e R s m args below meth c Q G A nL cells slots ws lv pc (a :: st) := fun H locs ls hP hD hS hl => lv_dup C.1 C.2.1 hdg h1 (k H locs ls hP hD hS hl)
theorem xpop (C : CX p R s m args meth c cc nL own ret G tc A d) {a : Value} (hdg : decode cc pc = .ok (.pop, 1)) (h1 : a.category = 1) (k : xAT p l e R s m args below meth c Q G A nL cells slots ws lv (pc + 1) st) : xAT p l e R s m args below meth c Q G A nL cells slots ws lv pc (a :: st) := fun H locs ls hP hD hS hl => lv_pop C.1 C.2.1 hdg h1 (k H locs ls hP hD hS hl)
theorem xdup_x1 (C : CX p R s m args meth c cc nL own ret G tc A d) {a b : Value} (hdg : decode cc pc = .ok (.dup_x1, 1)) (h1 : a.category = 1) (h2 : b.category = 1) (k : xAT p l e R s m args below meth c Q G A nL cells slots ws lv (pc + 1) (a :: b :: a :: st)) : xAT p l e R s m args below meth c Q G A nL cells slots ws lv pc (a :: b :: st) := fun H locs ls hP hD hS hl => lv_dup_x1 C.1 C.2.1 hdg h1 h2 (k H locs ls hP hD hS hl)
theorem xdup_x2 (C : CX p R s m args meth c cc nL own ret G tc A d) {a b f : Value} (hdg : decode cc pc = .ok (.dup_x2, 1)) (h1 : a.category = 1) (h2 : b.category = 1) (h3 : f.category = 1) (k : xAT p l e R s m args below meth c Q G A nL cells slots ws lv (pc + 1) (a :: b :: f :: a :: st)) : xAT p l e R s m args below meth c Q G A nL cells slots ws lv pc (a :: b :: f :: st) := fun H locs ls hP hD hS hl => lv_dup_x2 C.1 C.2.1 hdg h1 h2 h3 (k H locs ls hP hD hS hl)
theorem xdup2 (C : CX p R s m args meth c cc nL own ret G tc A d) {a b : Value} (hdg : decode cc pc = .ok (.dup2, 1)) (h1 : a.category = 1) (h2 : b.category = 1) (k : xAT p l e R s m args below meth c Q G A nL cells slots ws lv (pc + 1) (a :: b :: a :: b :: st)) : xAT p l e R s m args below meth c Q G A nL cells slots ws lv pc (a :: b :: st) := fun H locs ls hP hD hS hl => lv_dup2_11 C.1 C.2.1 hdg h1 h2 (k H locs ls hP hD hS hl)
theorem xldc2 (C : CX p R s m args meth c cc nL own ret G tc A d) {index : Nat} {v : Int64} (hdg : decode cc pc = .ok (.ldc2_w index, 3)) (hw : Cond.constantLong own index v ∈ wsL_law) (k : xAT p l e R s m args below meth c Q G A nL cells slots ws lv (pc + 3) (.long v :: st)) : xAT p l e R s m args below meth c Q G A nL cells slots ws lv pc st := fun H locs ls hP hD hS hl => lv_ldc2 C.1 C.2.1 C.ow (C.w hw) hdg (k H locs ls hP hD hS hl)
theorem xgoto (C : CX p R s m args meth c cc nL own ret G tc A d) {off : Int} {tgt : Nat} (hdg : decode cc pc = .ok (.goto off, 3)) (ht : (pc : Int) + off = (tgt : Int)) (k : xAT p l e R s m args below meth c Q G A nL cells slots ws lv tgt st) : xAT p l e R s m args below meth c Q G A nL cells slots ws lv pc st := fun H locs ls hP hD hS hl => lv_goto C.1 C.2.1 hdg ht (k H locs ls hP hD hS hl)
theorem xif_eq (C : CX p R s m args meth c cc nL own ret G tc A d) {x : Int32} {off : Int} {tgt : Nat} (hdg : decode cc pc = .ok (.ifCond .eq off, 3)) (ht : (pc : Int) + off = (tgt : Int)) (kt : x = 0 → xAT p l e R s m args below meth c Q G A nL cells slots ws lv tgt st) (kf : ¬ x = 0 → xAT p l e R s m args below meth c Q G A nL cells slots ws lv (pc + 3) st) : xAT p l e R s m args below meth c Q G A nL cells slots ws lv pc (.int x :: st) := fun H locs ls hP hD hS hl => lv_if_eq C.1 C.2.1 hdg ht (fun h => kt h H locs ls hP hD hS hl) (fun h => kf h H locs ls hP hD hS hl)
theorem xicmp_eq (C : CX p R s m args meth c cc nL own ret G tc A d) {x y : Int32} {off : Int} {tgt : Nat} (hdg : decode cc pc = .ok (.if_icmp .eq off, 3)) (ht : (pc : Int) + off = (tgt : Int)) (kt : x = y → xAT p l e R s m args below meth c Q G A nL cells slots ws lv tgt st) (kf : ¬ x = y → xAT p l e R s m args below meth c Q G A nL cells slots ws lv (pc + 3) st) : xAT p l e R s m args below meth c Q G A nL cells slots ws lv pc (.int y :: .int x :: st) := fun H locs ls hP hD hS hl => lv_icmp_eq C.1 C.2.1 hdg ht (fun h => kt h H locs ls hP hD hS hl) (fun h => kf h H locs ls hP hD hS hl)
theorem xif_ne (C : CX p R s m args meth c cc nL own ret G tc A d) {x : Int32} {off : Int} {tgt : Nat} (hdg : decode cc pc = .ok (.ifCond .ne off, 3)) (ht : (pc : Int) + off = (tgt : Int)) (kt : ¬ x = 0 → xAT p l e R s m args below meth c Q G A nL cells slots ws lv tgt st) (kf : x = 0 → xAT p l e R s m args below meth c Q G A nL cells slots ws lv (pc + 3) st) : xAT p l e R s m args below meth c Q G A nL cells slots ws lv pc (.int x :: st) := fun H locs ls hP hD hS hl => lv_if_ne C.1 C.2.1 hdg ht (fun h => kt h H locs ls hP hD hS hl) (fun h => kf h H locs ls hP hD hS hl)
theorem xicmp_ne (C : CX p R s m args meth c cc nL own ret G tc A d) {x y : Int32} {off : Int} {tgt : Nat} (hdg : decode cc pc = .ok (.if_icmp .ne off, 3)) (ht : (pc : Int) + off = (tgt : Int)) (kt : ¬ x = y → xAT p l e R s m args below meth c Q G A nL cells slots ws lv tgt st) (kf : x = y → xAT p l e R s m args below meth c Q G A nL cells slots ws lv (pc + 3) st) : xAT p l e R s m args below meth c Q G A nL cells slots ws lv pc (.int y :: .int x :: st) := fun H locs ls hP hD hS hl => lv_icmp_ne C.1 C.2.1 hdg ht (fun h => kt h H locs ls hP hD hS hl) (fun h => kf h H locs ls hP hD hS hl)
theorem xif_lt (C : CX p R s m args meth c cc nL own ret G tc A d) {x : Int32} {off : Int} {tgt : Nat} (hdg : decode cc pc = .ok (.ifCond .lt off, 3)) (ht : (pc : Int) + off = (tgt : Int)) (kt : x < 0 → xAT p l e R s m args below meth c Q G A nL cells slots ws lv tgt st) (kf : ¬ x < 0 → xAT p l e R s m args below meth c Q G A nL cells slots ws lv (pc + 3) st) : xAT p l e R s m args below meth c Q G A nL cells slots ws lv pc (.int x :: st) := fun H locs ls hP hD hS hl => lv_if_lt C.1 C.2.1 hdg ht (fun h => kt h H locs ls hP hD hS hl) (fun h => kf h H locs ls hP hD hS hl)
theorem xicmp_lt (C : CX p R s m args meth c cc nL own ret G tc A d) {x y : Int32} {off : Int} {tgt : Nat} (hdg : decode cc pc = .ok (.if_icmp .lt off, 3)) (ht : (pc : Int) + off = (tgt : Int)) (kt : x < y → xAT p l e R s m args below meth c Q G A nL cells slots ws lv tgt st) (kf : ¬ x < y → xAT p l e R s m args below meth c Q G A nL cells slots ws lv (pc + 3) st) : xAT p l e R s m args below meth c Q G A nL cells slots ws lv pc (.int y :: .int x :: st) := fun H locs ls hP hD hS hl => lv_icmp_lt C.1 C.2.1 hdg ht (fun h => kt h H locs ls hP hD hS hl) (fun h => kf h H locs ls hP hD hS hl)
theorem xif_ge (C : CX p R s m args meth c cc nL own ret G tc A d) {x : Int32} {off : Int} {tgt : Nat} (hdg : decode cc pc = .ok (.ifCond .ge off, 3)) (ht : (pc : Int) + off = (tgt : Int)) (kt : 0 ≤ x → xAT p l e R s m args below meth c Q G A nL cells slots ws lv tgt st) (kf : ¬ 0 ≤ x → xAT p l e R s m args below meth c Q G A nL cells slots ws lv (pc + 3) st) : xAT p l e R s m args below meth c Q G A nL cells slots ws lv pc (.int x :: st) := fun H locs ls hP hD hS hl => lv_if_ge C.1 C.2.1 hdg ht (fun h => kt h H locs ls hP hD hS hl) (fun h => kf h H locs ls hP hD hS hl)
theorem xicmp_ge (C : CX p R s m args meth c cc nL own ret G tc A d) {x y : Int32} {off : Int} {tgt : Nat} (hdg : decode cc pc = .ok (.if_icmp .ge off, 3)) (ht : (pc : Int) + off = (tgt : Int)) (kt : y ≤ x → xAT p l e R s m args below meth c Q G A nL cells slots ws lv tgt st) (kf : ¬ y ≤ x → xAT p l e R s m args below meth c Q G A nL cells slots ws lv (pc + 3) st) : xAT p l e R s m args below meth c Q G A nL cells slots ws lv pc (.int y :: .int x :: st) := fun H locs ls hP hD hS hl => lv_icmp_ge C.1 C.2.1 hdg ht (fun h => kt h H locs ls hP hD hS hl) (fun h => kf h H locs ls hP hD hS hl)
theorem xif_gt (C : CX p R s m args meth c cc nL own ret G tc A d) {x : Int32} {off : Int} {tgt : Nat} (hdg : decode cc pc = .ok (.ifCond .gt off, 3)) (ht : (pc : Int) + off = (tgt : Int)) (kt : 0 < x → xAT p l e R s m args below meth c Q G A nL cells slots ws lv tgt st) (kf : ¬ 0 < x → xAT p l e R s m args below meth c Q G A nL cells slots ws lv (pc + 3) st) : xAT p l e R s m args below meth c Q G A nL cells slots ws lv pc (.int x :: st) := fun H locs ls hP hD hS hl => lv_if_gt C.1 C.2.1 hdg ht (fun h => kt h H locs ls hP hD hS hl) (fun h => kf h H locs ls hP hD hS hl)
theorem xicmp_gt (C : CX p R s m args meth c cc nL own ret G tc A d) {x y : Int32} {off : Int} {tgt : Nat} (hdg : decode cc pc = .ok (.if_icmp .gt off, 3)) (ht : (pc : Int) + off = (tgt : Int)) (kt : y < x → xAT p l e R s m args below meth c Q G A nL cells slots ws lv tgt st) (kf : ¬ y < x → xAT p l e R s m args below meth c Q G A nL cells slots ws lv (pc + 3) st) : xAT p l e R s m args below meth c Q G A nL cells slots ws lv pc (.int y :: .int x :: st) := fun H locs ls hP hD hS hl => lv_icmp_gt C.1 C.2.1 hdg ht (fun h => kt h H locs ls hP hD hS hl) (fun h => kf h H locs ls hP hD hS hl)
theorem xif_le (C : CX p R s m args meth c cc nL own ret G tc A d) {x : Int32} {off : Int} {tgt : Nat} (hdg : decode cc pc = .ok (.ifCond .le off, 3)) (ht : (pc : Int) + off = (tgt : Int)) (kt : x ≤ 0 → xAT p l e R s m args below meth c Q G A nL cells slots ws lv tgt st) (kf : ¬ x ≤ 0 → xAT p l e R s m args below meth c Q G A nL cells slots ws lv (pc + 3) st) : xAT p l e R s m args below meth c Q G A nL cells slots ws lv pc (.int x :: st) := fun H locs ls hP hD hS hl => lv_if_le C.1 C.2.1 hdg ht (fun h => kt h H locs ls hP hD hS hl) (fun h => kf h H locs ls hP hD hS hl)
theorem xicmp_le (C : CX p R s m args meth c cc nL own ret G tc A d) {x y : Int32} {off : Int} {tgt : Nat} (hdg : decode cc pc = .ok (.if_icmp .le off, 3)) (ht : (pc : Int) + off = (tgt : Int)) (kt : x ≤ y → xAT p l e R s m args below meth c Q G A nL cells slots ws lv tgt st) (kf : ¬ x ≤ y → xAT p l e R s m args below meth c Q G A nL cells slots ws lv (pc + 3) st) : xAT p l e R s m args below meth c Q G A nL cells slots ws lv pc (.int y :: .int x :: st) := fun H locs ls hP hD hS hl => lv_icmp_le C.1 C.2.1 hdg ht (fun h => kt h H locs ls hP hD hS hl) (fun h => kf h H locs ls hP hD hS hl)
theorem xiload_0 (C : CX p R s m args meth c cc nL own ret G tc A d) {x : Int32} {r : List (Option Value)} (hdg : decode cc pc = .ok (.iload_n 0, 1)) (k : xAT p l e R s m args below meth c Q G A nL cells slots ws (some (.int x) :: r) (pc + 1) (.int x :: st)) : xAT p l e R s m args below meth c Q G A nL cells slots ws (some (.int x) :: r) pc st := fun H locs ls hP hD hS hl => lv_iload_n C.1 C.2.1 hdg rfl (hl.2.2 0 _ rfl) (k H locs ls hP hD hS hl)
theorem xistore_0 (C : CX p R s m args meth c cc nL own ret G tc A d) {l0 : Option Value} {x : Int32} {r : List (Option Value)} (hdg : decode cc pc = .ok (.istore_n 0, 1)) (hb : xbl (l0 :: r) 0 = true) (hn : 0 < nL) (k : xAT p l e R s m args below meth c Q G A nL cells slots ws (some (.int x) :: r) (pc + 1) st) : xAT p l e R s m args below meth c Q G A nL cells slots ws (l0 :: r) pc (.int x :: st) := fun H locs ls hP hD hS hl => lv_istore_n C.1 C.2.1 hdg rfl hl.has hn rfl (fun ls' h => k H locs ls' hP hD hS (xL.st1 hb h))
theorem xlload_0 (C : CX p R s m args meth c cc nL own ret G tc A d) {x : Int64} {r : List (Option Value)} (hdg : decode cc pc = .ok (.lload_n 0, 1)) (k : xAT p l e R s m args below meth c Q G A nL cells slots ws (some (.long x) :: r) (pc + 1) (.long x :: st)) : xAT p l e R s m args below meth c Q G A nL cells slots ws (some (.long x) :: r) pc st := fun H locs ls hP hD hS hl => lv_lload_n C.1 C.2.1 hdg rfl (hl.2.2 0 _ rfl) (k H locs ls hP hD hS hl)
theorem xlstore_0 (C : CX p R s m args meth c cc nL own ret G tc A d) {l0 l1 : Option Value} {x : Int64} {r : List (Option Value)} (hdg : decode cc pc = .ok (.lstore_n 0, 1)) (hb : xbl (l0 :: l1 :: r) 0 = true) (hn : 1 < nL) (k : xAT p l e R s m args below meth c Q G A nL cells slots ws (some (.long x) :: none :: r) (pc + 1) st) : xAT p l e R s m args below meth c Q G A nL cells slots ws (l0 :: l1 :: r) pc (.long x :: st) := fun H locs ls hP hD hS hl => lv_lstore_n C.1 C.2.1 hdg rfl hl.has hn rfl (fun ls' h => k H locs ls' hP hD hS (xL.st2 hb h))
theorem xaload_0 (C : CX p R s m args meth c cc nL own ret G tc A d) {x : Nat} {r : List (Option Value)} (hdg : decode cc pc = .ok (.aload_n 0, 1)) (k : xAT p l e R s m args below meth c Q G A nL cells slots ws (some (.ref x) :: r) (pc + 1) (.ref x :: st)) : xAT p l e R s m args below meth c Q G A nL cells slots ws (some (.ref x) :: r) pc st := fun H locs ls hP hD hS hl => lv_aload_n C.1 C.2.1 hdg rfl (hl.2.2 0 _ rfl) (k H locs ls hP hD hS hl)
theorem xastore_0 (C : CX p R s m args meth c cc nL own ret G tc A d) {l0 : Option Value} {x : Nat} {r : List (Option Value)} (hdg : decode cc pc = .ok (.astore_n 0, 1)) (hb : xbl (l0 :: r) 0 = true) (hn : 0 < nL) (k : xAT p l e R s m args below meth c Q G A nL cells slots ws (some (.ref x) :: r) (pc + 1) st) : xAT p l e R s m args below meth c Q G A nL cells slots ws (l0 :: r) pc (.ref x :: st) := fun H locs ls hP hD hS hl => lv_astore_n C.1 C.2.1 hdg rfl hl.has hn rfl (fun ls' h => k H locs ls' hP hD hS (xL.st1 hb h))
theorem xdload_0 (C : CX p R s m args meth c cc nL own ret G tc A d) {x : UInt64} {r : List (Option Value)} (hdg : decode cc pc = .ok (.dload_n 0, 1)) (k : xAT p l e R s m args below meth c Q G A nL cells slots ws (some (.double x) :: r) (pc + 1) (.double x :: st)) : xAT p l e R s m args below meth c Q G A nL cells slots ws (some (.double x) :: r) pc st := fun H locs ls hP hD hS hl => lv_dload_n C.1 C.2.1 hdg rfl (hl.2.2 0 _ rfl) (k H locs ls hP hD hS hl)
theorem xdstore_0 (C : CX p R s m args meth c cc nL own ret G tc A d) {l0 l1 : Option Value} {x : UInt64} {r : List (Option Value)} (hdg : decode cc pc = .ok (.dstore_n 0, 1)) (hb : xbl (l0 :: l1 :: r) 0 = true) (hn : 1 < nL) (k : xAT p l e R s m args below meth c Q G A nL cells slots ws (some (.double x) :: none :: r) (pc + 1) st) : xAT p l e R s m args below meth c Q G A nL cells slots ws (l0 :: l1 :: r) pc (.double x :: st) := fun H locs ls hP hD hS hl => lv_dstore_n C.1 C.2.1 hdg rfl hl.has hn rfl (fun ls' h => k H locs ls' hP hD hS (xL.st2 hb h))
theorem xiinc_0 (C : CX p R s m args meth c cc nL own ret G tc A d) {x : Int32} {n : Int} (v : Int32) {r : List (Option Value)} (hdg : decode cc pc = .ok (.iinc 0 n, 3)) (hv : x + Int32.ofInt n = v) (hb : xbl (some (.int x) :: r) 0 = true) (hn : 0 < nL) (k : xAT p l e R s m args below meth c Q G A nL cells slots ws (some (.int v) :: r) (pc + 3) st) : xAT p l e R s m args below meth c Q G A nL cells slots ws (some (.int x) :: r) pc st := fun H locs ls hP hD hS hl => by
  obtain ⟨kk, hk⟩ := List.getElem?_of_mem (xlv_of (lv := some (.int x) :: r) (i := 0) (v := .int x) rfl)
  exact lv_iinc C.1 C.2.1 hdg hl.has hk hv hn rfl (fun ls' h => k H locs ls' hP hD hS (xL.st1 hb h))
theorem xiload_1 (C : CX p R s m args meth c cc nL own ret G tc A d) {l0 : Option Value} {x : Int32} {r : List (Option Value)} (hdg : decode cc pc = .ok (.iload_n 1, 1)) (k : xAT p l e R s m args below meth c Q G A nL cells slots ws (l0 :: some (.int x) :: r) (pc + 1) (.int x :: st)) : xAT p l e R s m args below meth c Q G A nL cells slots ws (l0 :: some (.int x) :: r) pc st := fun H locs ls hP hD hS hl => lv_iload_n C.1 C.2.1 hdg rfl (hl.2.2 1 _ rfl) (k H locs ls hP hD hS hl)
theorem xistore_1 (C : CX p R s m args meth c cc nL own ret G tc A d) {l0 l1 : Option Value} {x : Int32} {r : List (Option Value)} (hdg : decode cc pc = .ok (.istore_n 1, 1)) (hb : xbl (l0 :: l1 :: r) 1 = true) (hn : 1 < nL) (k : xAT p l e R s m args below meth c Q G A nL cells slots ws (l0 :: some (.int x) :: r) (pc + 1) st) : xAT p l e R s m args below meth c Q G A nL cells slots ws (l0 :: l1 :: r) pc (.int x :: st) := fun H locs ls hP hD hS hl => lv_istore_n C.1 C.2.1 hdg rfl hl.has hn rfl (fun ls' h => k H locs ls' hP hD hS (xL.st1 hb h))
theorem xlload_1 (C : CX p R s m args meth c cc nL own ret G tc A d) {l0 : Option Value} {x : Int64} {r : List (Option Value)} (hdg : decode cc pc = .ok (.lload_n 1, 1)) (k : xAT p l e R s m args below meth c Q G A nL cells slots ws (l0 :: some (.long x) :: r) (pc + 1) (.long x :: st)) : xAT p l e R s m args below meth c Q G A nL cells slots ws (l0 :: some (.long x) :: r) pc st := fun H locs ls hP hD hS hl => lv_lload_n C.1 C.2.1 hdg rfl (hl.2.2 1 _ rfl) (k H locs ls hP hD hS hl)
theorem xlstore_1 (C : CX p R s m args meth c cc nL own ret G tc A d) {l0 l1 l2 : Option Value} {x : Int64} {r : List (Option Value)} (hdg : decode cc pc = .ok (.lstore_n 1, 1)) (hb : xbl (l0 :: l1 :: l2 :: r) 1 = true) (hn : 2 < nL) (k : xAT p l e R s m args below meth c Q G A nL cells slots ws (l0 :: some (.long x) :: none :: r) (pc + 1) st) : xAT p l e R s m args below meth c Q G A nL cells slots ws (l0 :: l1 :: l2 :: r) pc (.long x :: st) := fun H locs ls hP hD hS hl => lv_lstore_n C.1 C.2.1 hdg rfl hl.has hn rfl (fun ls' h => k H locs ls' hP hD hS (xL.st2 hb h))
theorem xaload_1 (C : CX p R s m args meth c cc nL own ret G tc A d) {l0 : Option Value} {x : Nat} {r : List (Option Value)} (hdg : decode cc pc = .ok (.aload_n 1, 1)) (k : xAT p l e R s m args below meth c Q G A nL cells slots ws (l0 :: some (.ref x) :: r) (pc + 1) (.ref x :: st)) : xAT p l e R s m args below meth c Q G A nL cells slots ws (l0 :: some (.ref x) :: r) pc st := fun H locs ls hP hD hS hl => lv_aload_n C.1 C.2.1 hdg rfl (hl.2.2 1 _ rfl) (k H locs ls hP hD hS hl)
theorem xastore_1 (C : CX p R s m args meth c cc nL own ret G tc A d) {l0 l1 : Option Value} {x : Nat} {r : List (Option Value)} (hdg : decode cc pc = .ok (.astore_n 1, 1)) (hb : xbl (l0 :: l1 :: r) 1 = true) (hn : 1 < nL) (k : xAT p l e R s m args below meth c Q G A nL cells slots ws (l0 :: some (.ref x) :: r) (pc + 1) st) : xAT p l e R s m args below meth c Q G A nL cells slots ws (l0 :: l1 :: r) pc (.ref x :: st) := fun H locs ls hP hD hS hl => lv_astore_n C.1 C.2.1 hdg rfl hl.has hn rfl (fun ls' h => k H locs ls' hP hD hS (xL.st1 hb h))
theorem xdload_1 (C : CX p R s m args meth c cc nL own ret G tc A d) {l0 : Option Value} {x : UInt64} {r : List (Option Value)} (hdg : decode cc pc = .ok (.dload_n 1, 1)) (k : xAT p l e R s m args below meth c Q G A nL cells slots ws (l0 :: some (.double x) :: r) (pc + 1) (.double x :: st)) : xAT p l e R s m args below meth c Q G A nL cells slots ws (l0 :: some (.double x) :: r) pc st := fun H locs ls hP hD hS hl => lv_dload_n C.1 C.2.1 hdg rfl (hl.2.2 1 _ rfl) (k H locs ls hP hD hS hl)
theorem xdstore_1 (C : CX p R s m args meth c cc nL own ret G tc A d) {l0 l1 l2 : Option Value} {x : UInt64} {r : List (Option Value)} (hdg : decode cc pc = .ok (.dstore_n 1, 1)) (hb : xbl (l0 :: l1 :: l2 :: r) 1 = true) (hn : 2 < nL) (k : xAT p l e R s m args below meth c Q G A nL cells slots ws (l0 :: some (.double x) :: none :: r) (pc + 1) st) : xAT p l e R s m args below meth c Q G A nL cells slots ws (l0 :: l1 :: l2 :: r) pc (.double x :: st) := fun H locs ls hP hD hS hl => lv_dstore_n C.1 C.2.1 hdg rfl hl.has hn rfl (fun ls' h => k H locs ls' hP hD hS (xL.st2 hb h))
theorem xiinc_1 (C : CX p R s m args meth c cc nL own ret G tc A d) {l0 : Option Value} {x : Int32} {n : Int} (v : Int32) {r : List (Option Value)} (hdg : decode cc pc = .ok (.iinc 1 n, 3)) (hv : x + Int32.ofInt n = v) (hb : xbl (l0 :: some (.int x) :: r) 1 = true) (hn : 1 < nL) (k : xAT p l e R s m args below meth c Q G A nL cells slots ws (l0 :: some (.int v) :: r) (pc + 3) st) : xAT p l e R s m args below meth c Q G A nL cells slots ws (l0 :: some (.int x) :: r) pc st := fun H locs ls hP hD hS hl => by
  obtain ⟨kk, hk⟩ := List.getElem?_of_mem (xlv_of (lv := l0 :: some (.int x) :: r) (i := 1) (v := .int x) rfl)
  exact lv_iinc C.1 C.2.1 hdg hl.has hk hv hn rfl (fun ls' h => k H locs ls' hP hD hS (xL.st1 hb h))
theorem xiload_2 (C : CX p R s m args meth c cc nL own ret G tc A d) {l0 l1 : Option Value} {x : Int32} {r : List (Option Value)} (hdg : decode cc pc = .ok (.iload_n 2, 1)) (k : xAT p l e R s m args below meth c Q G A nL cells slots ws (l0 :: l1 :: some (.int x) :: r) (pc + 1) (.int x :: st)) : xAT p l e R s m args below meth c Q G A nL cells slots ws (l0 :: l1 :: some (.int x) :: r) pc st := fun H locs ls hP hD hS hl => lv_iload_n C.1 C.2.1 hdg rfl (hl.2.2 2 _ rfl) (k H locs ls hP hD hS hl)
theorem xistore_2 (C : CX p R s m args meth c cc nL own ret G tc A d) {l0 l1 l2 : Option Value} {x : Int32} {r : List (Option Value)} (hdg : decode cc pc = .ok (.istore_n 2, 1)) (hb : xbl (l0 :: l1 :: l2 :: r) 2 = true) (hn : 2 < nL) (k : xAT p l e R s m args below meth c Q G A nL cells slots ws (l0 :: l1 :: some (.int x) :: r) (pc + 1) st) : xAT p l e R s m args below meth c Q G A nL cells slots ws (l0 :: l1 :: l2 :: r) pc (.int x :: st) := fun H locs ls hP hD hS hl => lv_istore_n C.1 C.2.1 hdg rfl hl.has hn rfl (fun ls' h => k H locs ls' hP hD hS (xL.st1 hb h))
theorem xlload_2 (C : CX p R s m args meth c cc nL own ret G tc A d) {l0 l1 : Option Value} {x : Int64} {r : List (Option Value)} (hdg : decode cc pc = .ok (.lload_n 2, 1)) (k : xAT p l e R s m args below meth c Q G A nL cells slots ws (l0 :: l1 :: some (.long x) :: r) (pc + 1) (.long x :: st)) : xAT p l e R s m args below meth c Q G A nL cells slots ws (l0 :: l1 :: some (.long x) :: r) pc st := fun H locs ls hP hD hS hl => lv_lload_n C.1 C.2.1 hdg rfl (hl.2.2 2 _ rfl) (k H locs ls hP hD hS hl)
theorem xlstore_2 (C : CX p R s m args meth c cc nL own ret G tc A d) {l0 l1 l2 l3 : Option Value} {x : Int64} {r : List (Option Value)} (hdg : decode cc pc = .ok (.lstore_n 2, 1)) (hb : xbl (l0 :: l1 :: l2 :: l3 :: r) 2 = true) (hn : 3 < nL) (k : xAT p l e R s m args below meth c Q G A nL cells slots ws (l0 :: l1 :: some (.long x) :: none :: r) (pc + 1) st) : xAT p l e R s m args below meth c Q G A nL cells slots ws (l0 :: l1 :: l2 :: l3 :: r) pc (.long x :: st) := fun H locs ls hP hD hS hl => lv_lstore_n C.1 C.2.1 hdg rfl hl.has hn rfl (fun ls' h => k H locs ls' hP hD hS (xL.st2 hb h))
theorem xaload_2 (C : CX p R s m args meth c cc nL own ret G tc A d) {l0 l1 : Option Value} {x : Nat} {r : List (Option Value)} (hdg : decode cc pc = .ok (.aload_n 2, 1)) (k : xAT p l e R s m args below meth c Q G A nL cells slots ws (l0 :: l1 :: some (.ref x) :: r) (pc + 1) (.ref x :: st)) : xAT p l e R s m args below meth c Q G A nL cells slots ws (l0 :: l1 :: some (.ref x) :: r) pc st := fun H locs ls hP hD hS hl => lv_aload_n C.1 C.2.1 hdg rfl (hl.2.2 2 _ rfl) (k H locs ls hP hD hS hl)
theorem xastore_2 (C : CX p R s m args meth c cc nL own ret G tc A d) {l0 l1 l2 : Option Value} {x : Nat} {r : List (Option Value)} (hdg : decode cc pc = .ok (.astore_n 2, 1)) (hb : xbl (l0 :: l1 :: l2 :: r) 2 = true) (hn : 2 < nL) (k : xAT p l e R s m args below meth c Q G A nL cells slots ws (l0 :: l1 :: some (.ref x) :: r) (pc + 1) st) : xAT p l e R s m args below meth c Q G A nL cells slots ws (l0 :: l1 :: l2 :: r) pc (.ref x :: st) := fun H locs ls hP hD hS hl => lv_astore_n C.1 C.2.1 hdg rfl hl.has hn rfl (fun ls' h => k H locs ls' hP hD hS (xL.st1 hb h))
theorem xdload_2 (C : CX p R s m args meth c cc nL own ret G tc A d) {l0 l1 : Option Value} {x : UInt64} {r : List (Option Value)} (hdg : decode cc pc = .ok (.dload_n 2, 1)) (k : xAT p l e R s m args below meth c Q G A nL cells slots ws (l0 :: l1 :: some (.double x) :: r) (pc + 1) (.double x :: st)) : xAT p l e R s m args below meth c Q G A nL cells slots ws (l0 :: l1 :: some (.double x) :: r) pc st := fun H locs ls hP hD hS hl => lv_dload_n C.1 C.2.1 hdg rfl (hl.2.2 2 _ rfl) (k H locs ls hP hD hS hl)
theorem xdstore_2 (C : CX p R s m args meth c cc nL own ret G tc A d) {l0 l1 l2 l3 : Option Value} {x : UInt64} {r : List (Option Value)} (hdg : decode cc pc = .ok (.dstore_n 2, 1)) (hb : xbl (l0 :: l1 :: l2 :: l3 :: r) 2 = true) (hn : 3 < nL) (k : xAT p l e R s m args below meth c Q G A nL cells slots ws (l0 :: l1 :: some (.double x) :: none :: r) (pc + 1) st) : xAT p l e R s m args below meth c Q G A nL cells slots ws (l0 :: l1 :: l2 :: l3 :: r) pc (.double x :: st) := fun H locs ls hP hD hS hl => lv_dstore_n C.1 C.2.1 hdg rfl hl.has hn rfl (fun ls' h => k H locs ls' hP hD hS (xL.st2 hb h))
theorem xiinc_2 (C : CX p R s m args meth c cc nL own ret G tc A d) {l0 l1 : Option Value} {x : Int32} {n : Int} (v : Int32) {r : List (Option Value)} (hdg : decode cc pc = .ok (.iinc 2 n, 3)) (hv : x + Int32.ofInt n = v) (hb : xbl (l0 :: l1 :: some (.int x) :: r) 2 = true) (hn : 2 < nL) (k : xAT p l e R s m args below meth c Q G A nL cells slots ws (l0 :: l1 :: some (.int v) :: r) (pc + 3) st) : xAT p l e R s m args below meth c Q G A nL cells slots ws (l0 :: l1 :: some (.int x) :: r) pc st := fun H locs ls hP hD hS hl => by
  obtain ⟨kk, hk⟩ := List.getElem?_of_mem (xlv_of (lv := l0 :: l1 :: some (.int x) :: r) (i := 2) (v := .int x) rfl)
  exact lv_iinc C.1 C.2.1 hdg hl.has hk hv hn rfl (fun ls' h => k H locs ls' hP hD hS (xL.st1 hb h))
theorem xiload_3 (C : CX p R s m args meth c cc nL own ret G tc A d) {l0 l1 l2 : Option Value} {x : Int32} {r : List (Option Value)} (hdg : decode cc pc = .ok (.iload_n 3, 1)) (k : xAT p l e R s m args below meth c Q G A nL cells slots ws (l0 :: l1 :: l2 :: some (.int x) :: r) (pc + 1) (.int x :: st)) : xAT p l e R s m args below meth c Q G A nL cells slots ws (l0 :: l1 :: l2 :: some (.int x) :: r) pc st := fun H locs ls hP hD hS hl => lv_iload_n C.1 C.2.1 hdg rfl (hl.2.2 3 _ rfl) (k H locs ls hP hD hS hl)
theorem xistore_3 (C : CX p R s m args meth c cc nL own ret G tc A d) {l0 l1 l2 l3 : Option Value} {x : Int32} {r : List (Option Value)} (hdg : decode cc pc = .ok (.istore_n 3, 1)) (hb : xbl (l0 :: l1 :: l2 :: l3 :: r) 3 = true) (hn : 3 < nL) (k : xAT p l e R s m args below meth c Q G A nL cells slots ws (l0 :: l1 :: l2 :: some (.int x) :: r) (pc + 1) st) : xAT p l e R s m args below meth c Q G A nL cells slots ws (l0 :: l1 :: l2 :: l3 :: r) pc (.int x :: st) := fun H locs ls hP hD hS hl => lv_istore_n C.1 C.2.1 hdg rfl hl.has hn rfl (fun ls' h => k H locs ls' hP hD hS (xL.st1 hb h))
theorem xlload_3 (C : CX p R s m args meth c cc nL own ret G tc A d) {l0 l1 l2 : Option Value} {x : Int64} {r : List (Option Value)} (hdg : decode cc pc = .ok (.lload_n 3, 1)) (k : xAT p l e R s m args below meth c Q G A nL cells slots ws (l0 :: l1 :: l2 :: some (.long x) :: r) (pc + 1) (.long x :: st)) : xAT p l e R s m args below meth c Q G A nL cells slots ws (l0 :: l1 :: l2 :: some (.long x) :: r) pc st := fun H locs ls hP hD hS hl => lv_lload_n C.1 C.2.1 hdg rfl (hl.2.2 3 _ rfl) (k H locs ls hP hD hS hl)
theorem xlstore_3 (C : CX p R s m args meth c cc nL own ret G tc A d) {l0 l1 l2 l3 l4 : Option Value} {x : Int64} {r : List (Option Value)} (hdg : decode cc pc = .ok (.lstore_n 3, 1)) (hb : xbl (l0 :: l1 :: l2 :: l3 :: l4 :: r) 3 = true) (hn : 4 < nL) (k : xAT p l e R s m args below meth c Q G A nL cells slots ws (l0 :: l1 :: l2 :: some (.long x) :: none :: r) (pc + 1) st) : xAT p l e R s m args below meth c Q G A nL cells slots ws (l0 :: l1 :: l2 :: l3 :: l4 :: r) pc (.long x :: st) := fun H locs ls hP hD hS hl => lv_lstore_n C.1 C.2.1 hdg rfl hl.has hn rfl (fun ls' h => k H locs ls' hP hD hS (xL.st2 hb h))
theorem xaload_3 (C : CX p R s m args meth c cc nL own ret G tc A d) {l0 l1 l2 : Option Value} {x : Nat} {r : List (Option Value)} (hdg : decode cc pc = .ok (.aload_n 3, 1)) (k : xAT p l e R s m args below meth c Q G A nL cells slots ws (l0 :: l1 :: l2 :: some (.ref x) :: r) (pc + 1) (.ref x :: st)) : xAT p l e R s m args below meth c Q G A nL cells slots ws (l0 :: l1 :: l2 :: some (.ref x) :: r) pc st := fun H locs ls hP hD hS hl => lv_aload_n C.1 C.2.1 hdg rfl (hl.2.2 3 _ rfl) (k H locs ls hP hD hS hl)
theorem xastore_3 (C : CX p R s m args meth c cc nL own ret G tc A d) {l0 l1 l2 l3 : Option Value} {x : Nat} {r : List (Option Value)} (hdg : decode cc pc = .ok (.astore_n 3, 1)) (hb : xbl (l0 :: l1 :: l2 :: l3 :: r) 3 = true) (hn : 3 < nL) (k : xAT p l e R s m args below meth c Q G A nL cells slots ws (l0 :: l1 :: l2 :: some (.ref x) :: r) (pc + 1) st) : xAT p l e R s m args below meth c Q G A nL cells slots ws (l0 :: l1 :: l2 :: l3 :: r) pc (.ref x :: st) := fun H locs ls hP hD hS hl => lv_astore_n C.1 C.2.1 hdg rfl hl.has hn rfl (fun ls' h => k H locs ls' hP hD hS (xL.st1 hb h))
theorem xdload_3 (C : CX p R s m args meth c cc nL own ret G tc A d) {l0 l1 l2 : Option Value} {x : UInt64} {r : List (Option Value)} (hdg : decode cc pc = .ok (.dload_n 3, 1)) (k : xAT p l e R s m args below meth c Q G A nL cells slots ws (l0 :: l1 :: l2 :: some (.double x) :: r) (pc + 1) (.double x :: st)) : xAT p l e R s m args below meth c Q G A nL cells slots ws (l0 :: l1 :: l2 :: some (.double x) :: r) pc st := fun H locs ls hP hD hS hl => lv_dload_n C.1 C.2.1 hdg rfl (hl.2.2 3 _ rfl) (k H locs ls hP hD hS hl)
theorem xdstore_3 (C : CX p R s m args meth c cc nL own ret G tc A d) {l0 l1 l2 l3 l4 : Option Value} {x : UInt64} {r : List (Option Value)} (hdg : decode cc pc = .ok (.dstore_n 3, 1)) (hb : xbl (l0 :: l1 :: l2 :: l3 :: l4 :: r) 3 = true) (hn : 4 < nL) (k : xAT p l e R s m args below meth c Q G A nL cells slots ws (l0 :: l1 :: l2 :: some (.double x) :: none :: r) (pc + 1) st) : xAT p l e R s m args below meth c Q G A nL cells slots ws (l0 :: l1 :: l2 :: l3 :: l4 :: r) pc (.double x :: st) := fun H locs ls hP hD hS hl => lv_dstore_n C.1 C.2.1 hdg rfl hl.has hn rfl (fun ls' h => k H locs ls' hP hD hS (xL.st2 hb h))
theorem xiinc_3 (C : CX p R s m args meth c cc nL own ret G tc A d) {l0 l1 l2 : Option Value} {x : Int32} {n : Int} (v : Int32) {r : List (Option Value)} (hdg : decode cc pc = .ok (.iinc 3 n, 3)) (hv : x + Int32.ofInt n = v) (hb : xbl (l0 :: l1 :: l2 :: some (.int x) :: r) 3 = true) (hn : 3 < nL) (k : xAT p l e R s m args below meth c Q G A nL cells slots ws (l0 :: l1 :: l2 :: some (.int v) :: r) (pc + 3) st) : xAT p l e R s m args below meth c Q G A nL cells slots ws (l0 :: l1 :: l2 :: some (.int x) :: r) pc st := fun H locs ls hP hD hS hl => by
  obtain ⟨kk, hk⟩ := List.getElem?_of_mem (xlv_of (lv := l0 :: l1 :: l2 :: some (.int x) :: r) (i := 3) (v := .int x) rfl)
  exact lv_iinc C.1 C.2.1 hdg hl.has hk hv hn rfl (fun ls' h => k H locs ls' hP hD hS (xL.st1 hb h))
theorem xiload_4 (C : CX p R s m args meth c cc nL own ret G tc A d) {l0 l1 l2 l3 : Option Value} {x : Int32} {r : List (Option Value)} (hdg : decode cc pc = .ok (.iload 4, 2)) (k : xAT p l e R s m args below meth c Q G A nL cells slots ws (l0 :: l1 :: l2 :: l3 :: some (.int x) :: r) (pc + 2) (.int x :: st)) : xAT p l e R s m args below meth c Q G A nL cells slots ws (l0 :: l1 :: l2 :: l3 :: some (.int x) :: r) pc st := fun H locs ls hP hD hS hl => lv_iload C.1 C.2.1 hdg (hl.2.2 4 _ rfl) (k H locs ls hP hD hS hl)
theorem xistore_4 (C : CX p R s m args meth c cc nL own ret G tc A d) {l0 l1 l2 l3 l4 : Option Value} {x : Int32} {r : List (Option Value)} (hdg : decode cc pc = .ok (.istore 4, 2)) (hb : xbl (l0 :: l1 :: l2 :: l3 :: l4 :: r) 4 = true) (hn : 4 < nL) (k : xAT p l e R s m args below meth c Q G A nL cells slots ws (l0 :: l1 :: l2 :: l3 :: some (.int x) :: r) (pc + 2) st) : xAT p l e R s m args below meth c Q G A nL cells slots ws (l0 :: l1 :: l2 :: l3 :: l4 :: r) pc (.int x :: st) := fun H locs ls hP hD hS hl => lv_istore C.1 C.2.1 hdg hl.has hn rfl (fun ls' h => k H locs ls' hP hD hS (xL.st1 hb h))
theorem xlload_4 (C : CX p R s m args meth c cc nL own ret G tc A d) {l0 l1 l2 l3 : Option Value} {x : Int64} {r : List (Option Value)} (hdg : decode cc pc = .ok (.lload 4, 2)) (k : xAT p l e R s m args below meth c Q G A nL cells slots ws (l0 :: l1 :: l2 :: l3 :: some (.long x) :: r) (pc + 2) (.long x :: st)) : xAT p l e R s m args below meth c Q G A nL cells slots ws (l0 :: l1 :: l2 :: l3 :: some (.long x) :: r) pc st := fun H locs ls hP hD hS hl => lv_lload C.1 C.2.1 hdg (hl.2.2 4 _ rfl) (k H locs ls hP hD hS hl)
theorem xlstore_4 (C : CX p R s m args meth c cc nL own ret G tc A d) {l0 l1 l2 l3 l4 l5 : Option Value} {x : Int64} {r : List (Option Value)} (hdg : decode cc pc = .ok (.lstore 4, 2)) (hb : xbl (l0 :: l1 :: l2 :: l3 :: l4 :: l5 :: r) 4 = true) (hn : 5 < nL) (k : xAT p l e R s m args below meth c Q G A nL cells slots ws (l0 :: l1 :: l2 :: l3 :: some (.long x) :: none :: r) (pc + 2) st) : xAT p l e R s m args below meth c Q G A nL cells slots ws (l0 :: l1 :: l2 :: l3 :: l4 :: l5 :: r) pc (.long x :: st) := fun H locs ls hP hD hS hl => lv_lstore C.1 C.2.1 hdg hl.has hn rfl (fun ls' h => k H locs ls' hP hD hS (xL.st2 hb h))
theorem xaload_4 (C : CX p R s m args meth c cc nL own ret G tc A d) {l0 l1 l2 l3 : Option Value} {x : Nat} {r : List (Option Value)} (hdg : decode cc pc = .ok (.aload 4, 2)) (k : xAT p l e R s m args below meth c Q G A nL cells slots ws (l0 :: l1 :: l2 :: l3 :: some (.ref x) :: r) (pc + 2) (.ref x :: st)) : xAT p l e R s m args below meth c Q G A nL cells slots ws (l0 :: l1 :: l2 :: l3 :: some (.ref x) :: r) pc st := fun H locs ls hP hD hS hl => lv_aload C.1 C.2.1 hdg (hl.2.2 4 _ rfl) (k H locs ls hP hD hS hl)
theorem xastore_4 (C : CX p R s m args meth c cc nL own ret G tc A d) {l0 l1 l2 l3 l4 : Option Value} {x : Nat} {r : List (Option Value)} (hdg : decode cc pc = .ok (.astore 4, 2)) (hb : xbl (l0 :: l1 :: l2 :: l3 :: l4 :: r) 4 = true) (hn : 4 < nL) (k : xAT p l e R s m args below meth c Q G A nL cells slots ws (l0 :: l1 :: l2 :: l3 :: some (.ref x) :: r) (pc + 2) st) : xAT p l e R s m args below meth c Q G A nL cells slots ws (l0 :: l1 :: l2 :: l3 :: l4 :: r) pc (.ref x :: st) := fun H locs ls hP hD hS hl => lv_astore C.1 C.2.1 hdg hl.has hn rfl (fun ls' h => k H locs ls' hP hD hS (xL.st1 hb h))
theorem xdload_4 (C : CX p R s m args meth c cc nL own ret G tc A d) {l0 l1 l2 l3 : Option Value} {x : UInt64} {r : List (Option Value)} (hdg : decode cc pc = .ok (.dload 4, 2)) (k : xAT p l e R s m args below meth c Q G A nL cells slots ws (l0 :: l1 :: l2 :: l3 :: some (.double x) :: r) (pc + 2) (.double x :: st)) : xAT p l e R s m args below meth c Q G A nL cells slots ws (l0 :: l1 :: l2 :: l3 :: some (.double x) :: r) pc st := fun H locs ls hP hD hS hl => lv_dload C.1 C.2.1 hdg (hl.2.2 4 _ rfl) (k H locs ls hP hD hS hl)
theorem xdstore_4 (C : CX p R s m args meth c cc nL own ret G tc A d) {l0 l1 l2 l3 l4 l5 : Option Value} {x : UInt64} {r : List (Option Value)} (hdg : decode cc pc = .ok (.dstore 4, 2)) (hb : xbl (l0 :: l1 :: l2 :: l3 :: l4 :: l5 :: r) 4 = true) (hn : 5 < nL) (k : xAT p l e R s m args below meth c Q G A nL cells slots ws (l0 :: l1 :: l2 :: l3 :: some (.double x) :: none :: r) (pc + 2) st) : xAT p l e R s m args below meth c Q G A nL cells slots ws (l0 :: l1 :: l2 :: l3 :: l4 :: l5 :: r) pc (.double x :: st) := fun H locs ls hP hD hS hl => lv_dstore C.1 C.2.1 hdg hl.has hn rfl (fun ls' h => k H locs ls' hP hD hS (xL.st2 hb h))
theorem xiinc_4 (C : CX p R s m args meth c cc nL own ret G tc A d) {l0 l1 l2 l3 : Option Value} {x : Int32} {n : Int} (v : Int32) {r : List (Option Value)} (hdg : decode cc pc = .ok (.iinc 4 n, 3)) (hv : x + Int32.ofInt n = v) (hb : xbl (l0 :: l1 :: l2 :: l3 :: some (.int x) :: r) 4 = true) (hn : 4 < nL) (k : xAT p l e R s m args below meth c Q G A nL cells slots ws (l0 :: l1 :: l2 :: l3 :: some (.int v) :: r) (pc + 3) st) : xAT p l e R s m args below meth c Q G A nL cells slots ws (l0 :: l1 :: l2 :: l3 :: some (.int x) :: r) pc st := fun H locs ls hP hD hS hl => by
  obtain ⟨kk, hk⟩ := List.getElem?_of_mem (xlv_of (lv := l0 :: l1 :: l2 :: l3 :: some (.int x) :: r) (i := 4) (v := .int x) rfl)
  exact lv_iinc C.1 C.2.1 hdg hl.has hk hv hn rfl (fun ls' h => k H locs ls' hP hD hS (xL.st1 hb h))
theorem xiload_5 (C : CX p R s m args meth c cc nL own ret G tc A d) {l0 l1 l2 l3 l4 : Option Value} {x : Int32} {r : List (Option Value)} (hdg : decode cc pc = .ok (.iload 5, 2)) (k : xAT p l e R s m args below meth c Q G A nL cells slots ws (l0 :: l1 :: l2 :: l3 :: l4 :: some (.int x) :: r) (pc + 2) (.int x :: st)) : xAT p l e R s m args below meth c Q G A nL cells slots ws (l0 :: l1 :: l2 :: l3 :: l4 :: some (.int x) :: r) pc st := fun H locs ls hP hD hS hl => lv_iload C.1 C.2.1 hdg (hl.2.2 5 _ rfl) (k H locs ls hP hD hS hl)
theorem xistore_5 (C : CX p R s m args meth c cc nL own ret G tc A d) {l0 l1 l2 l3 l4 l5 : Option Value} {x : Int32} {r : List (Option Value)} (hdg : decode cc pc = .ok (.istore 5, 2)) (hb : xbl (l0 :: l1 :: l2 :: l3 :: l4 :: l5 :: r) 5 = true) (hn : 5 < nL) (k : xAT p l e R s m args below meth c Q G A nL cells slots ws (l0 :: l1 :: l2 :: l3 :: l4 :: some (.int x) :: r) (pc + 2) st) : xAT p l e R s m args below meth c Q G A nL cells slots ws (l0 :: l1 :: l2 :: l3 :: l4 :: l5 :: r) pc (.int x :: st) := fun H locs ls hP hD hS hl => lv_istore C.1 C.2.1 hdg hl.has hn rfl (fun ls' h => k H locs ls' hP hD hS (xL.st1 hb h))
theorem xlload_5 (C : CX p R s m args meth c cc nL own ret G tc A d) {l0 l1 l2 l3 l4 : Option Value} {x : Int64} {r : List (Option Value)} (hdg : decode cc pc = .ok (.lload 5, 2)) (k : xAT p l e R s m args below meth c Q G A nL cells slots ws (l0 :: l1 :: l2 :: l3 :: l4 :: some (.long x) :: r) (pc + 2) (.long x :: st)) : xAT p l e R s m args below meth c Q G A nL cells slots ws (l0 :: l1 :: l2 :: l3 :: l4 :: some (.long x) :: r) pc st := fun H locs ls hP hD hS hl => lv_lload C.1 C.2.1 hdg (hl.2.2 5 _ rfl) (k H locs ls hP hD hS hl)
theorem xlstore_5 (C : CX p R s m args meth c cc nL own ret G tc A d) {l0 l1 l2 l3 l4 l5 l6 : Option Value} {x : Int64} {r : List (Option Value)} (hdg : decode cc pc = .ok (.lstore 5, 2)) (hb : xbl (l0 :: l1 :: l2 :: l3 :: l4 :: l5 :: l6 :: r) 5 = true) (hn : 6 < nL) (k : xAT p l e R s m args below meth c Q G A nL cells slots ws (l0 :: l1 :: l2 :: l3 :: l4 :: some (.long x) :: none :: r) (pc + 2) st) : xAT p l e R s m args below meth c Q G A nL cells slots ws (l0 :: l1 :: l2 :: l3 :: l4 :: l5 :: l6 :: r) pc (.long x :: st) := fun H locs ls hP hD hS hl => lv_lstore C.1 C.2.1 hdg hl.has hn rfl (fun ls' h => k H locs ls' hP hD hS (xL.st2 hb h))
theorem xaload_5 (C : CX p R s m args meth c cc nL own ret G tc A d) {l0 l1 l2 l3 l4 : Option Value} {x : Nat} {r : List (Option Value)} (hdg : decode cc pc = .ok (.aload 5, 2)) (k : xAT p l e R s m args below meth c Q G A nL cells slots ws (l0 :: l1 :: l2 :: l3 :: l4 :: some (.ref x) :: r) (pc + 2) (.ref x :: st)) : xAT p l e R s m args below meth c Q G A nL cells slots ws (l0 :: l1 :: l2 :: l3 :: l4 :: some (.ref x) :: r) pc st := fun H locs ls hP hD hS hl => lv_aload C.1 C.2.1 hdg (hl.2.2 5 _ rfl) (k H locs ls hP hD hS hl)
theorem xastore_5 (C : CX p R s m args meth c cc nL own ret G tc A d) {l0 l1 l2 l3 l4 l5 : Option Value} {x : Nat} {r : List (Option Value)} (hdg : decode cc pc = .ok (.astore 5, 2)) (hb : xbl (l0 :: l1 :: l2 :: l3 :: l4 :: l5 :: r) 5 = true) (hn : 5 < nL) (k : xAT p l e R s m args below meth c Q G A nL cells slots ws (l0 :: l1 :: l2 :: l3 :: l4 :: some (.ref x) :: r) (pc + 2) st) : xAT p l e R s m args below meth c Q G A nL cells slots ws (l0 :: l1 :: l2 :: l3 :: l4 :: l5 :: r) pc (.ref x :: st) := fun H locs ls hP hD hS hl => lv_astore C.1 C.2.1 hdg hl.has hn rfl (fun ls' h => k H locs ls' hP hD hS (xL.st1 hb h))
theorem xdload_5 (C : CX p R s m args meth c cc nL own ret G tc A d) {l0 l1 l2 l3 l4 : Option Value} {x : UInt64} {r : List (Option Value)} (hdg : decode cc pc = .ok (.dload 5, 2)) (k : xAT p l e R s m args below meth c Q G A nL cells slots ws (l0 :: l1 :: l2 :: l3 :: l4 :: some (.double x) :: r) (pc + 2) (.double x :: st)) : xAT p l e R s m args below meth c Q G A nL cells slots ws (l0 :: l1 :: l2 :: l3 :: l4 :: some (.double x) :: r) pc st := fun H locs ls hP hD hS hl => lv_dload C.1 C.2.1 hdg (hl.2.2 5 _ rfl) (k H locs ls hP hD hS hl)
theorem xdstore_5 (C : CX p R s m args meth c cc nL own ret G tc A d) {l0 l1 l2 l3 l4 l5 l6 : Option Value} {x : UInt64} {r : List (Option Value)} (hdg : decode cc pc = .ok (.dstore 5, 2)) (hb : xbl (l0 :: l1 :: l2 :: l3 :: l4 :: l5 :: l6 :: r) 5 = true) (hn : 6 < nL) (k : xAT p l e R s m args below meth c Q G A nL cells slots ws (l0 :: l1 :: l2 :: l3 :: l4 :: some (.double x) :: none :: r) (pc + 2) st) : xAT p l e R s m args below meth c Q G A nL cells slots ws (l0 :: l1 :: l2 :: l3 :: l4 :: l5 :: l6 :: r) pc (.double x :: st) := fun H locs ls hP hD hS hl => lv_dstore C.1 C.2.1 hdg hl.has hn rfl (fun ls' h => k H locs ls' hP hD hS (xL.st2 hb h))
theorem xiinc_5 (C : CX p R s m args meth c cc nL own ret G tc A d) {l0 l1 l2 l3 l4 : Option Value} {x : Int32} {n : Int} (v : Int32) {r : List (Option Value)} (hdg : decode cc pc = .ok (.iinc 5 n, 3)) (hv : x + Int32.ofInt n = v) (hb : xbl (l0 :: l1 :: l2 :: l3 :: l4 :: some (.int x) :: r) 5 = true) (hn : 5 < nL) (k : xAT p l e R s m args below meth c Q G A nL cells slots ws (l0 :: l1 :: l2 :: l3 :: l4 :: some (.int v) :: r) (pc + 3) st) : xAT p l e R s m args below meth c Q G A nL cells slots ws (l0 :: l1 :: l2 :: l3 :: l4 :: some (.int x) :: r) pc st := fun H locs ls hP hD hS hl => by
  obtain ⟨kk, hk⟩ := List.getElem?_of_mem (xlv_of (lv := l0 :: l1 :: l2 :: l3 :: l4 :: some (.int x) :: r) (i := 5) (v := .int x) rfl)
  exact lv_iinc C.1 C.2.1 hdg hl.has hk hv hn rfl (fun ls' h => k H locs ls' hP hD hS (xL.st1 hb h))
theorem xiload_6 (C : CX p R s m args meth c cc nL own ret G tc A d) {l0 l1 l2 l3 l4 l5 : Option Value} {x : Int32} {r : List (Option Value)} (hdg : decode cc pc = .ok (.iload 6, 2)) (k : xAT p l e R s m args below meth c Q G A nL cells slots ws (l0 :: l1 :: l2 :: l3 :: l4 :: l5 :: some (.int x) :: r) (pc + 2) (.int x :: st)) : xAT p l e R s m args below meth c Q G A nL cells slots ws (l0 :: l1 :: l2 :: l3 :: l4 :: l5 :: some (.int x) :: r) pc st := fun H locs ls hP hD hS hl => lv_iload C.1 C.2.1 hdg (hl.2.2 6 _ rfl) (k H locs ls hP hD hS hl)
theorem xistore_6 (C : CX p R s m args meth c cc nL own ret G tc A d) {l0 l1 l2 l3 l4 l5 l6 : Option Value} {x : Int32} {r : List (Option Value)} (hdg : decode cc pc = .ok (.istore 6, 2)) (hb : xbl (l0 :: l1 :: l2 :: l3 :: l4 :: l5 :: l6 :: r) 6 = true) (hn : 6 < nL) (k : xAT p l e R s m args below meth c Q G A nL cells slots ws (l0 :: l1 :: l2 :: l3 :: l4 :: l5 :: some (.int x) :: r) (pc + 2) st) : xAT p l e R s m args below meth c Q G A nL cells slots ws (l0 :: l1 :: l2 :: l3 :: l4 :: l5 :: l6 :: r) pc (.int x :: st) := fun H locs ls hP hD hS hl => lv_istore C.1 C.2.1 hdg hl.has hn rfl (fun ls' h => k H locs ls' hP hD hS (xL.st1 hb h))
theorem xlload_6 (C : CX p R s m args meth c cc nL own ret G tc A d) {l0 l1 l2 l3 l4 l5 : Option Value} {x : Int64} {r : List (Option Value)} (hdg : decode cc pc = .ok (.lload 6, 2)) (k : xAT p l e R s m args below meth c Q G A nL cells slots ws (l0 :: l1 :: l2 :: l3 :: l4 :: l5 :: some (.long x) :: r) (pc + 2) (.long x :: st)) : xAT p l e R s m args below meth c Q G A nL cells slots ws (l0 :: l1 :: l2 :: l3 :: l4 :: l5 :: some (.long x) :: r) pc st := fun H locs ls hP hD hS hl => lv_lload C.1 C.2.1 hdg (hl.2.2 6 _ rfl) (k H locs ls hP hD hS hl)
theorem xlstore_6 (C : CX p R s m args meth c cc nL own ret G tc A d) {l0 l1 l2 l3 l4 l5 l6 l7 : Option Value} {x : Int64} {r : List (Option Value)} (hdg : decode cc pc = .ok (.lstore 6, 2)) (hb : xbl (l0 :: l1 :: l2 :: l3 :: l4 :: l5 :: l6 :: l7 :: r) 6 = true) (hn : 7 < nL) (k : xAT p l e R s m args below meth c Q G A nL cells slots ws (l0 :: l1 :: l2 :: l3 :: l4 :: l5 :: some (.long x) :: none :: r) (pc + 2) st) : xAT p l e R s m args below meth c Q G A nL cells slots ws (l0 :: l1 :: l2 :: l3 :: l4 :: l5 :: l6 :: l7 :: r) pc (.long x :: st) := fun H locs ls hP hD hS hl => lv_lstore C.1 C.2.1 hdg hl.has hn rfl (fun ls' h => k H locs ls' hP hD hS (xL.st2 hb h))
theorem xaload_6 (C : CX p R s m args meth c cc nL own ret G tc A d) {l0 l1 l2 l3 l4 l5 : Option Value} {x : Nat} {r : List (Option Value)} (hdg : decode cc pc = .ok (.aload 6, 2)) (k : xAT p l e R s m args below meth c Q G A nL cells slots ws (l0 :: l1 :: l2 :: l3 :: l4 :: l5 :: some (.ref x) :: r) (pc + 2) (.ref x :: st)) : xAT p l e R s m args below meth c Q G A nL cells slots ws (l0 :: l1 :: l2 :: l3 :: l4 :: l5 :: some (.ref x) :: r) pc st := fun H locs ls hP hD hS hl => lv_aload C.1 C.2.1 hdg (hl.2.2 6 _ rfl) (k H locs ls hP hD hS hl)
theorem xastore_6 (C : CX p R s m args meth c cc nL own ret G tc A d) {l0 l1 l2 l3 l4 l5 l6 : Option Value} {x : Nat} {r : List (Option Value)} (hdg : decode cc pc = .ok (.astore 6, 2)) (hb : xbl (l0 :: l1 :: l2 :: l3 :: l4 :: l5 :: l6 :: r) 6 = true) (hn : 6 < nL) (k : xAT p l e R s m args below meth c Q G A nL cells slots ws (l0 :: l1 :: l2 :: l3 :: l4 :: l5 :: some (.ref x) :: r) (pc + 2) st) : xAT p l e R s m args below meth c Q G A nL cells slots ws (l0 :: l1 :: l2 :: l3 :: l4 :: l5 :: l6 :: r) pc (.ref x :: st) := fun H locs ls hP hD hS hl => lv_astore C.1 C.2.1 hdg hl.has hn rfl (fun ls' h => k H locs ls' hP hD hS (xL.st1 hb h))
theorem xdload_6 (C : CX p R s m args meth c cc nL own ret G tc A d) {l0 l1 l2 l3 l4 l5 : Option Value} {x : UInt64} {r : List (Option Value)} (hdg : decode cc pc = .ok (.dload 6, 2)) (k : xAT p l e R s m args below meth c Q G A nL cells slots ws (l0 :: l1 :: l2 :: l3 :: l4 :: l5 :: some (.double x) :: r) (pc + 2) (.double x :: st)) : xAT p l e R s m args below meth c Q G A nL cells slots ws (l0 :: l1 :: l2 :: l3 :: l4 :: l5 :: some (.double x) :: r) pc st := fun H locs ls hP hD hS hl => lv_dload C.1 C.2.1 hdg (hl.2.2 6 _ rfl) (k H locs ls hP hD hS hl)
theorem xdstore_6 (C : CX p R s m args meth c cc nL own ret G tc A d) {l0 l1 l2 l3 l4 l5 l6 l7 : Option Value} {x : UInt64} {r : List (Option Value)} (hdg : decode cc pc = .ok (.dstore 6, 2)) (hb : xbl (l0 :: l1 :: l2 :: l3 :: l4 :: l5 :: l6 :: l7 :: r) 6 = true) (hn : 7 < nL) (k : xAT p l e R s m args below meth c Q G A nL cells slots ws (l0 :: l1 :: l2 :: l3 :: l4 :: l5 :: some (.double x) :: none :: r) (pc + 2) st) : xAT p l e R s m args below meth c Q G A nL cells slots ws (l0 :: l1 :: l2 :: l3 :: l4 :: l5 :: l6 :: l7 :: r) pc (.double x :: st) := fun H locs ls hP hD hS hl => lv_dstore C.1 C.2.1 hdg hl.has hn rfl (fun ls' h => k H locs ls' hP hD hS (xL.st2 hb h))
theorem xiinc_6 (C : CX p R s m args meth c cc nL own ret G tc A d) {l0 l1 l2 l3 l4 l5 : Option Value} {x : Int32} {n : Int} (v : Int32) {r : List (Option Value)} (hdg : decode cc pc = .ok (.iinc 6 n, 3)) (hv : x + Int32.ofInt n = v) (hb : xbl (l0 :: l1 :: l2 :: l3 :: l4 :: l5 :: some (.int x) :: r) 6 = true) (hn : 6 < nL) (k : xAT p l e R s m args below meth c Q G A nL cells slots ws (l0 :: l1 :: l2 :: l3 :: l4 :: l5 :: some (.int v) :: r) (pc + 3) st) : xAT p l e R s m args below meth c Q G A nL cells slots ws (l0 :: l1 :: l2 :: l3 :: l4 :: l5 :: some (.int x) :: r) pc st := fun H locs ls hP hD hS hl => by
  obtain ⟨kk, hk⟩ := List.getElem?_of_mem (xlv_of (lv := l0 :: l1 :: l2 :: l3 :: l4 :: l5 :: some (.int x) :: r) (i := 6) (v := .int x) rfl)
  exact lv_iinc C.1 C.2.1 hdg hl.has hk hv hn rfl (fun ls' h => k H locs ls' hP hD hS (xL.st1 hb h))
theorem xiload_7 (C : CX p R s m args meth c cc nL own ret G tc A d) {l0 l1 l2 l3 l4 l5 l6 : Option Value} {x : Int32} {r : List (Option Value)} (hdg : decode cc pc = .ok (.iload 7, 2)) (k : xAT p l e R s m args below meth c Q G A nL cells slots ws (l0 :: l1 :: l2 :: l3 :: l4 :: l5 :: l6 :: some (.int x) :: r) (pc + 2) (.int x :: st)) : xAT p l e R s m args below meth c Q G A nL cells slots ws (l0 :: l1 :: l2 :: l3 :: l4 :: l5 :: l6 :: some (.int x) :: r) pc st := fun H locs ls hP hD hS hl => lv_iload C.1 C.2.1 hdg (hl.2.2 7 _ rfl) (k H locs ls hP hD hS hl)
theorem xistore_7 (C : CX p R s m args meth c cc nL own ret G tc A d) {l0 l1 l2 l3 l4 l5 l6 l7 : Option Value} {x : Int32} {r : List (Option Value)} (hdg : decode cc pc = .ok (.istore 7, 2)) (hb : xbl (l0 :: l1 :: l2 :: l3 :: l4 :: l5 :: l6 :: l7 :: r) 7 = true) (hn : 7 < nL) (k : xAT p l e R s m args below meth c Q G A nL cells slots ws (l0 :: l1 :: l2 :: l3 :: l4 :: l5 :: l6 :: some (.int x) :: r) (pc + 2) st) : xAT p l e R s m args below meth c Q G A nL cells slots ws (l0 :: l1 :: l2 :: l3 :: l4 :: l5 :: l6 :: l7 :: r) pc (.int x :: st) := fun H locs ls hP hD hS hl => lv_istore C.1 C.2.1 hdg hl.has hn rfl (fun ls' h => k H locs ls' hP hD hS (xL.st1 hb h))
theorem xlload_7 (C : CX p R s m args meth c cc nL own ret G tc A d) {l0 l1 l2 l3 l4 l5 l6 : Option Value} {x : Int64} {r : List (Option Value)} (hdg : decode cc pc = .ok (.lload 7, 2)) (k : xAT p l e R s m args below meth c Q G A nL cells slots ws (l0 :: l1 :: l2 :: l3 :: l4 :: l5 :: l6 :: some (.long x) :: r) (pc + 2) (.long x :: st)) : xAT p l e R s m args below meth c Q G A nL cells slots ws (l0 :: l1 :: l2 :: l3 :: l4 :: l5 :: l6 :: some (.long x) :: r) pc st := fun H locs ls hP hD hS hl => lv_lload C.1 C.2.1 hdg (hl.2.2 7 _ rfl) (k H locs ls hP hD hS hl)
theorem xlstore_7 (C : CX p R s m args meth c cc nL own ret G tc A d) {l0 l1 l2 l3 l4 l5 l6 l7 l8 : Option Value} {x : Int64} {r : List (Option Value)} (hdg : decode cc pc = .ok (.lstore 7, 2)) (hb : xbl (l0 :: l1 :: l2 :: l3 :: l4 :: l5 :: l6 :: l7 :: l8 :: r) 7 = true) (hn : 8 < nL) (k : xAT p l e R s m args below meth c Q G A nL cells slots ws (l0 :: l1 :: l2 :: l3 :: l4 :: l5 :: l6 :: some (.long x) :: none :: r) (pc + 2) st) : xAT p l e R s m args below meth c Q G A nL cells slots ws (l0 :: l1 :: l2 :: l3 :: l4 :: l5 :: l6 :: l7 :: l8 :: r) pc (.long x :: st) := fun H locs ls hP hD hS hl => lv_lstore C.1 C.2.1 hdg hl.has hn rfl (fun ls' h => k H locs ls' hP hD hS (xL.st2 hb h))
theorem xaload_7 (C : CX p R s m args meth c cc nL own ret G tc A d) {l0 l1 l2 l3 l4 l5 l6 : Option Value} {x : Nat} {r : List (Option Value)} (hdg : decode cc pc = .ok (.aload 7, 2)) (k : xAT p l e R s m args below meth c Q G A nL cells slots ws (l0 :: l1 :: l2 :: l3 :: l4 :: l5 :: l6 :: some (.ref x) :: r) (pc + 2) (.ref x :: st)) : xAT p l e R s m args below meth c Q G A nL cells slots ws (l0 :: l1 :: l2 :: l3 :: l4 :: l5 :: l6 :: some (.ref x) :: r) pc st := fun H locs ls hP hD hS hl => lv_aload C.1 C.2.1 hdg (hl.2.2 7 _ rfl) (k H locs ls hP hD hS hl)
theorem xastore_7 (C : CX p R s m args meth c cc nL own ret G tc A d) {l0 l1 l2 l3 l4 l5 l6 l7 : Option Value} {x : Nat} {r : List (Option Value)} (hdg : decode cc pc = .ok (.astore 7, 2)) (hb : xbl (l0 :: l1 :: l2 :: l3 :: l4 :: l5 :: l6 :: l7 :: r) 7 = true) (hn : 7 < nL) (k : xAT p l e R s m args below meth c Q G A nL cells slots ws (l0 :: l1 :: l2 :: l3 :: l4 :: l5 :: l6 :: some (.ref x) :: r) (pc + 2) st) : xAT p l e R s m args below meth c Q G A nL cells slots ws (l0 :: l1 :: l2 :: l3 :: l4 :: l5 :: l6 :: l7 :: r) pc (.ref x :: st) := fun H locs ls hP hD hS hl => lv_astore C.1 C.2.1 hdg hl.has hn rfl (fun ls' h => k H locs ls' hP hD hS (xL.st1 hb h))
theorem xdload_7 (C : CX p R s m args meth c cc nL own ret G tc A d) {l0 l1 l2 l3 l4 l5 l6 : Option Value} {x : UInt64} {r : List (Option Value)} (hdg : decode cc pc = .ok (.dload 7, 2)) (k : xAT p l e R s m args below meth c Q G A nL cells slots ws (l0 :: l1 :: l2 :: l3 :: l4 :: l5 :: l6 :: some (.double x) :: r) (pc + 2) (.double x :: st)) : xAT p l e R s m args below meth c Q G A nL cells slots ws (l0 :: l1 :: l2 :: l3 :: l4 :: l5 :: l6 :: some (.double x) :: r) pc st := fun H locs ls hP hD hS hl => lv_dload C.1 C.2.1 hdg (hl.2.2 7 _ rfl) (k H locs ls hP hD hS hl)
theorem xdstore_7 (C : CX p R s m args meth c cc nL own ret G tc A d) {l0 l1 l2 l3 l4 l5 l6 l7 l8 : Option Value} {x : UInt64} {r : List (Option Value)} (hdg : decode cc pc = .ok (.dstore 7, 2)) (hb : xbl (l0 :: l1 :: l2 :: l3 :: l4 :: l5 :: l6 :: l7 :: l8 :: r) 7 = true) (hn : 8 < nL) (k : xAT p l e R s m args below meth c Q G A nL cells slots ws (l0 :: l1 :: l2 :: l3 :: l4 :: l5 :: l6 :: some (.double x) :: none :: r) (pc + 2) st) : xAT p l e R s m args below meth c Q G A nL cells slots ws (l0 :: l1 :: l2 :: l3 :: l4 :: l5 :: l6 :: l7 :: l8 :: r) pc (.double x :: st) := fun H locs ls hP hD hS hl => lv_dstore C.1 C.2.1 hdg hl.has hn rfl (fun ls' h => k H locs ls' hP hD hS (xL.st2 hb h))
theorem xiinc_7 (C : CX p R s m args meth c cc nL own ret G tc A d) {l0 l1 l2 l3 l4 l5 l6 : Option Value} {x : Int32} {n : Int} (v : Int32) {r : List (Option Value)} (hdg : decode cc pc = .ok (.iinc 7 n, 3)) (hv : x + Int32.ofInt n = v) (hb : xbl (l0 :: l1 :: l2 :: l3 :: l4 :: l5 :: l6 :: some (.int x) :: r) 7 = true) (hn : 7 < nL) (k : xAT p l e R s m args below meth c Q G A nL cells slots ws (l0 :: l1 :: l2 :: l3 :: l4 :: l5 :: l6 :: some (.int v) :: r) (pc + 3) st) : xAT p l e R s m args below meth c Q G A nL cells slots ws (l0 :: l1 :: l2 :: l3 :: l4 :: l5 :: l6 :: some (.int x) :: r) pc st := fun H locs ls hP hD hS hl => by
  obtain ⟨kk, hk⟩ := List.getElem?_of_mem (xlv_of (lv := l0 :: l1 :: l2 :: l3 :: l4 :: l5 :: l6 :: some (.int x) :: r) (i := 7) (v := .int x) rfl)
  exact lv_iinc C.1 C.2.1 hdg hl.has hk hv hn rfl (fun ls' h => k H locs ls' hP hD hS (xL.st1 hb h))
theorem xiload_8 (C : CX p R s m args meth c cc nL own ret G tc A d) {l0 l1 l2 l3 l4 l5 l6 l7 : Option Value} {x : Int32} {r : List (Option Value)} (hdg : decode cc pc = .ok (.iload 8, 2)) (k : xAT p l e R s m args below meth c Q G A nL cells slots ws (l0 :: l1 :: l2 :: l3 :: l4 :: l5 :: l6 :: l7 :: some (.int x) :: r) (pc + 2) (.int x :: st)) : xAT p l e R s m args below meth c Q G A nL cells slots ws (l0 :: l1 :: l2 :: l3 :: l4 :: l5 :: l6 :: l7 :: some (.int x) :: r) pc st := fun H locs ls hP hD hS hl => lv_iload C.1 C.2.1 hdg (hl.2.2 8 _ rfl) (k H locs ls hP hD hS hl)
theorem xistore_8 (C : CX p R s m args meth c cc nL own ret G tc A d) {l0 l1 l2 l3 l4 l5 l6 l7 l8 : Option Value} {x : Int32} {r : List (Option Value)} (hdg : decode cc pc = .ok (.istore 8, 2)) (hb : xbl (l0 :: l1 :: l2 :: l3 :: l4 :: l5 :: l6 :: l7 :: l8 :: r) 8 = true) (hn : 8 < nL) (k : xAT p l e R s m args below meth c Q G A nL cells slots ws (l0 :: l1 :: l2 :: l3 :: l4 :: l5 :: l6 :: l7 :: some (.int x) :: r) (pc + 2) st) : xAT p l e R s m args below meth c Q G A nL cells slots ws (l0 :: l1 :: l2 :: l3 :: l4 :: l5 :: l6 :: l7 :: l8 :: r) pc (.int x :: st) := fun H locs ls hP hD hS hl => lv_istore C.1 C.2.1 hdg hl.has hn rfl (fun ls' h => k H locs ls' hP hD hS (xL.st1 hb h))
theorem xlload_8 (C : CX p R s m args meth c cc nL own ret G tc A d) {l0 l1 l2 l3 l4 l5 l6 l7 : Option Value} {x : Int64} {r : List (Option Value)} (hdg : decode cc pc = .ok (.lload 8, 2)) (k : xAT p l e R s m args below meth c Q G A nL cells slots ws (l0 :: l1 :: l2 :: l3 :: l4 :: l5 :: l6 :: l7 :: some (.long x) :: r) (pc + 2) (.long x :: st)) : xAT p l e R s m args below meth c Q G A nL cells slots ws (l0 :: l1 :: l2 :: l3 :: l4 :: l5 :: l6 :: l7 :: some (.long x) :: r) pc st := fun H locs ls hP hD hS hl => lv_lload C.1 C.2.1 hdg (hl.2.2 8 _ rfl) (k H locs ls hP hD hS hl)
theorem xlstore_8 (C : CX p R s m args meth c cc nL own ret G tc A d) {l0 l1 l2 l3 l4 l5 l6 l7 l8 l9 : Option Value} {x : Int64} {r : List (Option Value)} (hdg : decode cc pc = .ok (.lstore 8, 2)) (hb : xbl (l0 :: l1 :: l2 :: l3 :: l4 :: l5 :: l6 :: l7 :: l8 :: l9 :: r) 8 = true) (hn : 9 < nL) (k : xAT p l e R s m args below meth c Q G A nL cells slots ws (l0 :: l1 :: l2 :: l3 :: l4 :: l5 :: l6 :: l7 :: some (.long x) :: none :: r) (pc + 2) st) : xAT p l e R s m args below meth c Q G A nL cells slots ws (l0 :: l1 :: l2 :: l3 :: l4 :: l5 :: l6 :: l7 :: l8 :: l9 :: r) pc (.long x :: st) := fun H locs ls hP hD hS hl => lv_lstore C.1 C.2.1 hdg hl.has hn rfl (fun ls' h => k H locs ls' hP hD hS (xL.st2 hb h))
theorem xaload_8 (C : CX p R s m args meth c cc nL own ret G tc A d) {l0 l1 l2 l3 l4 l5 l6 l7 : Option Value} {x : Nat} {r : List (Option Value)} (hdg : decode cc pc = .ok (.aload 8, 2)) (k : xAT p l e R s m args below meth c Q G A nL cells slots ws (l0 :: l1 :: l2 :: l3 :: l4 :: l5 :: l6 :: l7 :: some (.ref x) :: r) (pc + 2) (.ref x :: st)) : xAT p l e R s m args below meth c Q G A nL cells slots ws (l0 :: l1 :: l2 :: l3 :: l4 :: l5 :: l6 :: l7 :: some (.ref x) :: r) pc st := fun H locs ls hP hD hS hl => lv_aload C.1 C.2.1 hdg (hl.2.2 8 _ rfl) (k H locs ls hP hD hS hl)
theorem xastore_8 (C : CX p R s m args meth c cc nL own ret G tc A d) {l0 l1 l2 l3 l4 l5 l6 l7 l8 : Option Value} {x : Nat} {r : List (Option Value)} (hdg : decode cc pc = .ok (.astore 8, 2)) (hb : xbl (l0 :: l1 :: l2 :: l3 :: l4 :: l5 :: l6 :: l7 :: l8 :: r) 8 = true) (hn : 8 < nL) (k : xAT p l e R s m args below meth c Q G A nL cells slots ws (l0 :: l1 :: l2 :: l3 :: l4 :: l5 :: l6 :: l7 :: some (.ref x) :: r) (pc + 2) st) : xAT p l e R s m args below meth c Q G A nL cells slots ws (l0 :: l1 :: l2 :: l3 :: l4 :: l5 :: l6 :: l7 :: l8 :: r) pc (.ref x :: st) := fun H locs ls hP hD hS hl => lv_astore C.1 C.2.1 hdg hl.has hn rfl (fun ls' h => k H locs ls' hP hD hS (xL.st1 hb h))
theorem xdload_8 (C : CX p R s m args meth c cc nL own ret G tc A d) {l0 l1 l2 l3 l4 l5 l6 l7 : Option Value} {x : UInt64} {r : List (Option Value)} (hdg : decode cc pc = .ok (.dload 8, 2)) (k : xAT p l e R s m args below meth c Q G A nL cells slots ws (l0 :: l1 :: l2 :: l3 :: l4 :: l5 :: l6 :: l7 :: some (.double x) :: r) (pc + 2) (.double x :: st)) : xAT p l e R s m args below meth c Q G A nL cells slots ws (l0 :: l1 :: l2 :: l3 :: l4 :: l5 :: l6 :: l7 :: some (.double x) :: r) pc st := fun H locs ls hP hD hS hl => lv_dload C.1 C.2.1 hdg (hl.2.2 8 _ rfl) (k H locs ls hP hD hS hl)
theorem xdstore_8 (C : CX p R s m args meth c cc nL own ret G tc A d) {l0 l1 l2 l3 l4 l5 l6 l7 l8 l9 : Option Value} {x : UInt64} {r : List (Option Value)} (hdg : decode cc pc = .ok (.dstore 8, 2)) (hb : xbl (l0 :: l1 :: l2 :: l3 :: l4 :: l5 :: l6 :: l7 :: l8 :: l9 :: r) 8 = true) (hn : 9 < nL) (k : xAT p l e R s m args below meth c Q G A nL cells slots ws (l0 :: l1 :: l2 :: l3 :: l4 :: l5 :: l6 :: l7 :: some (.double x) :: none :: r) (pc + 2) st) : xAT p l e R s m args below meth c Q G A nL cells slots ws (l0 :: l1 :: l2 :: l3 :: l4 :: l5 :: l6 :: l7 :: l8 :: l9 :: r) pc (.double x :: st) := fun H locs ls hP hD hS hl => lv_dstore C.1 C.2.1 hdg hl.has hn rfl (fun ls' h => k H locs ls' hP hD hS (xL.st2 hb h))
theorem xiinc_8 (C : CX p R s m args meth c cc nL own ret G tc A d) {l0 l1 l2 l3 l4 l5 l6 l7 : Option Value} {x : Int32} {n : Int} (v : Int32) {r : List (Option Value)} (hdg : decode cc pc = .ok (.iinc 8 n, 3)) (hv : x + Int32.ofInt n = v) (hb : xbl (l0 :: l1 :: l2 :: l3 :: l4 :: l5 :: l6 :: l7 :: some (.int x) :: r) 8 = true) (hn : 8 < nL) (k : xAT p l e R s m args below meth c Q G A nL cells slots ws (l0 :: l1 :: l2 :: l3 :: l4 :: l5 :: l6 :: l7 :: some (.int v) :: r) (pc + 3) st) : xAT p l e R s m args below meth c Q G A nL cells slots ws (l0 :: l1 :: l2 :: l3 :: l4 :: l5 :: l6 :: l7 :: some (.int x) :: r) pc st := fun H locs ls hP hD hS hl => by
  obtain ⟨kk, hk⟩ := List.getElem?_of_mem (xlv_of (lv := l0 :: l1 :: l2 :: l3 :: l4 :: l5 :: l6 :: l7 :: some (.int x) :: r) (i := 8) (v := .int x) rfl)
  exact lv_iinc C.1 C.2.1 hdg hl.has hk hv hn rfl (fun ls' h => k H locs ls' hP hD hS (xL.st1 hb h))
theorem xiload_9 (C : CX p R s m args meth c cc nL own ret G tc A d) {l0 l1 l2 l3 l4 l5 l6 l7 l8 : Option Value} {x : Int32} {r : List (Option Value)} (hdg : decode cc pc = .ok (.iload 9, 2)) (k : xAT p l e R s m args below meth c Q G A nL cells slots ws (l0 :: l1 :: l2 :: l3 :: l4 :: l5 :: l6 :: l7 :: l8 :: some (.int x) :: r) (pc + 2) (.int x :: st)) : xAT p l e R s m args below meth c Q G A nL cells slots ws (l0 :: l1 :: l2 :: l3 :: l4 :: l5 :: l6 :: l7 :: l8 :: some (.int x) :: r) pc st := fun H locs ls hP hD hS hl => lv_iload C.1 C.2.1 hdg (hl.2.2 9 _ rfl) (k H locs ls hP hD hS hl)
theorem xistore_9 (C : CX p R s m args meth c cc nL own ret G tc A d) {l0 l1 l2 l3 l4 l5 l6 l7 l8 l9 : Option Value} {x : Int32} {r : List (Option Value)} (hdg : decode cc pc = .ok (.istore 9, 2)) (hb : xbl (l0 :: l1 :: l2 :: l3 :: l4 :: l5 :: l6 :: l7 :: l8 :: l9 :: r) 9 = true) (hn : 9 < nL) (k : xAT p l e R s m args below meth c Q G A nL cells slots ws (l0 :: l1 :: l2 :: l3 :: l4 :: l5 :: l6 :: l7 :: l8 :: some (.int x) :: r) (pc + 2) st) : xAT p l e R s m args below meth c Q G A nL cells slots ws (l0 :: l1 :: l2 :: l3 :: l4 :: l5 :: l6 :: l7 :: l8 :: l9 :: r) pc (.int x :: st) := fun H locs ls hP hD hS hl => lv_istore C.1 C.2.1 hdg hl.has hn rfl (fun ls' h => k H locs ls' hP hD hS (xL.st1 hb h))
theorem xlload_9 (C : CX p R s m args meth c cc nL own ret G tc A d) {l0 l1 l2 l3 l4 l5 l6 l7 l8 : Option Value} {x : Int64} {r : List (Option Value)} (hdg : decode cc pc = .ok (.lload 9, 2)) (k : xAT p l e R s m args below meth c Q G A nL cells slots ws (l0 :: l1 :: l2 :: l3 :: l4 :: l5 :: l6 :: l7 :: l8 :: some (.long x) :: r) (pc + 2) (.long x :: st)) : xAT p l e R s m args below meth c Q G A nL cells slots ws (l0 :: l1 :: l2 :: l3 :: l4 :: l5 :: l6 :: l7 :: l8 :: some (.long x) :: r) pc st := fun H locs ls hP hD hS hl => lv_lload C.1 C.2.1 hdg (hl.2.2 9 _ rfl) (k H locs ls hP hD hS hl)
theorem xlstore_9 (C : CX p R s m args meth c cc nL own ret G tc A d) {l0 l1 l2 l3 l4 l5 l6 l7 l8 l9 l10 : Option Value} {x : Int64} {r : List (Option Value)} (hdg : decode cc pc = .ok (.lstore 9, 2)) (hb : xbl (l0 :: l1 :: l2 :: l3 :: l4 :: l5 :: l6 :: l7 :: l8 :: l9 :: l10 :: r) 9 = true) (hn : 10 < nL) (k : xAT p l e R s m args below meth c Q G A nL cells slots ws (l0 :: l1 :: l2 :: l3 :: l4 :: l5 :: l6 :: l7 :: l8 :: some (.long x) :: none :: r) (pc + 2) st) : xAT p l e R s m args below meth c Q G A nL cells slots ws (l0 :: l1 :: l2 :: l3 :: l4 :: l5 :: l6 :: l7 :: l8 :: l9 :: l10 :: r) pc (.long x :: st) := fun H locs ls hP hD hS hl => lv_lstore C.1 C.2.1 hdg hl.has hn rfl (fun ls' h => k H locs ls' hP hD hS (xL.st2 hb h))
theorem xaload_9 (C : CX p R s m args meth c cc nL own ret G tc A d) {l0 l1 l2 l3 l4 l5 l6 l7 l8 : Option Value} {x : Nat} {r : List (Option Value)} (hdg : decode cc pc = .ok (.aload 9, 2)) (k : xAT p l e R s m args below meth c Q G A nL cells slots ws (l0 :: l1 :: l2 :: l3 :: l4 :: l5 :: l6 :: l7 :: l8 :: some (.ref x) :: r) (pc + 2) (.ref x :: st)) : xAT p l e R s m args below meth c Q G A nL cells slots ws (l0 :: l1 :: l2 :: l3 :: l4 :: l5 :: l6 :: l7 :: l8 :: some (.ref x) :: r) pc st := fun H locs ls hP hD hS hl => lv_aload C.1 C.2.1 hdg (hl.2.2 9 _ rfl) (k H locs ls hP hD hS hl)
theorem xastore_9 (C : CX p R s m args meth c cc nL own ret G tc A d) {l0 l1 l2 l3 l4 l5 l6 l7 l8 l9 : Option Value} {x : Nat} {r : List (Option Value)} (hdg : decode cc pc = .ok (.astore 9, 2)) (hb : xbl (l0 :: l1 :: l2 :: l3 :: l4 :: l5 :: l6 :: l7 :: l8 :: l9 :: r) 9 = true) (hn : 9 < nL) (k : xAT p l e R s m args below meth c Q G A nL cells slots ws (l0 :: l1 :: l2 :: l3 :: l4 :: l5 :: l6 :: l7 :: l8 :: some (.ref x) :: r) (pc + 2) st) : xAT p l e R s m args below meth c Q G A nL cells slots ws (l0 :: l1 :: l2 :: l3 :: l4 :: l5 :: l6 :: l7 :: l8 :: l9 :: r) pc (.ref x :: st) := fun H locs ls hP hD hS hl => lv_astore C.1 C.2.1 hdg hl.has hn rfl (fun ls' h => k H locs ls' hP hD hS (xL.st1 hb h))
theorem xdload_9 (C : CX p R s m args meth c cc nL own ret G tc A d) {l0 l1 l2 l3 l4 l5 l6 l7 l8 : Option Value} {x : UInt64} {r : List (Option Value)} (hdg : decode cc pc = .ok (.dload 9, 2)) (k : xAT p l e R s m args below meth c Q G A nL cells slots ws (l0 :: l1 :: l2 :: l3 :: l4 :: l5 :: l6 :: l7 :: l8 :: some (.double x) :: r) (pc + 2) (.double x :: st)) : xAT p l e R s m args below meth c Q G A nL cells slots ws (l0 :: l1 :: l2 :: l3 :: l4 :: l5 :: l6 :: l7 :: l8 :: some (.double x) :: r) pc st := fun H locs ls hP hD hS hl => lv_dload C.1 C.2.1 hdg (hl.2.2 9 _ rfl) (k H locs ls hP hD hS hl)
theorem xdstore_9 (C : CX p R s m args meth c cc nL own ret G tc A d) {l0 l1 l2 l3 l4 l5 l6 l7 l8 l9 l10 : Option Value} {x : UInt64} {r : List (Option Value)} (hdg : decode cc pc = .ok (.dstore 9, 2)) (hb : xbl (l0 :: l1 :: l2 :: l3 :: l4 :: l5 :: l6 :: l7 :: l8 :: l9 :: l10 :: r) 9 = true) (hn : 10 < nL) (k : xAT p l e R s m args below meth c Q G A nL cells slots ws (l0 :: l1 :: l2 :: l3 :: l4 :: l5 :: l6 :: l7 :: l8 :: some (.double x) :: none :: r) (pc + 2) st) : xAT p l e R s m args below meth c Q G A nL cells slots ws (l0 :: l1 :: l2 :: l3 :: l4 :: l5 :: l6 :: l7 :: l8 :: l9 :: l10 :: r) pc (.double x :: st) := fun H locs ls hP hD hS hl => lv_dstore C.1 C.2.1 hdg hl.has hn rfl (fun ls' h => k H locs ls' hP hD hS (xL.st2 hb h))
theorem xiinc_9 (C : CX p R s m args meth c cc nL own ret G tc A d) {l0 l1 l2 l3 l4 l5 l6 l7 l8 : Option Value} {x : Int32} {n : Int} (v : Int32) {r : List (Option Value)} (hdg : decode cc pc = .ok (.iinc 9 n, 3)) (hv : x + Int32.ofInt n = v) (hb : xbl (l0 :: l1 :: l2 :: l3 :: l4 :: l5 :: l6 :: l7 :: l8 :: some (.int x) :: r) 9 = true) (hn : 9 < nL) (k : xAT p l e R s m args below meth c Q G A nL cells slots ws (l0 :: l1 :: l2 :: l3 :: l4 :: l5 :: l6 :: l7 :: l8 :: some (.int v) :: r) (pc + 3) st) : xAT p l e R s m args below meth c Q G A nL cells slots ws (l0 :: l1 :: l2 :: l3 :: l4 :: l5 :: l6 :: l7 :: l8 :: some (.int x) :: r) pc st := fun H locs ls hP hD hS hl => by
  obtain ⟨kk, hk⟩ := List.getElem?_of_mem (xlv_of (lv := l0 :: l1 :: l2 :: l3 :: l4 :: l5 :: l6 :: l7 :: l8 :: some (.int x) :: r) (i := 9) (v := .int x) rfl)
  exact lv_iinc C.1 C.2.1 hdg hl.has hk hv hn rfl (fun ls' h => k H locs ls' hP hD hS (xL.st1 hb h))
theorem xiload_10 (C : CX p R s m args meth c cc nL own ret G tc A d) {l0 l1 l2 l3 l4 l5 l6 l7 l8 l9 : Option Value} {x : Int32} {r : List (Option Value)} (hdg : decode cc pc = .ok (.iload 10, 2)) (k : xAT p l e R s m args below meth c Q G A nL cells slots ws (l0 :: l1 :: l2 :: l3 :: l4 :: l5 :: l6 :: l7 :: l8 :: l9 :: some (.int x) :: r) (pc + 2) (.int x :: st)) : xAT p l e R s m args below meth c Q G A nL cells slots ws (l0 :: l1 :: l2 :: l3 :: l4 :: l5 :: l6 :: l7 :: l8 :: l9 :: some (.int x) :: r) pc st := fun H locs ls hP hD hS hl => lv_iload C.1 C.2.1 hdg (hl.2.2 10 _ rfl) (k H locs ls hP hD hS hl)
theorem xistore_10 (C : CX p R s m args meth c cc nL own ret G tc A d) {l0 l1 l2 l3 l4 l5 l6 l7 l8 l9 l10 : Option Value} {x : Int32} {r : List (Option Value)} (hdg : decode cc pc = .ok (.istore 10, 2)) (hb : xbl (l0 :: l1 :: l2 :: l3 :: l4 :: l5 :: l6 :: l7 :: l8 :: l9 :: l10 :: r) 10 = true) (hn : 10 < nL) (k : xAT p l e R s m args below meth c Q G A nL cells slots ws (l0 :: l1 :: l2 :: l3 :: l4 :: l5 :: l6 :: l7 :: l8 :: l9 :: some (.int x) :: r) (pc + 2) st) : xAT p l e R s m args below meth c Q G A nL cells slots ws (l0 :: l1 :: l2 :: l3 :: l4 :: l5 :: l6 :: l7 :: l8 :: l9 :: l10 :: r) pc (.int x :: st) := fun H locs ls hP hD hS hl => lv_istore C.1 C.2.1 hdg hl.has hn rfl (fun ls' h => k H locs ls' hP hD hS (xL.st1 hb h))
theorem xlload_10 (C : CX p R s m args meth c cc nL own ret G tc A d) {l0 l1 l2 l3 l4 l5 l6 l7 l8 l9 : Option Value} {x : Int64} {r : List (Option Value)} (hdg : decode cc pc = .ok (.lload 10, 2)) (k : xAT p l e R s m args below meth c Q G A nL cells slots ws (l0 :: l1 :: l2 :: l3 :: l4 :: l5 :: l6 :: l7 :: l8 :: l9 :: some (.long x) :: r) (pc + 2) (.long x :: st)) : xAT p l e R s m args below meth c Q G A nL cells slots ws (l0 :: l1 :: l2 :: l3 :: l4 :: l5 :: l6 :: l7 :: l8 :: l9 :: some (.long x) :: r) pc st := fun H locs ls hP hD hS hl => lv_lload C.1 C.2.1 hdg (hl.2.2 10 _ rfl) (k H locs ls hP hD hS hl)
theorem xlstore_10 (C : CX p R s m args meth c cc nL own ret G tc A d) {l0 l1 l2 l3 l4 l5 l6 l7 l8 l9 l10 l11 : Option Value} {x : Int64} {r : List (Option Value)} (hdg : decode cc pc = .ok (.lstore 10, 2)) (hb : xbl (l0 :: l1 :: l2 :: l3 :: l4 :: l5 :: l6 :: l7 :: l8 :: l9 :: l10 :: l11 :: r) 10 = true) (hn : 11 < nL) (k : xAT p l e R s m args below meth c Q G A nL cells slots ws (l0 :: l1 :: l2 :: l3 :: l4 :: l5 :: l6 :: l7 :: l8 :: l9 :: some (.long x) :: none :: r) (pc + 2) st) : xAT p l e R s m args below meth c Q G A nL cells slots ws (l0 :: l1 :: l2 :: l3 :: l4 :: l5 :: l6 :: l7 :: l8 :: l9 :: l10 :: l11 :: r) pc (.long x :: st) := fun H locs ls hP hD hS hl => lv_lstore C.1 C.2.1 hdg hl.has hn rfl (fun ls' h => k H locs ls' hP hD hS (xL.st2 hb h))
theorem xaload_10 (C : CX p R s m args meth c cc nL own ret G tc A d) {l0 l1 l2 l3 l4 l5 l6 l7 l8 l9 : Option Value} {x : Nat} {r : List (Option Value)} (hdg : decode cc pc = .ok (.aload 10, 2)) (k : xAT p l e R s m args below meth c Q G A nL cells slots ws (l0 :: l1 :: l2 :: l3 :: l4 :: l5 :: l6 :: l7 :: l8 :: l9 :: some (.ref x) :: r) (pc + 2) (.ref x :: st)) : xAT p l e R s m args below meth c Q G A nL cells slots ws (l0 :: l1 :: l2 :: l3 :: l4 :: l5 :: l6 :: l7 :: l8 :: l9 :: some (.ref x) :: r) pc st := fun H locs ls hP hD hS hl => lv_aload C.1 C.2.1 hdg (hl.2.2 10 _ rfl) (k H locs ls hP hD hS hl)
theorem xastore_10 (C : CX p R s m args meth c cc nL own ret G tc A d) {l0 l1 l2 l3 l4 l5 l6 l7 l8 l9 l10 : Option Value} {x : Nat} {r : List (Option Value)} (hdg : decode cc pc = .ok (.astore 10, 2)) (hb : xbl (l0 :: l1 :: l2 :: l3 :: l4 :: l5 :: l6 :: l7 :: l8 :: l9 :: l10 :: r) 10 = true) (hn : 10 < nL) (k : xAT p l e R s m args below meth c Q G A nL cells slots ws (l0 :: l1 :: l2 :: l3 :: l4 :: l5 :: l6 :: l7 :: l8 :: l9 :: some (.ref x) :: r) (pc + 2) st) : xAT p l e R s m args below meth c Q G A nL cells slots ws (l0 :: l1 :: l2 :: l3 :: l4 :: l5 :: l6 :: l7 :: l8 :: l9 :: l10 :: r) pc (.ref x :: st) := fun H locs ls hP hD hS hl => lv_astore C.1 C.2.1 hdg hl.has hn rfl (fun ls' h => k H locs ls' hP hD hS (xL.st1 hb h))
theorem xdload_10 (C : CX p R s m args meth c cc nL own ret G tc A d) {l0 l1 l2 l3 l4 l5 l6 l7 l8 l9 : Option Value} {x : UInt64} {r : List (Option Value)} (hdg : decode cc pc = .ok (.dload 10, 2)) (k : xAT p l e R s m args below meth c Q G A nL cells slots ws (l0 :: l1 :: l2 :: l3 :: l4 :: l5 :: l6 :: l7 :: l8 :: l9 :: some (.double x) :: r) (pc + 2) (.double x :: st)) : xAT p l e R s m args below meth c Q G A nL cells slots ws (l0 :: l1 :: l2 :: l3 :: l4 :: l5 :: l6 :: l7 :: l8 :: l9 :: some (.double x) :: r) pc st := fun H locs ls hP hD hS hl => lv_dload C.1 C.2.1 hdg (hl.2.2 10 _ rfl) (k H locs ls hP hD hS hl)
theorem xdstore_10 (C : CX p R s m args meth c cc nL own ret G tc A d) {l0 l1 l2 l3 l4 l5 l6 l7 l8 l9 l10 l11 : Option Value} {x : UInt64} {r : List (Option Value)} (hdg : decode cc pc = .ok (.dstore 10, 2)) (hb : xbl (l0 :: l1 :: l2 :: l3 :: l4 :: l5 :: l6 :: l7 :: l8 :: l9 :: l10 :: l11 :: r) 10 = true) (hn : 11 < nL) (k : xAT p l e R s m args below meth c Q G A nL cells slots ws (l0 :: l1 :: l2 :: l3 :: l4 :: l5 :: l6 :: l7 :: l8 :: l9 :: some (.double x) :: none :: r) (pc + 2) st) : xAT p l e R s m args below meth c Q G A nL cells slots ws (l0 :: l1 :: l2 :: l3 :: l4 :: l5 :: l6 :: l7 :: l8 :: l9 :: l10 :: l11 :: r) pc (.double x :: st) := fun H locs ls hP hD hS hl => lv_dstore C.1 C.2.1 hdg hl.has hn rfl (fun ls' h => k H locs ls' hP hD hS (xL.st2 hb h))
theorem xiinc_10 (C : CX p R s m args meth c cc nL own ret G tc A d) {l0 l1 l2 l3 l4 l5 l6 l7 l8 l9 : Option Value} {x : Int32} {n : Int} (v : Int32) {r : List (Option Value)} (hdg : decode cc pc = .ok (.iinc 10 n, 3)) (hv : x + Int32.ofInt n = v) (hb : xbl (l0 :: l1 :: l2 :: l3 :: l4 :: l5 :: l6 :: l7 :: l8 :: l9 :: some (.int x) :: r) 10 = true) (hn : 10 < nL) (k : xAT p l e R s m args below meth c Q G A nL cells slots ws (l0 :: l1 :: l2 :: l3 :: l4 :: l5 :: l6 :: l7 :: l8 :: l9 :: some (.int v) :: r) (pc + 3) st) : xAT p l e R s m args below meth c Q G A nL cells slots ws (l0 :: l1 :: l2 :: l3 :: l4 :: l5 :: l6 :: l7 :: l8 :: l9 :: some (.int x) :: r) pc st := fun H locs ls hP hD hS hl => by
  obtain ⟨kk, hk⟩ := List.getElem?_of_mem (xlv_of (lv := l0 :: l1 :: l2 :: l3 :: l4 :: l5 :: l6 :: l7 :: l8 :: l9 :: some (.int x) :: r) (i := 10) (v := .int x) rfl)
  exact lv_iinc C.1 C.2.1 hdg hl.has hk hv hn rfl (fun ls' h => k H locs ls' hP hD hS (xL.st1 hb h))
theorem xiload_11 (C : CX p R s m args meth c cc nL own ret G tc A d) {l0 l1 l2 l3 l4 l5 l6 l7 l8 l9 l10 : Option Value} {x : Int32} {r : List (Option Value)} (hdg : decode cc pc = .ok (.iload 11, 2)) (k : xAT p l e R s m args below meth c Q G A nL cells slots ws (l0 :: l1 :: l2 :: l3 :: l4 :: l5 :: l6 :: l7 :: l8 :: l9 :: l10 :: some (.int x) :: r) (pc + 2) (.int x :: st)) : xAT p l e R s m args below meth c Q G A nL cells slots ws (l0 :: l1 :: l2 :: l3 :: l4 :: l5 :: l6 :: l7 :: l8 :: l9 :: l10 :: some (.int x) :: r) pc st := fun H locs ls hP hD hS hl => lv_iload C.1 C.2.1 hdg (hl.2.2 11 _ rfl) (k H locs ls hP hD hS hl)
theorem xistore_11 (C : CX p R s m args meth c cc nL own ret G tc A d) {l0 l1 l2 l3 l4 l5 l6 l7 l8 l9 l10 l11 : Option Value} {x : Int32} {r : List (Option Value)} (hdg : decode cc pc = .ok (.istore 11, 2)) (hb : xbl (l0 :: l1 :: l2 :: l3 :: l4 :: l5 :: l6 :: l7 :: l8 :: l9 :: l10 :: l11 :: r) 11 = true) (hn : 11 < nL) (k : xAT p l e R s m args below meth c Q G A nL cells slots ws (l0 :: l1 :: l2 :: l3 :: l4 :: l5 :: l6 :: l7 :: l8 :: l9 :: l10 :: some (.int x) :: r) (pc + 2) st) : xAT p l e R s m args below meth c Q G A nL cells slots ws (l0 :: l1 :: l2 :: l3 :: l4 :: l5 :: l6 :: l7 :: l8 :: l9 :: l10 :: l11 :: r) pc (.int x :: st) := fun H locs ls hP hD hS hl => lv_istore C.1 C.2.1 hdg hl.has hn rfl (fun ls' h => k H locs ls' hP hD hS (xL.st1 hb h))
theorem xlload_11 (C : CX p R s m args meth c cc nL own ret G tc A d) {l0 l1 l2 l3 l4 l5 l6 l7 l8 l9 l10 : Option Value} {x : Int64} {r : List (Option Value)} (hdg : decode cc pc = .ok (.lload 11, 2)) (k : xAT p l e R s m args below meth c Q G A nL cells slots ws (l0 :: l1 :: l2 :: l3 :: l4 :: l5 :: l6 :: l7 :: l8 :: l9 :: l10 :: some (.long x) :: r) (pc + 2) (.long x :: st)) : xAT p l e R s m args below meth c Q G A nL cells slots ws (l0 :: l1 :: l2 :: l3 :: l4 :: l5 :: l6 :: l7 :: l8 :: l9 :: l10 :: some (.long x) :: r) pc st := fun H locs ls hP hD hS hl => lv_lload C.1 C.2.1 hdg (hl.2.2 11 _ rfl) (k H locs ls hP hD hS hl)
theorem xlstore_11 (C : CX p R s m args meth c cc nL own ret G tc A d) {l0 l1 l2 l3 l4 l5 l6 l7 l8 l9 l10 l11 l12 : Option Value} {x : Int64} {r : List (Option Value)} (hdg : decode cc pc = .ok (.lstore 11, 2)) (hb : xbl (l0 :: l1 :: l2 :: l3 :: l4 :: l5 :: l6 :: l7 :: l8 :: l9 :: l10 :: l11 :: l12 :: r) 11 = true) (hn : 12 < nL) (k : xAT p l e R s m args below meth c Q G A nL cells slots ws (l0 :: l1 :: l2 :: l3 :: l4 :: l5 :: l6 :: l7 :: l8 :: l9 :: l10 :: some (.long x) :: none :: r) (pc + 2) st) : xAT p l e R s m args below meth c Q G A nL cells slots ws (l0 :: l1 :: l2 :: l3 :: l4 :: l5 :: l6 :: l7 :: l8 :: l9 :: l10 :: l11 :: l12 :: r) pc (.long x :: st) := fun H locs ls hP hD hS hl => lv_lstore C.1 C.2.1 hdg hl.has hn rfl (fun ls' h => k H locs ls' hP hD hS (xL.st2 hb h))
theorem xaload_11 (C : CX p R s m args meth c cc nL own ret G tc A d) {l0 l1 l2 l3 l4 l5 l6 l7 l8 l9 l10 : Option Value} {x : Nat} {r : List (Option Value)} (hdg : decode cc pc = .ok (.aload 11, 2)) (k : xAT p l e R s m args below meth c Q G A nL cells slots ws (l0 :: l1 :: l2 :: l3 :: l4 :: l5 :: l6 :: l7 :: l8 :: l9 :: l10 :: some (.ref x) :: r) (pc + 2) (.ref x :: st)) : xAT p l e R s m args below meth c Q G A nL cells slots ws (l0 :: l1 :: l2 :: l3 :: l4 :: l5 :: l6 :: l7 :: l8 :: l9 :: l10 :: some (.ref x) :: r) pc st := fun H locs ls hP hD hS hl => lv_aload C.1 C.2.1 hdg (hl.2.2 11 _ rfl) (k H locs ls hP hD hS hl)
theorem xastore_11 (C : CX p R s m args meth c cc nL own ret G tc A d) {l0 l1 l2 l3 l4 l5 l6 l7 l8 l9 l10 l11 : Option Value} {x : Nat} {r : List (Option Value)} (hdg : decode cc pc = .ok (.astore 11, 2)) (hb : xbl (l0 :: l1 :: l2 :: l3 :: l4 :: l5 :: l6 :: l7 :: l8 :: l9 :: l10 :: l11 :: r) 11 = true) (hn : 11 < nL) (k : xAT p l e R s m args below meth c Q G A nL cells slots ws (l0 :: l1 :: l2 :: l3 :: l4 :: l5 :: l6 :: l7 :: l8 :: l9 :: l10 :: some (.ref x) :: r) (pc + 2) st) : xAT p l e R s m args below meth c Q G A nL cells slots ws (l0 :: l1 :: l2 :: l3 :: l4 :: l5 :: l6 :: l7 :: l8 :: l9 :: l10 :: l11 :: r) pc (.ref x :: st) := fun H locs ls hP hD hS hl => lv_astore C.1 C.2.1 hdg hl.has hn rfl (fun ls' h => k H locs ls' hP hD hS (xL.st1 hb h))
theorem xdload_11 (C : CX p R s m args meth c cc nL own ret G tc A d) {l0 l1 l2 l3 l4 l5 l6 l7 l8 l9 l10 : Option Value} {x : UInt64} {r : List (Option Value)} (hdg : decode cc pc = .ok (.dload 11, 2)) (k : xAT p l e R s m args below meth c Q G A nL cells slots ws (l0 :: l1 :: l2 :: l3 :: l4 :: l5 :: l6 :: l7 :: l8 :: l9 :: l10 :: some (.double x) :: r) (pc + 2) (.double x :: st)) : xAT p l e R s m args below meth c Q G A nL cells slots ws (l0 :: l1 :: l2 :: l3 :: l4 :: l5 :: l6 :: l7 :: l8 :: l9 :: l10 :: some (.double x) :: r) pc st := fun H locs ls hP hD hS hl => lv_dload C.1 C.2.1 hdg (hl.2.2 11 _ rfl) (k H locs ls hP hD hS hl)
theorem xdstore_11 (C : CX p R s m args meth c cc nL own ret G tc A d) {l0 l1 l2 l3 l4 l5 l6 l7 l8 l9 l10 l11 l12 : Option Value} {x : UInt64} {r : List (Option Value)} (hdg : decode cc pc = .ok (.dstore 11, 2)) (hb : xbl (l0 :: l1 :: l2 :: l3 :: l4 :: l5 :: l6 :: l7 :: l8 :: l9 :: l10 :: l11 :: l12 :: r) 11 = true) (hn : 12 < nL) (k : xAT p l e R s m args below meth c Q G A nL cells slots ws (l0 :: l1 :: l2 :: l3 :: l4 :: l5 :: l6 :: l7 :: l8 :: l9 :: l10 :: some (.double x) :: none :: r) (pc + 2) st) : xAT p l e R s m args below meth c Q G A nL cells slots ws (l0 :: l1 :: l2 :: l3 :: l4 :: l5 :: l6 :: l7 :: l8 :: l9 :: l10 :: l11 :: l12 :: r) pc (.double x :: st) := fun H locs ls hP hD hS hl => lv_dstore C.1 C.2.1 hdg hl.has hn rfl (fun ls' h => k H locs ls' hP hD hS (xL.st2 hb h))
theorem xiinc_11 (C : CX p R s m args meth c cc nL own ret G tc A d) {l0 l1 l2 l3 l4 l5 l6 l7 l8 l9 l10 : Option Value} {x : Int32} {n : Int} (v : Int32) {r : List (Option Value)} (hdg : decode cc pc = .ok (.iinc 11 n, 3)) (hv : x + Int32.ofInt n = v) (hb : xbl (l0 :: l1 :: l2 :: l3 :: l4 :: l5 :: l6 :: l7 :: l8 :: l9 :: l10 :: some (.int x) :: r) 11 = true) (hn : 11 < nL) (k : xAT p l e R s m args below meth c Q G A nL cells slots ws (l0 :: l1 :: l2 :: l3 :: l4 :: l5 :: l6 :: l7 :: l8 :: l9 :: l10 :: some (.int v) :: r) (pc + 3) st) : xAT p l e R s m args below meth c Q G A nL cells slots ws (l0 :: l1 :: l2 :: l3 :: l4 :: l5 :: l6 :: l7 :: l8 :: l9 :: l10 :: some (.int x) :: r) pc st := fun H locs ls hP hD hS hl => by
  obtain ⟨kk, hk⟩ := List.getElem?_of_mem (xlv_of (lv := l0 :: l1 :: l2 :: l3 :: l4 :: l5 :: l6 :: l7 :: l8 :: l9 :: l10 :: some (.int x) :: r) (i := 11) (v := .int x) rfl)
  exact lv_iinc C.1 C.2.1 hdg hl.has hk hv hn rfl (fun ls' h => k H locs ls' hP hD hS (xL.st1 hb h))
end XA
end
section
section XH
variable {p : Program} {l : Launch} {e : Env} {R : Room} {s : State} {m : MethodId} {args : Array Value} {below : List Frame} {meth : Method} {c : Code} {Q : State → Prop} {G : va_G} {tc : Nat → ClassId} {A : Nat → Prop} {cc : ByteArray} {nL : Nat} {own : String} {ret : Option FieldType} {d cells slots pc : Nat} {ws : va_W} {lv : List (Option Value)} {st : List Value}

def xF (own : String) (idx ci k : Nat) : Prop := ∃ (C : String) (T : u_T) (N : Nat), vwCl[ci]? = some (C, T, N) ∧ k < N ∧ (∀ w ∈ u_ws C T N, w ∈ wsL_law) ∧ Cond.fieldLink own idx (T k).1 (T k).2.1 (T k).2.2.1 ∈ wsL_law
def xFw (own : String) (idx ci k : Nat) (ty : FieldType) (fin : Bool) : Prop := ∃ (C : String) (T : u_T) (N : Nat) (ty0 : Nat → FieldType), vwCl[ci]? = some (C, T, N) ∧ k < N ∧ (∀ w ∈ u_ws C T N, w ∈ wsL_law) ∧ Cond.fieldLink own idx (T k).1 (T k).2.1 (T k).2.2.1 ∈ wsL_law ∧ (∀ k, k < N → parseFieldDescriptor (T k).2.2.1 = some (ty0 k)) ∧ (∀ a, a < N → ∀ b, b < N → a ≠ b → (T a).2.1 ≠ (T b).2.1) ∧ (T k).2.2.2 = fin ∧ parseFieldDescriptor (T k).2.2.1 = some ty ∧ (T k).1 = C
theorem xtop {v w : Value} (h : v = w) (k : xAT p l e R s m args below meth c Q G A nL cells slots ws lv pc (w :: st)) : xAT p l e R s m args below meth c Q G A nL cells slots ws lv pc (v :: st) := h ▸ k
theorem xwid {k n : Nat} (h1 : cells ≤ k) (h2 : slots ≤ n) (kk : xAT p l e R s m args below meth c Q G A nL k n ws lv pc st) : xAT p l e R s m args below meth c Q G A nL cells slots ws lv pc st := fun H locs ls hP hD hS hl => W.widen h1 h2 (kk H locs ls hP hD hS hl)
theorem xws {w' : va_W} (h : ws = w') (k : xAT p l e R s m args below meth c Q G A nL cells slots w' lv pc st) : xAT p l e R s m args below meth c Q G A nL cells slots ws lv pc st := h ▸ k
theorem xlvw {lv' : List (Option Value)} (h : ∀ (i : Nat) (v : Value), lv'[i]? = some (some v) → lv[i]? = some (some v)) (k : xAT p l e R s m args below meth c Q G A nL cells slots ws lv' pc st) : xAT p l e R s m args below meth c Q G A nL cells slots ws lv pc st := fun H locs ls hP hD hS hl => k H locs ls hP hD hS ⟨hl.1, hl.2.1, fun i v hi => hl.2.2 i v (h i v hi)⟩
theorem xget (C : CX p R s m args meth c cc nL own ret G tc A d) {a ci k idx : Nat} {fs : List Value} {v : Value} (q0 : Nat) (hf : xF own idx ci k) (hdg : decode cc pc = .ok (.getfield idx, 3)) (he : ws[q0]? = some (a, .inr (ci, fs))) (hv : fs[k]? = some v) (kk : xAT p l e R s m args below meth c Q G A nL cells slots ws lv (pc + 3) (v :: st)) : xAT p l e R s m args below meth c Q G A nL cells slots ws lv pc (.ref a :: st) := by
  obtain ⟨C', T, N, h1, h2, h3, h4⟩ := hf
  exact fun H locs ls hP hD hS hl => va_get C.1 C.2.1 C.2.2.2.2.1 h3 C.ow C.K hP q0 he h1 k h2 (C.w h4) (fun _ h9 => h9) hv hdg (kk H locs ls hP hD hS hl)
theorem xput (C : CX p R s m args meth c cc nL own ret G tc A d) {a ci k idx : Nat} {fs : List Value} {v : Value} {ty : FieldType} (q0 : Nat) (w' : va_W) (hf : xFw own idx ci k ty false) (hdg : decode cc pc = .ok (.putfield idx, 3)) (he : ws[q0]? = some (a, .inr (ci, fs))) (hl : k < fs.length) (hn : narrow ty v = v) (hfit : fits ty v = true) (hw : ws.set q0 (a, .inr (ci, fs.set k v)) = w') (kk : xAT p l e R s m args below meth c Q G A nL cells slots w' lv (pc + 3) st) : xAT p l e R s m args below meth c Q G A nL cells slots ws lv pc (v :: .ref a :: st) := by
  obtain ⟨C', T, N, ty0, h1, h2, h3, h4, h5, h6, h7, h8, -⟩ := hf
  exact fun H locs ls hP hD hS hL => va_put C.1 C.2.1 C.2.2.2.2.1 h3 ty0 h5 h6 C.ow C.K hP hD hS q0 he h1 k h2 (C.w h4) (fun _ h9 => h9) h7 h8 hn hfit hl hdg (fun H1 locs1 q1 q2 q3 => kk H1 locs1 ls (hw ▸ q1) (hw ▸ q2) q3 hL)
theorem xputF (C : CX p R s m args meth c cc nL own ret G tc A d) (hin : meth.name = "<init>") {a ci k idx : Nat} {fs : List Value} {v : Value} {ty : FieldType} (q0 : Nat) (w' : va_W) (hf : xFw own idx ci k ty true) (ho : (vwCl[ci]?).map (fun q => q.1) = some own) (hdg : decode cc pc = .ok (.putfield idx, 3)) (he : ws[q0]? = some (a, .inr (ci, fs))) (hl : k < fs.length) (hn : narrow ty v = v) (hfit : fits ty v = true) (hw : ws.set q0 (a, .inr (ci, fs.set k v)) = w') (kk : xAT p l e R s m args below meth c Q G A nL cells slots w' lv (pc + 3) st) : xAT p l e R s m args below meth c Q G A nL cells slots ws lv pc (v :: .ref a :: st) := by
  obtain ⟨C', T, N, ty0, h1, h2, h3, h4, h5, h6, h7, h8, h10⟩ := hf
  rw [h1] at ho
  have ho : C' = own := by simpa using ho
  exact fun H locs ls hP hD hS hL => va_putF C.1 C.2.1 C.2.2.2.2.1 h3 ty0 h5 h6 C.ow C.K hP hD hS q0 he h1 k h2 (C.w h4) (fun _ h9 => h9) h7 hin (h10.trans ho) h8 hn hfit hl hdg (fun H1 locs1 q1 q2 q3 => kk H1 locs1 ls (hw ▸ q1) (hw ▸ q2) q3 hL)
theorem xiald (C : CX p R s m args meth c cc nL own ret G tc A d) {a n : Nat} {f : Nat → Int32} {i : Int32} (q0 : Nat) (hdg : decode cc pc = .ok (.iaload, 1)) (he : ws[q0]? = some (a, .inl (tc 0, n, .inl f))) (hin : vp_in i n) (kk : xAT p l e R s m args below meth c Q G A nL cells slots ws lv (pc + 1) (.int (f i.toNatClampNeg) :: st)) : xAT p l e R s m args below meth c Q G A nL cells slots ws lv pc (.int i :: .ref a :: st) := fun H locs ls hP hD hS hl => va_iald C.1 C.2.1 C.K hP q0 0 he rfl hin hdg (kk H locs ls hP hD hS hl)
theorem xialdN (C : CX p R s m args meth c cc nL own ret G tc A d) {a n : Nat} {f : Nat → Int32} {i : Int32} (j : Nat) (q0 : Nat) (hdg : decode cc pc = .ok (.iaload, 1)) (he : ws[q0]? = some (a, .inl (tc 0, n, .inl f))) (hj : j < n) (hi : i = nI j) (hn : n < 2 ^ 31) (kk : xAT p l e R s m args below meth c Q G A nL cells slots ws lv (pc + 1) (.int (f j) :: st)) : xAT p l e R s m args below meth c Q G A nL cells slots ws lv pc (.int i :: .ref a :: st) := by
  subst hi
  refine xiald C q0 hdg he (vp_in_nI hj hn) ?_
  rw [nI_clamp (Nat.lt_trans hj hn)]
  exact kk
theorem xiast (C : CX p R s m args meth c cc nL own ret G tc A d) {a n : Nat} {f : Nat → Int32} {i : Int32} {x : Int32} (q0 : Nat) (w' : va_W) (hdg : decode cc pc = .ok (.iastore, 1)) (he : ws[q0]? = some (a, .inl (tc 0, n, .inl f))) (hin : vp_in i n) (hw : ws.set q0 (a, .inl (tc 0, n, .inl (upd f i.toNatClampNeg x))) = w') (kk : xAT p l e R s m args below meth c Q G A nL cells slots w' lv (pc + 1) st) : xAT p l e R s m args below meth c Q G A nL cells slots ws lv pc (.int x :: .int i :: .ref a :: st) := fun H locs ls hP hD hS hl => va_iast C.1 C.2.1 C.K hP hD hS q0 0 he rfl hin hdg (fun H1 locs1 q1 q2 q3 => kk H1 locs1 ls (hw ▸ q1) (hw ▸ q2) q3 hl)
theorem xiastN (C : CX p R s m args meth c cc nL own ret G tc A d) {a n : Nat} {f : Nat → Int32} {i : Int32} {x : Int32} (j : Nat) (q0 : Nat) (w' : va_W) (hdg : decode cc pc = .ok (.iastore, 1)) (he : ws[q0]? = some (a, .inl (tc 0, n, .inl f))) (hj : j < n) (hi : i = nI j) (hn : n < 2 ^ 31) (hw : ws.set q0 (a, .inl (tc 0, n, .inl (upd f j x))) = w') (kk : xAT p l e R s m args below meth c Q G A nL cells slots w' lv (pc + 1) st) : xAT p l e R s m args below meth c Q G A nL cells slots ws lv pc (.int x :: .int i :: .ref a :: st) := by
  subst hi
  refine xiast C q0 w' hdg he (vp_in_nI hj hn) ?_ kk
  rw [nI_clamp (Nat.lt_trans hj hn)]
  exact hw
theorem xialen (C : CX p R s m args meth c cc nL own ret G tc A d) {a n : Nat} {f : Nat → Int32} (q0 : Nat) (hdg : decode cc pc = .ok (.arraylength, 1)) (he : ws[q0]? = some (a, .inl (tc 0, n, .inl f))) (kk : xAT p l e R s m args below meth c Q G A nL cells slots ws lv (pc + 1) (.int (nI n) :: st)) : xAT p l e R s m args below meth c Q G A nL cells slots ws lv pc (.ref a :: st) := fun H locs ls hP hD hS hl => va_alen C.1 C.2.1 C.K hP q0 0 he rfl rfl hdg (kk H locs ls hP hD hS hl)
theorem xzald (C : CX p R s m args meth c cc nL own ret G tc A d) {a n : Nat} {f : Nat → Int32} {i : Int32} (q0 : Nat) (hdg : decode cc pc = .ok (.baload, 1)) (he : ws[q0]? = some (a, .inl (tc 2, n, .inl f))) (hin : vp_in i n) (kk : xAT p l e R s m args below meth c Q G A nL cells slots ws lv (pc + 1) (.int (f i.toNatClampNeg) :: st)) : xAT p l e R s m args below meth c Q G A nL cells slots ws lv pc (.int i :: .ref a :: st) := fun H locs ls hP hD hS hl => va_zald C.1 C.2.1 C.K hP q0 2 he rfl hin hdg (kk H locs ls hP hD hS hl)
theorem xzaldN (C : CX p R s m args meth c cc nL own ret G tc A d) {a n : Nat} {f : Nat → Int32} {i : Int32} (j : Nat) (q0 : Nat) (hdg : decode cc pc = .ok (.baload, 1)) (he : ws[q0]? = some (a, .inl (tc 2, n, .inl f))) (hj : j < n) (hi : i = nI j) (hn : n < 2 ^ 31) (kk : xAT p l e R s m args below meth c Q G A nL cells slots ws lv (pc + 1) (.int (f j) :: st)) : xAT p l e R s m args below meth c Q G A nL cells slots ws lv pc (.int i :: .ref a :: st) := by
  subst hi
  refine xzald C q0 hdg he (vp_in_nI hj hn) ?_
  rw [nI_clamp (Nat.lt_trans hj hn)]
  exact kk
theorem xzast (C : CX p R s m args meth c cc nL own ret G tc A d) {a n : Nat} {f : Nat → Int32} {i : Int32} {x : Int32} (q0 : Nat) (w' : va_W) (hdg : decode cc pc = .ok (.bastore, 1)) (he : ws[q0]? = some (a, .inl (tc 2, n, .inl f))) (hin : vp_in i n) (hw : ws.set q0 (a, .inl (tc 2, n, .inl (upd f i.toNatClampNeg (vp_nar .boolean x)))) = w') (kk : xAT p l e R s m args below meth c Q G A nL cells slots w' lv (pc + 1) st) : xAT p l e R s m args below meth c Q G A nL cells slots ws lv pc (.int x :: .int i :: .ref a :: st) := fun H locs ls hP hD hS hl => va_zast C.1 C.2.1 C.K hP hD hS q0 2 he rfl hin hdg (fun H1 locs1 q1 q2 q3 => kk H1 locs1 ls (hw ▸ q1) (hw ▸ q2) q3 hl)
theorem xzastN (C : CX p R s m args meth c cc nL own ret G tc A d) {a n : Nat} {f : Nat → Int32} {i : Int32} {x : Int32} (j : Nat) (q0 : Nat) (w' : va_W) (hdg : decode cc pc = .ok (.bastore, 1)) (he : ws[q0]? = some (a, .inl (tc 2, n, .inl f))) (hj : j < n) (hi : i = nI j) (hn : n < 2 ^ 31) (hw : ws.set q0 (a, .inl (tc 2, n, .inl (upd f j (vp_nar .boolean x)))) = w') (kk : xAT p l e R s m args below meth c Q G A nL cells slots w' lv (pc + 1) st) : xAT p l e R s m args below meth c Q G A nL cells slots ws lv pc (.int x :: .int i :: .ref a :: st) := by
  subst hi
  refine xzast C q0 w' hdg he (vp_in_nI hj hn) ?_ kk
  rw [nI_clamp (Nat.lt_trans hj hn)]
  exact hw
theorem xzalen (C : CX p R s m args meth c cc nL own ret G tc A d) {a n : Nat} {f : Nat → Int32} (q0 : Nat) (hdg : decode cc pc = .ok (.arraylength, 1)) (he : ws[q0]? = some (a, .inl (tc 2, n, .inl f))) (kk : xAT p l e R s m args below meth c Q G A nL cells slots ws lv (pc + 1) (.int (nI n) :: st)) : xAT p l e R s m args below meth c Q G A nL cells slots ws lv pc (.ref a :: st) := fun H locs ls hP hD hS hl => va_alen C.1 C.2.1 C.K hP q0 2 he rfl rfl hdg (kk H locs ls hP hD hS hl)
theorem xlald (C : CX p R s m args meth c cc nL own ret G tc A d) {a n : Nat} {f : Nat → Int64} {i : Int32} (q0 : Nat) (hdg : decode cc pc = .ok (.laload, 1)) (he : ws[q0]? = some (a, .inl (tc 1, n, .inr (.inl f)))) (hin : vp_in i n) (kk : xAT p l e R s m args below meth c Q G A nL cells slots ws lv (pc + 1) (.long (f i.toNatClampNeg) :: st)) : xAT p l e R s m args below meth c Q G A nL cells slots ws lv pc (.int i :: .ref a :: st) := fun H locs ls hP hD hS hl => va_lald C.1 C.2.1 C.K hP q0 1 he rfl hin hdg (kk H locs ls hP hD hS hl)
theorem xlaldN (C : CX p R s m args meth c cc nL own ret G tc A d) {a n : Nat} {f : Nat → Int64} {i : Int32} (j : Nat) (q0 : Nat) (hdg : decode cc pc = .ok (.laload, 1)) (he : ws[q0]? = some (a, .inl (tc 1, n, .inr (.inl f)))) (hj : j < n) (hi : i = nI j) (hn : n < 2 ^ 31) (kk : xAT p l e R s m args below meth c Q G A nL cells slots ws lv (pc + 1) (.long (f j) :: st)) : xAT p l e R s m args below meth c Q G A nL cells slots ws lv pc (.int i :: .ref a :: st) := by
  subst hi
  refine xlald C q0 hdg he (vp_in_nI hj hn) ?_
  rw [nI_clamp (Nat.lt_trans hj hn)]
  exact kk
theorem xlast (C : CX p R s m args meth c cc nL own ret G tc A d) {a n : Nat} {f : Nat → Int64} {i : Int32} {x : Int64} (q0 : Nat) (w' : va_W) (hdg : decode cc pc = .ok (.lastore, 1)) (he : ws[q0]? = some (a, .inl (tc 1, n, .inr (.inl f)))) (hin : vp_in i n) (hw : ws.set q0 (a, .inl (tc 1, n, .inr (.inl (vp_updL f i.toNatClampNeg x)))) = w') (kk : xAT p l e R s m args below meth c Q G A nL cells slots w' lv (pc + 1) st) : xAT p l e R s m args below meth c Q G A nL cells slots ws lv pc (.long x :: .int i :: .ref a :: st) := fun H locs ls hP hD hS hl => va_last C.1 C.2.1 C.K hP hD hS q0 1 he rfl hin hdg (fun H1 locs1 q1 q2 q3 => kk H1 locs1 ls (hw ▸ q1) (hw ▸ q2) q3 hl)
theorem xlastN (C : CX p R s m args meth c cc nL own ret G tc A d) {a n : Nat} {f : Nat → Int64} {i : Int32} {x : Int64} (j : Nat) (q0 : Nat) (w' : va_W) (hdg : decode cc pc = .ok (.lastore, 1)) (he : ws[q0]? = some (a, .inl (tc 1, n, .inr (.inl f)))) (hj : j < n) (hi : i = nI j) (hn : n < 2 ^ 31) (hw : ws.set q0 (a, .inl (tc 1, n, .inr (.inl (vp_updL f j x)))) = w') (kk : xAT p l e R s m args below meth c Q G A nL cells slots w' lv (pc + 1) st) : xAT p l e R s m args below meth c Q G A nL cells slots ws lv pc (.long x :: .int i :: .ref a :: st) := by
  subst hi
  refine xlast C q0 w' hdg he (vp_in_nI hj hn) ?_ kk
  rw [nI_clamp (Nat.lt_trans hj hn)]
  exact hw
theorem xlalen (C : CX p R s m args meth c cc nL own ret G tc A d) {a n : Nat} {f : Nat → Int64} (q0 : Nat) (hdg : decode cc pc = .ok (.arraylength, 1)) (he : ws[q0]? = some (a, .inl (tc 1, n, .inr (.inl f)))) (kk : xAT p l e R s m args below meth c Q G A nL cells slots ws lv (pc + 1) (.int (nI n) :: st)) : xAT p l e R s m args below meth c Q G A nL cells slots ws lv pc (.ref a :: st) := fun H locs ls hP hD hS hl => va_alen C.1 C.2.1 C.K hP q0 1 he rfl rfl hdg (kk H locs ls hP hD hS hl)
theorem xdald (C : CX p R s m args meth c cc nL own ret G tc A d) {a n : Nat} {f : Nat → UInt64} {i : Int32} (q0 : Nat) (hdg : decode cc pc = .ok (.daload, 1)) (he : ws[q0]? = some (a, .inl (tc 3, n, .inr (.inr (.inr (.inl f)))))) (hin : vp_in i n) (kk : xAT p l e R s m args below meth c Q G A nL cells slots ws lv (pc + 1) (.double (f i.toNatClampNeg) :: st)) : xAT p l e R s m args below meth c Q G A nL cells slots ws lv pc (.int i :: .ref a :: st) := fun H locs ls hP hD hS hl => va_dald C.1 C.2.1 C.K hP q0 3 he rfl hin hdg (kk H locs ls hP hD hS hl)
theorem xdaldN (C : CX p R s m args meth c cc nL own ret G tc A d) {a n : Nat} {f : Nat → UInt64} {i : Int32} (j : Nat) (q0 : Nat) (hdg : decode cc pc = .ok (.daload, 1)) (he : ws[q0]? = some (a, .inl (tc 3, n, .inr (.inr (.inr (.inl f)))))) (hj : j < n) (hi : i = nI j) (hn : n < 2 ^ 31) (kk : xAT p l e R s m args below meth c Q G A nL cells slots ws lv (pc + 1) (.double (f j) :: st)) : xAT p l e R s m args below meth c Q G A nL cells slots ws lv pc (.int i :: .ref a :: st) := by
  subst hi
  refine xdald C q0 hdg he (vp_in_nI hj hn) ?_
  rw [nI_clamp (Nat.lt_trans hj hn)]
  exact kk
theorem xdast (C : CX p R s m args meth c cc nL own ret G tc A d) {a n : Nat} {f : Nat → UInt64} {i : Int32} {x : UInt64} (q0 : Nat) (w' : va_W) (hdg : decode cc pc = .ok (.dastore, 1)) (he : ws[q0]? = some (a, .inl (tc 3, n, .inr (.inr (.inr (.inl f)))))) (hin : vp_in i n) (hw : ws.set q0 (a, .inl (tc 3, n, .inr (.inr (.inr (.inl (vf_upd f i.toNatClampNeg x)))))) = w') (kk : xAT p l e R s m args below meth c Q G A nL cells slots w' lv (pc + 1) st) : xAT p l e R s m args below meth c Q G A nL cells slots ws lv pc (.double x :: .int i :: .ref a :: st) := fun H locs ls hP hD hS hl => va_dast C.1 C.2.1 C.K hP hD hS q0 3 he rfl hin hdg (fun H1 locs1 q1 q2 q3 => kk H1 locs1 ls (hw ▸ q1) (hw ▸ q2) q3 hl)
theorem xdastN (C : CX p R s m args meth c cc nL own ret G tc A d) {a n : Nat} {f : Nat → UInt64} {i : Int32} {x : UInt64} (j : Nat) (q0 : Nat) (w' : va_W) (hdg : decode cc pc = .ok (.dastore, 1)) (he : ws[q0]? = some (a, .inl (tc 3, n, .inr (.inr (.inr (.inl f)))))) (hj : j < n) (hi : i = nI j) (hn : n < 2 ^ 31) (hw : ws.set q0 (a, .inl (tc 3, n, .inr (.inr (.inr (.inl (vf_upd f j x)))))) = w') (kk : xAT p l e R s m args below meth c Q G A nL cells slots w' lv (pc + 1) st) : xAT p l e R s m args below meth c Q G A nL cells slots ws lv pc (.double x :: .int i :: .ref a :: st) := by
  subst hi
  refine xdast C q0 w' hdg he (vp_in_nI hj hn) ?_ kk
  rw [nI_clamp (Nat.lt_trans hj hn)]
  exact hw
theorem xdalen (C : CX p R s m args meth c cc nL own ret G tc A d) {a n : Nat} {f : Nat → UInt64} (q0 : Nat) (hdg : decode cc pc = .ok (.arraylength, 1)) (he : ws[q0]? = some (a, .inl (tc 3, n, .inr (.inr (.inr (.inl f)))))) (kk : xAT p l e R s m args below meth c Q G A nL cells slots ws lv (pc + 1) (.int (nI n) :: st)) : xAT p l e R s m args below meth c Q G A nL cells slots ws lv pc (.ref a :: st) := fun H locs ls hP hD hS hl => va_alen C.1 C.2.1 C.K hP q0 3 he rfl rfl hdg (kk H locs ls hP hD hS hl)

/-- the world with a callee's cells put back in their places -/
def xrep (ws : va_W) : List Nat → va_W → va_W
  | i :: is, c :: cs => xrep (ws.set i c) is cs
  | _, _ => ws
theorem xrep_get : ∀ (is : List Nat) (cs ws : va_W) (k : Nat) (q : Nat × va_E), (xrep ws is cs)[k]? = some q → (∃ j : Nat, is[j]? = some k ∧ cs[j]? = some q) ∨ (ws[k]? = some q ∧ ∀ j : Nat, is[j]? = some k → cs[j]? = none)
  | [], cs, ws, k, q, h => Or.inr ⟨by cases cs <;> exact h, fun j hj => by simp at hj⟩
  | i :: is, [], ws, k, q, h => Or.inr ⟨h, fun j _ => by simp⟩
  | i :: is, c :: cs, ws, k, q, h => by
    rcases xrep_get is cs (ws.set i c) k q h with ⟨j, h1, h2⟩ | ⟨h1, h2⟩
    · exact Or.inl ⟨j + 1, h1, h2⟩
    · by_cases e : i = k
      · subst e
        rw [List.getElem?_set_self'] at h1
        cases hl : ws[i]? with
        | none => rw [hl] at h1; simp at h1
        | some z =>
          rw [hl] at h1
          exact Or.inl ⟨0, rfl, by simpa using h1⟩
      · rw [List.getElem?_set_ne e] at h1
        refine Or.inr ⟨h1, fun j hj => ?_⟩
        cases j with
        | zero => exact absurd (by simpa using hj) e
        | succ j => exact h2 j hj
theorem xat {ws w : va_W} {is : List Nat} (hs : is.map (fun i => ws[i]?) = w.map some) (k : Nat) (q : Nat × va_E) (hq : w[k]? = some q) : ∃ i, is[k]? = some i ∧ ws[i]? = some q := by
  have h1 : (is.map (fun i => ws[i]?))[k]? = some (some q) := by rw [hs, List.getElem?_map, hq]; rfl
  rw [List.getElem?_map] at h1
  cases hi : is[k]? with
  | none => rw [hi] at h1; cases h1
  | some i => rw [hi] at h1; exact ⟨i, rfl, Option.some.inj h1⟩
theorem xcut_P {ws w0 : va_W} {H : Heap} {is : List Nat} (hC : is.map (fun i => ws[i]?) = w0.map some) (hP : va_P G vwCl ws H) : va_P G vwCl w0 H := fun k q hq => by
  obtain ⟨i, -, h⟩ := xat hC k q hq
  exact hP i q h
theorem xjoin {A0 : Nat → Prop} {ws w0 w1 : va_W} {H H1 : Heap} (hP : va_P G vwCl ws H) (hD : va_D A0 ws) (is : List Nat) (hC : is.map (fun i => ws[i]?) = w0.map some) (ha : w1.map Prod.fst = w0.map Prod.fst)
    (hk : ∀ q : Nat, q < H.size → ¬ va_A w0 H.size q → H1[q]? = H[q]?) (hF : ∀ q, va_A w0 H.size q → A0 q) (hP1 : va_P G vwCl w1 H1) (hD1 : va_D (va_A w0 H.size) w1) : va_P G vwCl (xrep ws is w1) H1 ∧ va_D A0 (xrep ws is w1) := by
  have hlen : is.length = w1.length := by
    have h1 := congrArg List.length hC
    have h2 := congrArg List.length ha
    simp only [List.length_map] at h1 h2
    omega
  have hcase : ∀ (k : Nat) (q : Nat × va_E), (xrep ws is w1)[k]? = some q → (∃ j : Nat, is[j]? = some k ∧ w1[j]? = some q) ∨ (ws[k]? = some q ∧ ∀ j : Nat, is[j]? ≠ some k) := by
    intro k q h
    rcases xrep_get is w1 ws k q h with h | ⟨h1, h2⟩
    · exact Or.inl h
    · refine Or.inr ⟨h1, fun j hj => ?_⟩
      have h3 := h2 j hj
      have h4 := (List.getElem?_eq_some_iff.mp hj).1
      rw [List.getElem?_eq_none_iff] at h3
      omega
  have hadr : ∀ (k : Nat) (q : Nat × va_E), (xrep ws is w1)[k]? = some q → ∃ q', ws[k]? = some q' ∧ q'.1 = q.1 := by
    intro k q h
    rcases hcase k q h with ⟨j, h1, h2⟩ | ⟨h1, -⟩
    · have h3 : (w1.map Prod.fst)[j]? = some q.1 := by rw [List.getElem?_map, h2]; rfl
      rw [ha, List.getElem?_map] at h3
      cases h5 : w0[j]? with
      | none => rw [h5] at h3; cases h3
      | some q0 =>
        rw [h5] at h3
        obtain ⟨i, h6, h7⟩ := xat hC j q0 h5
        rw [h1] at h6
        cases h6
        exact ⟨q0, h7, Option.some.inj h3⟩
    · exact ⟨q, h1, rfl⟩
  refine ⟨fun k q h => ?_, fun i j x y hx hy hxy => ?_, fun k q h => ?_⟩
  · rcases hcase k q h with ⟨j, -, h2⟩ | ⟨h1, h2⟩
    · exact hP1 j q h2
    · have hl := (hP k q h1).lt
      refine (hP k q h1).kept (hk q.1 hl ?_)
      rintro (⟨k2, e2, h3⟩ | h3)
      · obtain ⟨i, h4, h5⟩ := xat hC k2 (q.1, e2) h3
        have := hD.1 k i q (q.1, e2) h1 h5 rfl
        subst this
        exact h2 k2 h4
      · omega
  · obtain ⟨x', hx1, hx2⟩ := hadr i x hx
    obtain ⟨y', hy1, hy2⟩ := hadr j y hy
    exact hD.1 i j x' y' hx1 hy1 (by rw [hx2, hy2, hxy])
  · rcases hcase k q h with ⟨j, -, h2⟩ | ⟨h1, -⟩
    · exact hF _ (hD1.2 j q h2)
    · exact hD.2 k q h1
theorem xrep_self : ∀ (is : List Nat) (w0 ws : va_W), is.map (fun i => ws[i]?) = w0.map some → xrep ws is w0 = ws
  | [], w0, ws, _ => by cases w0 <;> rfl
  | i :: is, [], ws, h => rfl
  | i :: is, c :: cs, ws, h => by
    simp only [List.map_cons, List.cons.injEq] at h
    have e : ws.set i c = ws := by
      apply List.ext_getElem?
      intro n
      by_cases hn : i = n
      · subst hn
        rw [List.getElem?_set_self', h.1]
        rfl
      · rw [List.getElem?_set_ne hn]
    show xrep (ws.set i c) is cs = ws
    rw [e]
    exact xrep_self is cs ws h.2
/-- a method as it is called: its words, its number of arguments, the class of its object -/
def xMv (y : MethodName) (cy : ByteArray) (ny : Nat) (ry : Option FieldType) (n ci : Nat) : Prop := Cond.code y cy ny ry ∈ wsL_law ∧ Cond.initialized y.cls ∈ wsL_law ∧ Cond.instanceMethod y ∈ wsL_law ∧ Cond.selects y.cls y y ∈ wsL_law ∧ (y.cls ≠ "java/lang/invoke/MethodHandle" ∧ y.cls ≠ "java/lang/invoke/VarHandle" ∧ (parseMethodDescriptor y.desc).map (fun d => d.parameters.length) = some n) ∧ ny ≤ 20 ∧ ∃ (T : u_T) (N : Nat), vwCl[ci]? = some (y.cls, T, N)
def xMs (y : MethodName) (cy : ByteArray) (ny : Nat) (ry : Option FieldType) (n : Nat) : Prop := Cond.code y cy ny ry ∈ wsL_law ∧ Cond.initialized y.cls ∈ wsL_law ∧ Cond.static y ∈ wsL_law ∧ (y.cls ≠ "java/lang/invoke/MethodHandle" ∧ y.cls ≠ "java/lang/invoke/VarHandle" ∧ (parseMethodDescriptor y.desc).map (fun d => d.parameters.length) = some n) ∧ ny ≤ 20
theorem xgood {L : List Cond} (h : ∀ w ∈ L, w ∈ wsL_law) : GoodIn wsL_law L := fun w hw => wsL_good w (h w hw)
theorem xw_in {y : MethodName} {cy : ByteArray} {ny : Nat} {ry : Option FieldType} (h : Cond.code y cy ny ry ∈ wsL_law) : ∀ w ∈ xw y cy ny ry, w ∈ wsL_law := fun w hw => by
  rcases List.mem_cons.mp hw with rfl | hw
  · exact h
  · exact hw
theorem xcwV (C : CX p R s m args meth c cc nL own ret G tc A d) {y : MethodName} {cy : ByteArray} {ny n ci idx d' mc ms : Nat} {ry : Option FieldType} (hm : xMv y cy ny ry n ci) (hk : Cond.methodLink own idx y ∈ wsL_law) (hd : d' + 1 ≤ d) : CallW R s args own y.cls idx y cy ny ry (xw y cy ny ry) (xR d' mc ms) mc ms n := by
  obtain ⟨h1, h2, h3, h4, h5, h6, -⟩ := hm
  refine cwV n C.2.2.2.2.1 (xgood fun w hw => ?_) rfl rfl rfl ⟨rfl, h5⟩ ⟨?_, ?_⟩
  · unfold wsV at hw
    rcases List.mem_append.mp hw with hw | hw
    · simp only [List.mem_cons, List.mem_nil_iff, or_false] at hw
      rcases hw with rfl | rfl | rfl | rfl
      · exact hk
      · exact h3
      · exact h4
      · exact h2
    · exact xw_in h1 w hw
  · have := C.room.1
    show d' + 6 + 1 ≤ R.frames
    omega
  · have := C.room.2
    show 8 + (ny + 11) + (40 * d' + 120) ≤ R.locals
    omega
theorem xcwB (C : CX p R s m args meth c cc nL own ret G tc A d) {y : MethodName} {cy : ByteArray} {ny n idx d' mc ms : Nat} {ry : Option FieldType} (h1 : Cond.code y cy ny ry ∈ wsL_law) (h2 : Cond.initialized y.cls ∈ wsL_law) (h5 : y.cls ≠ "java/lang/invoke/MethodHandle" ∧ y.cls ≠ "java/lang/invoke/VarHandle" ∧ (parseMethodDescriptor y.desc).map (fun d => d.parameters.length) = some n) (h6 : ny ≤ 20) (hk : Cond.methodLink own idx y ∈ wsL_law) (hd : d' + 1 ≤ d) : CallB R s args own idx y cy ny ry (xw y cy ny ry) (xR d' mc ms) mc ms n := by
  refine callB_of n C.2.2.2.2.1 (xgood (xw_in h1)) rfl rfl rfl (C.w h2) (C.w hk) h5 ⟨?_, ?_⟩
  · have := C.room.1
    show d' + 6 + 1 ≤ R.frames
    omega
  · have := C.room.2
    show 8 + (ny + 11) + (40 * d' + 120) ≤ R.locals
    omega
theorem xcwN (C : CX p R s m args meth c cc nL own ret G tc A d) {y : MethodName} {cy : ByteArray} {ny n idx d' : Nat} {ry : Option FieldType} {host : String} (hm : xMs y cy ny ry n) (hk : va_Nw (.methodLinkNest own idx y host) s) (hd : d' + 1 ≤ d) : va_CN R s args own idx y host cy ny ry (xw y cy ny ry) (xR d' 0 0) 0 0 n := by
  obtain ⟨h1, h2, h3, h5, h6⟩ := hm
  refine va_cnB n C.2.2.2.2.1 (xgood (xw_in h1)) rfl rfl rfl hk (C.w h2) h5 ⟨?_, ?_⟩
  · have := C.room.1
    show d' + 6 + 1 ≤ R.frames
    omega
  · have := C.room.2
    show 8 + (ny + 11) + (40 * d' + 120) ≤ R.locals
    omega
theorem xprePre (C : CX p R s m args meth c cc nL own ret G tc A d) {H : Heap} {locs : List Loc} {av : List Value} {w0 : va_W} {is : List Nat} (hP : va_P G vwCl ws H) (hD : va_D A ws) (hS : va_S A s.heap H locs) (hC : is.map (fun i => ws[i]?) = w0.map some) (hnd : va_nd is = true) : ∀ U : State, U.heap = H → s.WarmedH U.vm → xPre G tc av w0 H.size av.toArray U := fun U hU hW =>
  ⟨rfl, by rw [hU], by rw [hU]; exact xcut_P hC hP, (hD.sub is hnd hC).weaken (fun _ _ _ _ => trivial), xE.warm hW C.E, by
    rw [hU]
    exact ((C.Z.kept hS.2.1).narrow (va_free hD hS C.al is hC)).moved hW.alike⟩
theorem xcallVi (C : CX p R s m args meth c cc nL own ret G tc A d) {y : MethodName} {cy : ByteArray} {ny n ci idx d' a : Nat} {ry : Option FieldType} {As : List Value} {fs : List Value} {w0 w1 : va_W} {r : Int32} (hm : xMv y cy ny ry n ci) (hk : Cond.methodLink own idx y ∈ wsL_law) (M : kI l y (xw y cy ny ry) d' G tc (.ref a :: As) w0 r w1) (hdg : decode cc pc = .ok (.invokevirtual idx, 3)) (q0 : Nat) (he : ws[q0]? = some (a, .inr (ci, fs))) (is : List Nat) (w' : va_W) {st0 : List Value} (hC : is.map (fun i => ws[i]?) = w0.map some) (hnd : va_nd is = true) (ha : w1.map Prod.fst = w0.map Prod.fst) (hw : xrep ws is w1 = w') (hn : As.length = n) (hd : d' + 1 ≤ d) (hs : st0 = As.reverse ++ .ref a :: st) (hcat : (st.map fun v => v.category).sum ≤ 8) (hcs : cells ≤ R.cells ∧ slots ≤ R.slots) (kk : xAT p l e R s m args below meth c Q G A nL cells slots w' lv (pc + 3) (.int r :: st)) : xAT p l e R s m args below meth c Q G A nL cells slots ws lv pc st0 := by
  intro H locs ls hP hD hS hl
  have hF := va_free hD hS C.al is hC
  obtain ⟨T9, N9, hc9⟩ := hm.2.2.2.2.2.2
  have hrec := va_recv C.K hP hc9 he
  refine va_calli (va_runV (As := As) (rest := st) C.call (M H.size) (xcwV C hm hk hd) ⟨xPre_blind, hrec, xprePre C hP hD hS hC hnd⟩ rfl hn (hl.1) hs (lv_room hcat) hdg ⟨by rw [Nat.add_zero]; exact hcs.1, by rw [Nat.add_zero]; exact hcs.2⟩) hS (fun q _ h => hF q h) hF (fun r9 u t H1 locs1 ht hvm hw9 hB hz1 hk1 hS1 => ?_)
  · subst hw9
    obtain ⟨hP1, hD1⟩ := hB
    rw [ht] at hP1
    obtain ⟨hP2, hD2⟩ := xjoin hP hD is hC ha hk1 hF hP1 hD1
    rw [hw] at hP2 hD2
    exact kk H1 locs1 ls hP2 hD2 hS1 hl
theorem xcallVi0 (C : CX p R s m args meth c cc nL own ret G tc A d) {y : MethodName} {cy : ByteArray} {ny n ci idx d' a : Nat} {ry : Option FieldType} {As : List Value} {fs : List Value} {w0 : va_W} {r : Int32} (hm : xMv y cy ny ry n ci) (hk : Cond.methodLink own idx y ∈ wsL_law) (M : kI l y (xw y cy ny ry) d' G tc (.ref a :: As) w0 r w0) (hdg : decode cc pc = .ok (.invokevirtual idx, 3)) (q0 : Nat) (he : ws[q0]? = some (a, .inr (ci, fs))) (is : List Nat) {st0 : List Value} (hC : is.map (fun i => ws[i]?) = w0.map some) (hnd : va_nd is = true) (hn : As.length = n) (hd : d' + 1 ≤ d) (hs : st0 = As.reverse ++ .ref a :: st) (hcat : (st.map fun v => v.category).sum ≤ 8) (hcs : cells ≤ R.cells ∧ slots ≤ R.slots) (kk : xAT p l e R s m args below meth c Q G A nL cells slots ws lv (pc + 3) (.int r :: st)) : xAT p l e R s m args below meth c Q G A nL cells slots ws lv pc st0 := xcallVi C hm hk M hdg q0 he is ws hC hnd rfl (xrep_self is w0 ws hC) hn hd hs hcat hcs kk
theorem xcallSi (C : CX p R s m args meth c cc nL own ret G tc A d) {y : MethodName} {cy : ByteArray} {ny n idx d' : Nat} {ry : Option FieldType} {As : List Value} {w0 w1 : va_W} {r : Int32} (hm : xMs y cy ny ry n) (hk : Cond.methodLink own idx y ∈ wsL_law) (M : kI l y (xw y cy ny ry) d' G tc As w0 r w1) (hdg : decode cc pc = .ok (.invokestatic idx, 3)) (is : List Nat) (w' : va_W) {st0 : List Value} (hC : is.map (fun i => ws[i]?) = w0.map some) (hnd : va_nd is = true) (ha : w1.map Prod.fst = w0.map Prod.fst) (hw : xrep ws is w1 = w') (hn : As.length = n) (hd : d' + 1 ≤ d) (hs : st0 = As.reverse ++ st) (hcat : (st.map fun v => v.category).sum ≤ 8) (hcs : cells ≤ R.cells ∧ slots ≤ R.slots) (kk : xAT p l e R s m args below meth c Q G A nL cells slots w' lv (pc + 3) (.int r :: st)) : xAT p l e R s m args below meth c Q G A nL cells slots ws lv pc st0 := by
  intro H locs ls hP hD hS hl
  have hF := va_free hD hS C.al is hC
  refine va_calli (va_runS (As := As) (rest := st) C.call (M H.size) ⟨xcwB C hm.1 hm.2.1 hm.2.2.2.1 hm.2.2.2.2 hk hd, C.w hm.2.2.1⟩ ⟨xPre_blind, xprePre C hP hD hS hC hnd⟩ rfl hn (hl.1) hs (lv_room hcat) hdg ⟨by rw [Nat.add_zero]; exact hcs.1, by rw [Nat.add_zero]; exact hcs.2⟩) hS (fun q _ h => hF q h) hF (fun r9 u t H1 locs1 ht hvm hw9 hB hz1 hk1 hS1 => ?_)
  · subst hw9
    obtain ⟨hP1, hD1⟩ := hB
    rw [ht] at hP1
    obtain ⟨hP2, hD2⟩ := xjoin hP hD is hC ha hk1 hF hP1 hD1
    rw [hw] at hP2 hD2
    exact kk H1 locs1 ls hP2 hD2 hS1 hl
theorem xcallSi0 (C : CX p R s m args meth c cc nL own ret G tc A d) {y : MethodName} {cy : ByteArray} {ny n idx d' : Nat} {ry : Option FieldType} {As : List Value} {w0 : va_W} {r : Int32} (hm : xMs y cy ny ry n) (hk : Cond.methodLink own idx y ∈ wsL_law) (M : kI l y (xw y cy ny ry) d' G tc As w0 r w0) (hdg : decode cc pc = .ok (.invokestatic idx, 3)) (is : List Nat) {st0 : List Value} (hC : is.map (fun i => ws[i]?) = w0.map some) (hnd : va_nd is = true) (hn : As.length = n) (hd : d' + 1 ≤ d) (hs : st0 = As.reverse ++ st) (hcat : (st.map fun v => v.category).sum ≤ 8) (hcs : cells ≤ R.cells ∧ slots ≤ R.slots) (kk : xAT p l e R s m args below meth c Q G A nL cells slots ws lv (pc + 3) (.int r :: st)) : xAT p l e R s m args below meth c Q G A nL cells slots ws lv pc st0 := xcallSi C hm hk M hdg is ws hC hnd rfl (xrep_self is w0 ws hC) hn hd hs hcat hcs kk
theorem xcallNi (C : CX p R s m args meth c cc nL own ret G tc A d) {y : MethodName} {cy : ByteArray} {ny n idx d' : Nat} {ry : Option FieldType} {As : List Value} {w0 w1 : va_W} {host : String} {r : Int32} (hm : xMs y cy ny ry n) (hk : va_Nw (.methodLinkNest own idx y host) s) (M : kI l y (xw y cy ny ry) d' G tc As w0 r w1) (hdg : decode cc pc = .ok (.invokestatic idx, 3)) (is : List Nat) (w' : va_W) {st0 : List Value} (hC : is.map (fun i => ws[i]?) = w0.map some) (hnd : va_nd is = true) (ha : w1.map Prod.fst = w0.map Prod.fst) (hw : xrep ws is w1 = w') (hn : As.length = n) (hd : d' + 1 ≤ d) (hs : st0 = As.reverse ++ st) (hcat : (st.map fun v => v.category).sum ≤ 8) (hcs : cells ≤ R.cells ∧ slots ≤ R.slots) (kk : xAT p l e R s m args below meth c Q G A nL cells slots w' lv (pc + 3) (.int r :: st)) : xAT p l e R s m args below meth c Q G A nL cells slots ws lv pc st0 := by
  intro H locs ls hP hD hS hl
  have hF := va_free hD hS C.al is hC
  refine va_calli (va_runSN (As := As) (rest := st) C.call (M H.size) ⟨xcwN C hm hk hd, C.w hm.2.2.1, trivial⟩ ⟨xPre_blind, xprePre C hP hD hS hC hnd⟩ rfl hn (hl.1) hs (lv_room hcat) hdg ⟨by rw [Nat.add_zero]; exact hcs.1, by rw [Nat.add_zero]; exact hcs.2⟩) hS (fun q _ h => hF q h) hF (fun r9 u t H1 locs1 ht hvm hw9 hB hz1 hk1 hS1 => ?_)
  · subst hw9
    obtain ⟨hP1, hD1⟩ := hB
    rw [ht] at hP1
    obtain ⟨hP2, hD2⟩ := xjoin hP hD is hC ha hk1 hF hP1 hD1
    rw [hw] at hP2 hD2
    exact kk H1 locs1 ls hP2 hD2 hS1 hl
theorem xcallNi0 (C : CX p R s m args meth c cc nL own ret G tc A d) {y : MethodName} {cy : ByteArray} {ny n idx d' : Nat} {ry : Option FieldType} {As : List Value} {w0 : va_W} {host : String} {r : Int32} (hm : xMs y cy ny ry n) (hk : va_Nw (.methodLinkNest own idx y host) s) (M : kI l y (xw y cy ny ry) d' G tc As w0 r w0) (hdg : decode cc pc = .ok (.invokestatic idx, 3)) (is : List Nat) {st0 : List Value} (hC : is.map (fun i => ws[i]?) = w0.map some) (hnd : va_nd is = true) (hn : As.length = n) (hd : d' + 1 ≤ d) (hs : st0 = As.reverse ++ st) (hcat : (st.map fun v => v.category).sum ≤ 8) (hcs : cells ≤ R.cells ∧ slots ≤ R.slots) (kk : xAT p l e R s m args below meth c Q G A nL cells slots ws lv (pc + 3) (.int r :: st)) : xAT p l e R s m args below meth c Q G A nL cells slots ws lv pc st0 := xcallNi C hm hk M hdg is ws hC hnd rfl (xrep_self is w0 ws hC) hn hd hs hcat hcs kk
theorem xcallVl (C : CX p R s m args meth c cc nL own ret G tc A d) {y : MethodName} {cy : ByteArray} {ny n ci idx d' a : Nat} {ry : Option FieldType} {As : List Value} {fs : List Value} {w0 w1 : va_W} {r : Int64} (hm : xMv y cy ny ry n ci) (hk : Cond.methodLink own idx y ∈ wsL_law) (M : kL l y (xw y cy ny ry) d' G tc (.ref a :: As) w0 r w1) (hdg : decode cc pc = .ok (.invokevirtual idx, 3)) (q0 : Nat) (he : ws[q0]? = some (a, .inr (ci, fs))) (is : List Nat) (w' : va_W) {st0 : List Value} (hC : is.map (fun i => ws[i]?) = w0.map some) (hnd : va_nd is = true) (ha : w1.map Prod.fst = w0.map Prod.fst) (hw : xrep ws is w1 = w') (hn : As.length = n) (hd : d' + 1 ≤ d) (hs : st0 = As.reverse ++ .ref a :: st) (hcat : (st.map fun v => v.category).sum ≤ 8) (hcs : cells ≤ R.cells ∧ slots ≤ R.slots) (kk : xAT p l e R s m args below meth c Q G A nL cells slots w' lv (pc + 3) (.long r :: st)) : xAT p l e R s m args below meth c Q G A nL cells slots ws lv pc st0 := by
  intro H locs ls hP hD hS hl
  have hF := va_free hD hS C.al is hC
  obtain ⟨T9, N9, hc9⟩ := hm.2.2.2.2.2.2
  have hrec := va_recv C.K hP hc9 he
  refine va_calll (va_runV (As := As) (rest := st) C.call (M H.size) (xcwV C hm hk hd) ⟨xPre_blind, hrec, xprePre C hP hD hS hC hnd⟩ rfl hn (hl.1) hs (lv_room hcat) hdg ⟨by rw [Nat.add_zero]; exact hcs.1, by rw [Nat.add_zero]; exact hcs.2⟩) hS (fun q _ h => hF q h) hF (fun r9 u t H1 locs1 ht hvm hw9 hB hz1 hk1 hS1 => ?_)
  · subst hw9
    obtain ⟨hP1, hD1⟩ := hB
    rw [ht] at hP1
    obtain ⟨hP2, hD2⟩ := xjoin hP hD is hC ha hk1 hF hP1 hD1
    rw [hw] at hP2 hD2
    exact kk H1 locs1 ls hP2 hD2 hS1 hl
theorem xcallVl0 (C : CX p R s m args meth c cc nL own ret G tc A d) {y : MethodName} {cy : ByteArray} {ny n ci idx d' a : Nat} {ry : Option FieldType} {As : List Value} {fs : List Value} {w0 : va_W} {r : Int64} (hm : xMv y cy ny ry n ci) (hk : Cond.methodLink own idx y ∈ wsL_law) (M : kL l y (xw y cy ny ry) d' G tc (.ref a :: As) w0 r w0) (hdg : decode cc pc = .ok (.invokevirtual idx, 3)) (q0 : Nat) (he : ws[q0]? = some (a, .inr (ci, fs))) (is : List Nat) {st0 : List Value} (hC : is.map (fun i => ws[i]?) = w0.map some) (hnd : va_nd is = true) (hn : As.length = n) (hd : d' + 1 ≤ d) (hs : st0 = As.reverse ++ .ref a :: st) (hcat : (st.map fun v => v.category).sum ≤ 8) (hcs : cells ≤ R.cells ∧ slots ≤ R.slots) (kk : xAT p l e R s m args below meth c Q G A nL cells slots ws lv (pc + 3) (.long r :: st)) : xAT p l e R s m args below meth c Q G A nL cells slots ws lv pc st0 := xcallVl C hm hk M hdg q0 he is ws hC hnd rfl (xrep_self is w0 ws hC) hn hd hs hcat hcs kk
theorem xcallSl (C : CX p R s m args meth c cc nL own ret G tc A d) {y : MethodName} {cy : ByteArray} {ny n idx d' : Nat} {ry : Option FieldType} {As : List Value} {w0 w1 : va_W} {r : Int64} (hm : xMs y cy ny ry n) (hk : Cond.methodLink own idx y ∈ wsL_law) (M : kL l y (xw y cy ny ry) d' G tc As w0 r w1) (hdg : decode cc pc = .ok (.invokestatic idx, 3)) (is : List Nat) (w' : va_W) {st0 : List Value} (hC : is.map (fun i => ws[i]?) = w0.map some) (hnd : va_nd is = true) (ha : w1.map Prod.fst = w0.map Prod.fst) (hw : xrep ws is w1 = w') (hn : As.length = n) (hd : d' + 1 ≤ d) (hs : st0 = As.reverse ++ st) (hcat : (st.map fun v => v.category).sum ≤ 8) (hcs : cells ≤ R.cells ∧ slots ≤ R.slots) (kk : xAT p l e R s m args below meth c Q G A nL cells slots w' lv (pc + 3) (.long r :: st)) : xAT p l e R s m args below meth c Q G A nL cells slots ws lv pc st0 := by
  intro H locs ls hP hD hS hl
  have hF := va_free hD hS C.al is hC
  refine va_calll (va_runS (As := As) (rest := st) C.call (M H.size) ⟨xcwB C hm.1 hm.2.1 hm.2.2.2.1 hm.2.2.2.2 hk hd, C.w hm.2.2.1⟩ ⟨xPre_blind, xprePre C hP hD hS hC hnd⟩ rfl hn (hl.1) hs (lv_room hcat) hdg ⟨by rw [Nat.add_zero]; exact hcs.1, by rw [Nat.add_zero]; exact hcs.2⟩) hS (fun q _ h => hF q h) hF (fun r9 u t H1 locs1 ht hvm hw9 hB hz1 hk1 hS1 => ?_)
  · subst hw9
    obtain ⟨hP1, hD1⟩ := hB
    rw [ht] at hP1
    obtain ⟨hP2, hD2⟩ := xjoin hP hD is hC ha hk1 hF hP1 hD1
    rw [hw] at hP2 hD2
    exact kk H1 locs1 ls hP2 hD2 hS1 hl
theorem xcallSl0 (C : CX p R s m args meth c cc nL own ret G tc A d) {y : MethodName} {cy : ByteArray} {ny n idx d' : Nat} {ry : Option FieldType} {As : List Value} {w0 : va_W} {r : Int64} (hm : xMs y cy ny ry n) (hk : Cond.methodLink own idx y ∈ wsL_law) (M : kL l y (xw y cy ny ry) d' G tc As w0 r w0) (hdg : decode cc pc = .ok (.invokestatic idx, 3)) (is : List Nat) {st0 : List Value} (hC : is.map (fun i => ws[i]?) = w0.map some) (hnd : va_nd is = true) (hn : As.length = n) (hd : d' + 1 ≤ d) (hs : st0 = As.reverse ++ st) (hcat : (st.map fun v => v.category).sum ≤ 8) (hcs : cells ≤ R.cells ∧ slots ≤ R.slots) (kk : xAT p l e R s m args below meth c Q G A nL cells slots ws lv (pc + 3) (.long r :: st)) : xAT p l e R s m args below meth c Q G A nL cells slots ws lv pc st0 := xcallSl C hm hk M hdg is ws hC hnd rfl (xrep_self is w0 ws hC) hn hd hs hcat hcs kk
theorem xcallNl (C : CX p R s m args meth c cc nL own ret G tc A d) {y : MethodName} {cy : ByteArray} {ny n idx d' : Nat} {ry : Option FieldType} {As : List Value} {w0 w1 : va_W} {host : String} {r : Int64} (hm : xMs y cy ny ry n) (hk : va_Nw (.methodLinkNest own idx y host) s) (M : kL l y (xw y cy ny ry) d' G tc As w0 r w1) (hdg : decode cc pc = .ok (.invokestatic idx, 3)) (is : List Nat) (w' : va_W) {st0 : List Value} (hC : is.map (fun i => ws[i]?) = w0.map some) (hnd : va_nd is = true) (ha : w1.map Prod.fst = w0.map Prod.fst) (hw : xrep ws is w1 = w') (hn : As.length = n) (hd : d' + 1 ≤ d) (hs : st0 = As.reverse ++ st) (hcat : (st.map fun v => v.category).sum ≤ 8) (hcs : cells ≤ R.cells ∧ slots ≤ R.slots) (kk : xAT p l e R s m args below meth c Q G A nL cells slots w' lv (pc + 3) (.long r :: st)) : xAT p l e R s m args below meth c Q G A nL cells slots ws lv pc st0 := by
  intro H locs ls hP hD hS hl
  have hF := va_free hD hS C.al is hC
  refine va_calll (va_runSN (As := As) (rest := st) C.call (M H.size) ⟨xcwN C hm hk hd, C.w hm.2.2.1, trivial⟩ ⟨xPre_blind, xprePre C hP hD hS hC hnd⟩ rfl hn (hl.1) hs (lv_room hcat) hdg ⟨by rw [Nat.add_zero]; exact hcs.1, by rw [Nat.add_zero]; exact hcs.2⟩) hS (fun q _ h => hF q h) hF (fun r9 u t H1 locs1 ht hvm hw9 hB hz1 hk1 hS1 => ?_)
  · subst hw9
    obtain ⟨hP1, hD1⟩ := hB
    rw [ht] at hP1
    obtain ⟨hP2, hD2⟩ := xjoin hP hD is hC ha hk1 hF hP1 hD1
    rw [hw] at hP2 hD2
    exact kk H1 locs1 ls hP2 hD2 hS1 hl
theorem xcallNl0 (C : CX p R s m args meth c cc nL own ret G tc A d) {y : MethodName} {cy : ByteArray} {ny n idx d' : Nat} {ry : Option FieldType} {As : List Value} {w0 : va_W} {host : String} {r : Int64} (hm : xMs y cy ny ry n) (hk : va_Nw (.methodLinkNest own idx y host) s) (M : kL l y (xw y cy ny ry) d' G tc As w0 r w0) (hdg : decode cc pc = .ok (.invokestatic idx, 3)) (is : List Nat) {st0 : List Value} (hC : is.map (fun i => ws[i]?) = w0.map some) (hnd : va_nd is = true) (hn : As.length = n) (hd : d' + 1 ≤ d) (hs : st0 = As.reverse ++ st) (hcat : (st.map fun v => v.category).sum ≤ 8) (hcs : cells ≤ R.cells ∧ slots ≤ R.slots) (kk : xAT p l e R s m args below meth c Q G A nL cells slots ws lv (pc + 3) (.long r :: st)) : xAT p l e R s m args below meth c Q G A nL cells slots ws lv pc st0 := xcallNl C hm hk M hdg is ws hC hnd rfl (xrep_self is w0 ws hC) hn hd hs hcat hcs kk
theorem xcallVd (C : CX p R s m args meth c cc nL own ret G tc A d) {y : MethodName} {cy : ByteArray} {ny n ci idx d' a : Nat} {ry : Option FieldType} {As : List Value} {fs : List Value} {w0 w1 : va_W} {r : UInt64} (hm : xMv y cy ny ry n ci) (hk : Cond.methodLink own idx y ∈ wsL_law) (M : kD l y (xw y cy ny ry) d' G tc (.ref a :: As) w0 r w1) (hdg : decode cc pc = .ok (.invokevirtual idx, 3)) (q0 : Nat) (he : ws[q0]? = some (a, .inr (ci, fs))) (is : List Nat) (w' : va_W) {st0 : List Value} (hC : is.map (fun i => ws[i]?) = w0.map some) (hnd : va_nd is = true) (ha : w1.map Prod.fst = w0.map Prod.fst) (hw : xrep ws is w1 = w') (hn : As.length = n) (hd : d' + 1 ≤ d) (hs : st0 = As.reverse ++ .ref a :: st) (hcat : (st.map fun v => v.category).sum ≤ 8) (hcs : cells ≤ R.cells ∧ slots ≤ R.slots) (kk : xAT p l e R s m args below meth c Q G A nL cells slots w' lv (pc + 3) (.double r :: st)) : xAT p l e R s m args below meth c Q G A nL cells slots ws lv pc st0 := by
  intro H locs ls hP hD hS hl
  have hF := va_free hD hS C.al is hC
  obtain ⟨T9, N9, hc9⟩ := hm.2.2.2.2.2.2
  have hrec := va_recv C.K hP hc9 he
  refine va_calld (va_runV (As := As) (rest := st) C.call (M H.size) (xcwV C hm hk hd) ⟨xPre_blind, hrec, xprePre C hP hD hS hC hnd⟩ rfl hn (hl.1) hs (lv_room hcat) hdg ⟨by rw [Nat.add_zero]; exact hcs.1, by rw [Nat.add_zero]; exact hcs.2⟩) hS (fun q _ h => hF q h) hF (fun r9 u t H1 locs1 ht hvm hw9 hB hz1 hk1 hS1 => ?_)
  · subst hw9
    obtain ⟨hP1, hD1⟩ := hB
    rw [ht] at hP1
    obtain ⟨hP2, hD2⟩ := xjoin hP hD is hC ha hk1 hF hP1 hD1
    rw [hw] at hP2 hD2
    exact kk H1 locs1 ls hP2 hD2 hS1 hl
theorem xcallVd0 (C : CX p R s m args meth c cc nL own ret G tc A d) {y : MethodName} {cy : ByteArray} {ny n ci idx d' a : Nat} {ry : Option FieldType} {As : List Value} {fs : List Value} {w0 : va_W} {r : UInt64} (hm : xMv y cy ny ry n ci) (hk : Cond.methodLink own idx y ∈ wsL_law) (M : kD l y (xw y cy ny ry) d' G tc (.ref a :: As) w0 r w0) (hdg : decode cc pc = .ok (.invokevirtual idx, 3)) (q0 : Nat) (he : ws[q0]? = some (a, .inr (ci, fs))) (is : List Nat) {st0 : List Value} (hC : is.map (fun i => ws[i]?) = w0.map some) (hnd : va_nd is = true) (hn : As.length = n) (hd : d' + 1 ≤ d) (hs : st0 = As.reverse ++ .ref a :: st) (hcat : (st.map fun v => v.category).sum ≤ 8) (hcs : cells ≤ R.cells ∧ slots ≤ R.slots) (kk : xAT p l e R s m args below meth c Q G A nL cells slots ws lv (pc + 3) (.double r :: st)) : xAT p l e R s m args below meth c Q G A nL cells slots ws lv pc st0 := xcallVd C hm hk M hdg q0 he is ws hC hnd rfl (xrep_self is w0 ws hC) hn hd hs hcat hcs kk
theorem xcallSd (C : CX p R s m args meth c cc nL own ret G tc A d) {y : MethodName} {cy : ByteArray} {ny n idx d' : Nat} {ry : Option FieldType} {As : List Value} {w0 w1 : va_W} {r : UInt64} (hm : xMs y cy ny ry n) (hk : Cond.methodLink own idx y ∈ wsL_law) (M : kD l y (xw y cy ny ry) d' G tc As w0 r w1) (hdg : decode cc pc = .ok (.invokestatic idx, 3)) (is : List Nat) (w' : va_W) {st0 : List Value} (hC : is.map (fun i => ws[i]?) = w0.map some) (hnd : va_nd is = true) (ha : w1.map Prod.fst = w0.map Prod.fst) (hw : xrep ws is w1 = w') (hn : As.length = n) (hd : d' + 1 ≤ d) (hs : st0 = As.reverse ++ st) (hcat : (st.map fun v => v.category).sum ≤ 8) (hcs : cells ≤ R.cells ∧ slots ≤ R.slots) (kk : xAT p l e R s m args below meth c Q G A nL cells slots w' lv (pc + 3) (.double r :: st)) : xAT p l e R s m args below meth c Q G A nL cells slots ws lv pc st0 := by
  intro H locs ls hP hD hS hl
  have hF := va_free hD hS C.al is hC
  refine va_calld (va_runS (As := As) (rest := st) C.call (M H.size) ⟨xcwB C hm.1 hm.2.1 hm.2.2.2.1 hm.2.2.2.2 hk hd, C.w hm.2.2.1⟩ ⟨xPre_blind, xprePre C hP hD hS hC hnd⟩ rfl hn (hl.1) hs (lv_room hcat) hdg ⟨by rw [Nat.add_zero]; exact hcs.1, by rw [Nat.add_zero]; exact hcs.2⟩) hS (fun q _ h => hF q h) hF (fun r9 u t H1 locs1 ht hvm hw9 hB hz1 hk1 hS1 => ?_)
  · subst hw9
    obtain ⟨hP1, hD1⟩ := hB
    rw [ht] at hP1
    obtain ⟨hP2, hD2⟩ := xjoin hP hD is hC ha hk1 hF hP1 hD1
    rw [hw] at hP2 hD2
    exact kk H1 locs1 ls hP2 hD2 hS1 hl
theorem xcallSd0 (C : CX p R s m args meth c cc nL own ret G tc A d) {y : MethodName} {cy : ByteArray} {ny n idx d' : Nat} {ry : Option FieldType} {As : List Value} {w0 : va_W} {r : UInt64} (hm : xMs y cy ny ry n) (hk : Cond.methodLink own idx y ∈ wsL_law) (M : kD l y (xw y cy ny ry) d' G tc As w0 r w0) (hdg : decode cc pc = .ok (.invokestatic idx, 3)) (is : List Nat) {st0 : List Value} (hC : is.map (fun i => ws[i]?) = w0.map some) (hnd : va_nd is = true) (hn : As.length = n) (hd : d' + 1 ≤ d) (hs : st0 = As.reverse ++ st) (hcat : (st.map fun v => v.category).sum ≤ 8) (hcs : cells ≤ R.cells ∧ slots ≤ R.slots) (kk : xAT p l e R s m args below meth c Q G A nL cells slots ws lv (pc + 3) (.double r :: st)) : xAT p l e R s m args below meth c Q G A nL cells slots ws lv pc st0 := xcallSd C hm hk M hdg is ws hC hnd rfl (xrep_self is w0 ws hC) hn hd hs hcat hcs kk
theorem xcallNd (C : CX p R s m args meth c cc nL own ret G tc A d) {y : MethodName} {cy : ByteArray} {ny n idx d' : Nat} {ry : Option FieldType} {As : List Value} {w0 w1 : va_W} {host : String} {r : UInt64} (hm : xMs y cy ny ry n) (hk : va_Nw (.methodLinkNest own idx y host) s) (M : kD l y (xw y cy ny ry) d' G tc As w0 r w1) (hdg : decode cc pc = .ok (.invokestatic idx, 3)) (is : List Nat) (w' : va_W) {st0 : List Value} (hC : is.map (fun i => ws[i]?) = w0.map some) (hnd : va_nd is = true) (ha : w1.map Prod.fst = w0.map Prod.fst) (hw : xrep ws is w1 = w') (hn : As.length = n) (hd : d' + 1 ≤ d) (hs : st0 = As.reverse ++ st) (hcat : (st.map fun v => v.category).sum ≤ 8) (hcs : cells ≤ R.cells ∧ slots ≤ R.slots) (kk : xAT p l e R s m args below meth c Q G A nL cells slots w' lv (pc + 3) (.double r :: st)) : xAT p l e R s m args below meth c Q G A nL cells slots ws lv pc st0 := by
  intro H locs ls hP hD hS hl
  have hF := va_free hD hS C.al is hC
  refine va_calld (va_runSN (As := As) (rest := st) C.call (M H.size) ⟨xcwN C hm hk hd, C.w hm.2.2.1, trivial⟩ ⟨xPre_blind, xprePre C hP hD hS hC hnd⟩ rfl hn (hl.1) hs (lv_room hcat) hdg ⟨by rw [Nat.add_zero]; exact hcs.1, by rw [Nat.add_zero]; exact hcs.2⟩) hS (fun q _ h => hF q h) hF (fun r9 u t H1 locs1 ht hvm hw9 hB hz1 hk1 hS1 => ?_)
  · subst hw9
    obtain ⟨hP1, hD1⟩ := hB
    rw [ht] at hP1
    obtain ⟨hP2, hD2⟩ := xjoin hP hD is hC ha hk1 hF hP1 hD1
    rw [hw] at hP2 hD2
    exact kk H1 locs1 ls hP2 hD2 hS1 hl
theorem xcallNd0 (C : CX p R s m args meth c cc nL own ret G tc A d) {y : MethodName} {cy : ByteArray} {ny n idx d' : Nat} {ry : Option FieldType} {As : List Value} {w0 : va_W} {host : String} {r : UInt64} (hm : xMs y cy ny ry n) (hk : va_Nw (.methodLinkNest own idx y host) s) (M : kD l y (xw y cy ny ry) d' G tc As w0 r w0) (hdg : decode cc pc = .ok (.invokestatic idx, 3)) (is : List Nat) {st0 : List Value} (hC : is.map (fun i => ws[i]?) = w0.map some) (hnd : va_nd is = true) (hn : As.length = n) (hd : d' + 1 ≤ d) (hs : st0 = As.reverse ++ st) (hcat : (st.map fun v => v.category).sum ≤ 8) (hcs : cells ≤ R.cells ∧ slots ≤ R.slots) (kk : xAT p l e R s m args below meth c Q G A nL cells slots ws lv (pc + 3) (.double r :: st)) : xAT p l e R s m args below meth c Q G A nL cells slots ws lv pc st0 := xcallNd C hm hk M hdg is ws hC hnd rfl (xrep_self is w0 ws hC) hn hd hs hcat hcs kk
theorem xcallVv (C : CX p R s m args meth c cc nL own ret G tc A d) {y : MethodName} {cy : ByteArray} {ny n ci idx d' a : Nat} {ry : Option FieldType} {As : List Value} {fs : List Value} {w0 w1 : va_W} (hm : xMv y cy ny ry n ci) (hk : Cond.methodLink own idx y ∈ wsL_law) (M : kV l y (xw y cy ny ry) d' G tc (.ref a :: As) w0 w1) (hdg : decode cc pc = .ok (.invokevirtual idx, 3)) (q0 : Nat) (he : ws[q0]? = some (a, .inr (ci, fs))) (is : List Nat) (w' : va_W) {st0 : List Value} (hC : is.map (fun i => ws[i]?) = w0.map some) (hnd : va_nd is = true) (ha : w1.map Prod.fst = w0.map Prod.fst) (hw : xrep ws is w1 = w') (hn : As.length = n) (hd : d' + 1 ≤ d) (hs : st0 = As.reverse ++ .ref a :: st) (hcat : (st.map fun v => v.category).sum ≤ 8) (hcs : cells ≤ R.cells ∧ slots ≤ R.slots) (kk : xAT p l e R s m args below meth c Q G A nL cells slots w' lv (pc + 3) st) : xAT p l e R s m args below meth c Q G A nL cells slots ws lv pc st0 := by
  intro H locs ls hP hD hS hl
  have hF := va_free hD hS C.al is hC
  obtain ⟨T9, N9, hc9⟩ := hm.2.2.2.2.2.2
  have hrec := va_recv C.K hP hc9 he
  refine va_callv (va_runV (As := As) (rest := st) C.call (M H.size) (xcwV C hm hk hd) ⟨xPre_blind, hrec, xprePre C hP hD hS hC hnd⟩ rfl hn (hl.1) hs (lv_room hcat) hdg ⟨by rw [Nat.add_zero]; exact hcs.1, by rw [Nat.add_zero]; exact hcs.2⟩) hS (fun q _ h => hF q h) hF (fun u t H1 locs1 ht hvm hw9 hB hz1 hk1 hS1 => ?_)
  · obtain ⟨hP1, hD1⟩ := hB
    rw [ht] at hP1
    obtain ⟨hP2, hD2⟩ := xjoin hP hD is hC ha hk1 hF hP1 hD1
    rw [hw] at hP2 hD2
    exact kk H1 locs1 ls hP2 hD2 hS1 hl
theorem xcallVv0 (C : CX p R s m args meth c cc nL own ret G tc A d) {y : MethodName} {cy : ByteArray} {ny n ci idx d' a : Nat} {ry : Option FieldType} {As : List Value} {fs : List Value} {w0 : va_W} (hm : xMv y cy ny ry n ci) (hk : Cond.methodLink own idx y ∈ wsL_law) (M : kV l y (xw y cy ny ry) d' G tc (.ref a :: As) w0 w0) (hdg : decode cc pc = .ok (.invokevirtual idx, 3)) (q0 : Nat) (he : ws[q0]? = some (a, .inr (ci, fs))) (is : List Nat) {st0 : List Value} (hC : is.map (fun i => ws[i]?) = w0.map some) (hnd : va_nd is = true) (hn : As.length = n) (hd : d' + 1 ≤ d) (hs : st0 = As.reverse ++ .ref a :: st) (hcat : (st.map fun v => v.category).sum ≤ 8) (hcs : cells ≤ R.cells ∧ slots ≤ R.slots) (kk : xAT p l e R s m args below meth c Q G A nL cells slots ws lv (pc + 3) st) : xAT p l e R s m args below meth c Q G A nL cells slots ws lv pc st0 := xcallVv C hm hk M hdg q0 he is ws hC hnd rfl (xrep_self is w0 ws hC) hn hd hs hcat hcs kk
theorem xcallSv (C : CX p R s m args meth c cc nL own ret G tc A d) {y : MethodName} {cy : ByteArray} {ny n idx d' : Nat} {ry : Option FieldType} {As : List Value} {w0 w1 : va_W} (hm : xMs y cy ny ry n) (hk : Cond.methodLink own idx y ∈ wsL_law) (M : kV l y (xw y cy ny ry) d' G tc As w0 w1) (hdg : decode cc pc = .ok (.invokestatic idx, 3)) (is : List Nat) (w' : va_W) {st0 : List Value} (hC : is.map (fun i => ws[i]?) = w0.map some) (hnd : va_nd is = true) (ha : w1.map Prod.fst = w0.map Prod.fst) (hw : xrep ws is w1 = w') (hn : As.length = n) (hd : d' + 1 ≤ d) (hs : st0 = As.reverse ++ st) (hcat : (st.map fun v => v.category).sum ≤ 8) (hcs : cells ≤ R.cells ∧ slots ≤ R.slots) (kk : xAT p l e R s m args below meth c Q G A nL cells slots w' lv (pc + 3) st) : xAT p l e R s m args below meth c Q G A nL cells slots ws lv pc st0 := by
  intro H locs ls hP hD hS hl
  have hF := va_free hD hS C.al is hC
  refine va_callv (va_runS (As := As) (rest := st) C.call (M H.size) ⟨xcwB C hm.1 hm.2.1 hm.2.2.2.1 hm.2.2.2.2 hk hd, C.w hm.2.2.1⟩ ⟨xPre_blind, xprePre C hP hD hS hC hnd⟩ rfl hn (hl.1) hs (lv_room hcat) hdg ⟨by rw [Nat.add_zero]; exact hcs.1, by rw [Nat.add_zero]; exact hcs.2⟩) hS (fun q _ h => hF q h) hF (fun u t H1 locs1 ht hvm hw9 hB hz1 hk1 hS1 => ?_)
  · obtain ⟨hP1, hD1⟩ := hB
    rw [ht] at hP1
    obtain ⟨hP2, hD2⟩ := xjoin hP hD is hC ha hk1 hF hP1 hD1
    rw [hw] at hP2 hD2
    exact kk H1 locs1 ls hP2 hD2 hS1 hl
theorem xcallSv0 (C : CX p R s m args meth c cc nL own ret G tc A d) {y : MethodName} {cy : ByteArray} {ny n idx d' : Nat} {ry : Option FieldType} {As : List Value} {w0 : va_W} (hm : xMs y cy ny ry n) (hk : Cond.methodLink own idx y ∈ wsL_law) (M : kV l y (xw y cy ny ry) d' G tc As w0 w0) (hdg : decode cc pc = .ok (.invokestatic idx, 3)) (is : List Nat) {st0 : List Value} (hC : is.map (fun i => ws[i]?) = w0.map some) (hnd : va_nd is = true) (hn : As.length = n) (hd : d' + 1 ≤ d) (hs : st0 = As.reverse ++ st) (hcat : (st.map fun v => v.category).sum ≤ 8) (hcs : cells ≤ R.cells ∧ slots ≤ R.slots) (kk : xAT p l e R s m args below meth c Q G A nL cells slots ws lv (pc + 3) st) : xAT p l e R s m args below meth c Q G A nL cells slots ws lv pc st0 := xcallSv C hm hk M hdg is ws hC hnd rfl (xrep_self is w0 ws hC) hn hd hs hcat hcs kk
theorem xcallNv (C : CX p R s m args meth c cc nL own ret G tc A d) {y : MethodName} {cy : ByteArray} {ny n idx d' : Nat} {ry : Option FieldType} {As : List Value} {w0 w1 : va_W} {host : String} (hm : xMs y cy ny ry n) (hk : va_Nw (.methodLinkNest own idx y host) s) (M : kV l y (xw y cy ny ry) d' G tc As w0 w1) (hdg : decode cc pc = .ok (.invokestatic idx, 3)) (is : List Nat) (w' : va_W) {st0 : List Value} (hC : is.map (fun i => ws[i]?) = w0.map some) (hnd : va_nd is = true) (ha : w1.map Prod.fst = w0.map Prod.fst) (hw : xrep ws is w1 = w') (hn : As.length = n) (hd : d' + 1 ≤ d) (hs : st0 = As.reverse ++ st) (hcat : (st.map fun v => v.category).sum ≤ 8) (hcs : cells ≤ R.cells ∧ slots ≤ R.slots) (kk : xAT p l e R s m args below meth c Q G A nL cells slots w' lv (pc + 3) st) : xAT p l e R s m args below meth c Q G A nL cells slots ws lv pc st0 := by
  intro H locs ls hP hD hS hl
  have hF := va_free hD hS C.al is hC
  refine va_callv (va_runSN (As := As) (rest := st) C.call (M H.size) ⟨xcwN C hm hk hd, C.w hm.2.2.1, trivial⟩ ⟨xPre_blind, xprePre C hP hD hS hC hnd⟩ rfl hn (hl.1) hs (lv_room hcat) hdg ⟨by rw [Nat.add_zero]; exact hcs.1, by rw [Nat.add_zero]; exact hcs.2⟩) hS (fun q _ h => hF q h) hF (fun u t H1 locs1 ht hvm hw9 hB hz1 hk1 hS1 => ?_)
  · obtain ⟨hP1, hD1⟩ := hB
    rw [ht] at hP1
    obtain ⟨hP2, hD2⟩ := xjoin hP hD is hC ha hk1 hF hP1 hD1
    rw [hw] at hP2 hD2
    exact kk H1 locs1 ls hP2 hD2 hS1 hl
theorem xcallNv0 (C : CX p R s m args meth c cc nL own ret G tc A d) {y : MethodName} {cy : ByteArray} {ny n idx d' : Nat} {ry : Option FieldType} {As : List Value} {w0 : va_W} {host : String} (hm : xMs y cy ny ry n) (hk : va_Nw (.methodLinkNest own idx y host) s) (M : kV l y (xw y cy ny ry) d' G tc As w0 w0) (hdg : decode cc pc = .ok (.invokestatic idx, 3)) (is : List Nat) {st0 : List Value} (hC : is.map (fun i => ws[i]?) = w0.map some) (hnd : va_nd is = true) (hn : As.length = n) (hd : d' + 1 ≤ d) (hs : st0 = As.reverse ++ st) (hcat : (st.map fun v => v.category).sum ≤ 8) (hcs : cells ≤ R.cells ∧ slots ≤ R.slots) (kk : xAT p l e R s m args below meth c Q G A nL cells slots ws lv (pc + 3) st) : xAT p l e R s m args below meth c Q G A nL cells slots ws lv pc st0 := xcallNv C hm hk M hdg is ws hC hnd rfl (xrep_self is w0 ws hC) hn hd hs hcat hcs kk

def xargs : List Value → List (Option Value)
  | [] => []
  | v :: r => if v.category = 2 then some v :: none :: xargs r else some v :: xargs r
theorem xargs_mem (k : Nat) : ∀ (av : List Value) (n i : Nat) (v : Value), (xargs av ++ List.replicate k none)[i]? = some (some v) → (n + i, v) ∈ lv_args n av
  | [], n, i, v, h => by
    have h : (List.replicate k (none : Option Value))[i]? = some (some v) := h
    rw [List.getElem?_replicate] at h
    split at h <;> simp at h
  | w :: r, n, i, v, h => by
    unfold xargs at h
    unfold lv_args
    by_cases hc : w.category = 2
    · rw [if_pos hc] at h
      rw [if_pos hc]
      match i, h with
      | 0, h => simp at h; subst h; exact List.mem_cons_self
      | 1, h => simp at h
      | i + 2, h =>
        have := xargs_mem k r (n + 2) i v h
        rw [show n + (i + 2) = n + 2 + i by omega]
        exact List.mem_cons_of_mem _ this
    · rw [if_neg hc] at h
      rw [if_neg hc]
      match i, h with
      | 0, h => simp at h; subst h; exact List.mem_cons_self
      | i + 1, h =>
        have := xargs_mem k r (n + 1) i v h
        rw [show n + (i + 1) = n + 1 + i by omega]
        exact List.mem_cons_of_mem _ this
def xQi (below : List Frame) (args : Array Value) (s : State) (G : va_G) (A : Nat → Prop) (r : Int32) (w1 : va_W) : State → Prop := MQ below (va_Qi (fun r' (_ : Unit) => r' = r) (xB G A w1) A) args s 0 0 A
def xQl (below : List Frame) (args : Array Value) (s : State) (G : va_G) (A : Nat → Prop) (r : Int64) (w1 : va_W) : State → Prop := MQ below (va_Ql (fun r' (_ : Unit) => r' = r) (xB G A w1) A) args s 0 0 A
def xQd (below : List Frame) (args : Array Value) (s : State) (G : va_G) (A : Nat → Prop) (r : UInt64) (w1 : va_W) : State → Prop := MQ below (va_Qd (fun r' (_ : Unit) => r' = r) (xB G A w1) A) args s 0 0 A
def xQv (below : List Frame) (args : Array Value) (s : State) (G : va_G) (A : Nat → Prop) (w1 : va_W) : State → Prop := MQ below (va_Qv (fun (_ : Unit) => True) (xB G A w1) A) args s 0 0 A
theorem kI_of {y : MethodName} {cy : ByteArray} {ny : Nat} {rt : Option FieldType} {av : List Value} {w0 w1 : va_W} {r : Int32} (lv : List (Option Value)) (k : Nat) (hy : plainName y.cls = true) (hn : (lg_sl av).length ≤ ny) (hlv : xargs av ++ List.replicate k none = lv)
    (body : ∀ p e s m args below meth c A, CX p (xR d 0 0) s m args meth c cy ny y.cls rt G tc A d → xAT p l e (xR d 0 0) s m args below meth c (xQi below args s G A r w1) G A ny 0 0 w0 lv 0 []) : kI l y (xw y cy ny rt) d G tc av w0 r w1 := by
  intro sz
  refine Met.ofW (cc := cy) (maxL := ny) (ret := rt) hy rfl ?_
  intro p e s m args below meth c s₁ B hml hv
  obtain ⟨rfl, hsz, hP, hD0, hE, hZ⟩ := hv
  subst hsz
  have hts := atoms_spec (ws := xw y cy ny rt) B.pre
  have C : CX p (xR d 0 0) s m av.toArray meth c cy ny y.cls rt G tc (va_A w0 s.heap.size) d := ⟨B.exec, B.bytes, hml, findClass_of_methodNamed B.named, fun w hw => hts w (List.mem_cons_of_mem _ hw), B.returns, B.notSynchronized, hE, hZ, fun q h => Or.inr h, Nat.le_refl _, Nat.le_refl _⟩
  obtain ⟨ls, he, hl⟩ := xentry m av ny hn (lv := lv) (fun i v h => by
    subst hlv
    have := xargs_mem k av 0 i v h
    rwa [Nat.zero_add] at this)
  rw [he]
  exact body p e s m _ below meth c _ C s.heap [] ls hP (hD0.self (sz := s.heap.size)) va_S.rf hl
theorem kL_of {y : MethodName} {cy : ByteArray} {ny : Nat} {rt : Option FieldType} {av : List Value} {w0 w1 : va_W} {r : Int64} (lv : List (Option Value)) (k : Nat) (hy : plainName y.cls = true) (hn : (lg_sl av).length ≤ ny) (hlv : xargs av ++ List.replicate k none = lv)
    (body : ∀ p e s m args below meth c A, CX p (xR d 0 0) s m args meth c cy ny y.cls rt G tc A d → xAT p l e (xR d 0 0) s m args below meth c (xQl below args s G A r w1) G A ny 0 0 w0 lv 0 []) : kL l y (xw y cy ny rt) d G tc av w0 r w1 := by
  intro sz
  refine Met.ofW (cc := cy) (maxL := ny) (ret := rt) hy rfl ?_
  intro p e s m args below meth c s₁ B hml hv
  obtain ⟨rfl, hsz, hP, hD0, hE, hZ⟩ := hv
  subst hsz
  have hts := atoms_spec (ws := xw y cy ny rt) B.pre
  have C : CX p (xR d 0 0) s m av.toArray meth c cy ny y.cls rt G tc (va_A w0 s.heap.size) d := ⟨B.exec, B.bytes, hml, findClass_of_methodNamed B.named, fun w hw => hts w (List.mem_cons_of_mem _ hw), B.returns, B.notSynchronized, hE, hZ, fun q h => Or.inr h, Nat.le_refl _, Nat.le_refl _⟩
  obtain ⟨ls, he, hl⟩ := xentry m av ny hn (lv := lv) (fun i v h => by
    subst hlv
    have := xargs_mem k av 0 i v h
    rwa [Nat.zero_add] at this)
  rw [he]
  exact body p e s m _ below meth c _ C s.heap [] ls hP (hD0.self (sz := s.heap.size)) va_S.rf hl
theorem kD_of {y : MethodName} {cy : ByteArray} {ny : Nat} {rt : Option FieldType} {av : List Value} {w0 w1 : va_W} {r : UInt64} (lv : List (Option Value)) (k : Nat) (hy : plainName y.cls = true) (hn : (lg_sl av).length ≤ ny) (hlv : xargs av ++ List.replicate k none = lv)
    (body : ∀ p e s m args below meth c A, CX p (xR d 0 0) s m args meth c cy ny y.cls rt G tc A d → xAT p l e (xR d 0 0) s m args below meth c (xQd below args s G A r w1) G A ny 0 0 w0 lv 0 []) : kD l y (xw y cy ny rt) d G tc av w0 r w1 := by
  intro sz
  refine Met.ofW (cc := cy) (maxL := ny) (ret := rt) hy rfl ?_
  intro p e s m args below meth c s₁ B hml hv
  obtain ⟨rfl, hsz, hP, hD0, hE, hZ⟩ := hv
  subst hsz
  have hts := atoms_spec (ws := xw y cy ny rt) B.pre
  have C : CX p (xR d 0 0) s m av.toArray meth c cy ny y.cls rt G tc (va_A w0 s.heap.size) d := ⟨B.exec, B.bytes, hml, findClass_of_methodNamed B.named, fun w hw => hts w (List.mem_cons_of_mem _ hw), B.returns, B.notSynchronized, hE, hZ, fun q h => Or.inr h, Nat.le_refl _, Nat.le_refl _⟩
  obtain ⟨ls, he, hl⟩ := xentry m av ny hn (lv := lv) (fun i v h => by
    subst hlv
    have := xargs_mem k av 0 i v h
    rwa [Nat.zero_add] at this)
  rw [he]
  exact body p e s m _ below meth c _ C s.heap [] ls hP (hD0.self (sz := s.heap.size)) va_S.rf hl
theorem kV_of {y : MethodName} {cy : ByteArray} {ny : Nat} {rt : Option FieldType} {av : List Value} {w0 w1 : va_W} (lv : List (Option Value)) (k : Nat) (hy : plainName y.cls = true) (hn : (lg_sl av).length ≤ ny) (hlv : xargs av ++ List.replicate k none = lv)
    (body : ∀ p e s m args below meth c A, CX p (xR d 0 0) s m args meth c cy ny y.cls rt G tc A d → xAT p l e (xR d 0 0) s m args below meth c (xQv below args s G A w1) G A ny 0 0 w0 lv 0 []) : kV l y (xw y cy ny rt) d G tc av w0 w1 := by
  intro sz
  refine Met.ofW (cc := cy) (maxL := ny) (ret := rt) hy rfl ?_
  intro p e s m args below meth c s₁ B hml hv
  obtain ⟨rfl, hsz, hP, hD0, hE, hZ⟩ := hv
  subst hsz
  have hts := atoms_spec (ws := xw y cy ny rt) B.pre
  have C : CX p (xR d 0 0) s m av.toArray meth c cy ny y.cls rt G tc (va_A w0 s.heap.size) d := ⟨B.exec, B.bytes, hml, findClass_of_methodNamed B.named, fun w hw => hts w (List.mem_cons_of_mem _ hw), B.returns, B.notSynchronized, hE, hZ, fun q h => Or.inr h, Nat.le_refl _, Nat.le_refl _⟩
  obtain ⟨ls, he, hl⟩ := xentry m av ny hn (lv := lv) (fun i v h => by
    subst hlv
    have := xargs_mem k av 0 i v h
    rwa [Nat.zero_add] at this)
  rw [he]
  exact body p e s m _ below meth c _ C s.heap [] ls hP (hD0.self (sz := s.heap.size)) va_S.rf hl
theorem xiret (C : CX p R s m args meth c cc nL own (some .int) G tc A d) {v r : Int32} {w1 : va_W} (hdg : decode cc pc = .ok (.ireturn, 1)) (hv : v = r) (hw : ws = w1) : xAT p l e R s m args below meth c (xQi below args s G A r w1) G A nL 0 0 ws lv pc [.int v] := by
  subst hv
  subst hw
  exact fun H locs ls hP hD hS hl => W.iret C.1 C.2.1 C.rt (fun t ht hW => ⟨⟨v, (), rfl, rfl, by rw [ht]; exact hP, hD⟩, hS.F ht⟩) hS.2.2 hdg C.lock
theorem xzret (C : CX p R s m args meth c cc nL own (some .boolean) G tc A d) {v r : Int32} {w1 : va_W} (hdg : decode cc pc = .ok (.ireturn, 1)) (hn : narrow .boolean (.int v) = .int v) (hv : v = r) (hw : ws = w1) : xAT p l e R s m args below meth c (xQi below args s G A r w1) G A nL 0 0 ws lv pc [.int v] := by
  subst hv
  subst hw
  exact fun H locs ls hP hD hS hl => W.zret C.1 C.2.1 C.rt hn (fun t ht hW => ⟨⟨v, (), rfl, rfl, by rw [ht]; exact hP, hD⟩, hS.F ht⟩) hS.2.2 hdg C.lock
theorem xlret (C : CX p R s m args meth c cc nL own (some .long) G tc A d) {v r : Int64} {w1 : va_W} (hdg : decode cc pc = .ok (.lreturn, 1)) (hv : v = r) (hw : ws = w1) : xAT p l e R s m args below meth c (xQl below args s G A r w1) G A nL 0 0 ws lv pc [.long v] := by
  subst hv
  subst hw
  exact fun H locs ls hP hD hS hl => W.lret C.1 C.2.1 C.rt (fun t ht hW => ⟨⟨v, (), rfl, rfl, by rw [ht]; exact hP, hD⟩, hS.F ht⟩) hS.2.2 hdg C.lock
theorem xdret (C : CX p R s m args meth c cc nL own (some .double) G tc A d) {v r : UInt64} {w1 : va_W} (hdg : decode cc pc = .ok (.dreturn, 1)) (hv : v = r) (hw : ws = w1) : xAT p l e R s m args below meth c (xQd below args s G A r w1) G A nL 0 0 ws lv pc [.double v] := by
  subst hv
  subst hw
  exact fun H locs ls hP hD hS hl => W.dret C.1 C.2.1 C.rt (fun t ht hW => ⟨⟨v, (), rfl, rfl, by rw [ht]; exact hP, hD⟩, hS.F ht⟩) hS.2.2 hdg C.lock
theorem xvret (C : CX p R s m args meth c cc nL own none G tc A d) {w1 : va_W} (hdg : decode cc pc = .ok (.return_, 1)) (hw : ws = w1) : xAT p l e R s m args below meth c (xQv below args s G A w1) G A nL 0 0 ws lv pc [] := by
  skip
  subst hw
  exact fun H locs ls hP hD hS hl => W.vret C.1 C.2.1 C.rt (fun t ht hW => ⟨⟨(), rfl, trivial, by rw [ht]; exact hP, hD⟩, hS.F ht⟩) hS.2.2 hdg C.lock
end XH
end
section
theorem ck_L_8 : Cond.classLink RL 8 RX5 ∈ wsL_law := in_wsL_law0_r1 _ (List.mem_of_getElem? (i := 0) rfl)
theorem ck_L_86 : Cond.classLink RL 86 RX6 ∈ wsL_law := in_wsL_law0_r1 _ (List.mem_of_getElem? (i := 3) rfl)
theorem cl_L_89 : Cond.constantLong RL 89 (4294967295) ∈ wsL_law := in_wsL_law0_r1 _ (List.mem_of_getElem? (i := 8) rfl)
theorem k_L_85 : Cond.methodLink RL 85 yX5_init ∈ wsL_law := in_wsL_law0_r1 _ (List.mem_of_getElem? (i := 9) rfl)
theorem mi_X5_init : Cond.code yX5_init cX5_init 1 none ∈ wsL_law ∧ Cond.initialized RX5 ∈ wsL_law ∧ Cond.instanceMethod yX5_init ∈ wsL_law := ⟨in_wsL_law0_r1 _ (List.mem_of_getElem? (i := 11) rfl), in_wsL_law0_r1 _ (List.mem_of_getElem? (i := 2) rfl), in_wsL_law0_r1 _ (List.mem_of_getElem? (i := 10) rfl)⟩
theorem k_X5_1 : Cond.methodLink RX5 1 objectInit ∈ wsL_law := in_wsL_law0_r1 _ (List.mem_of_getElem? (i := 12) rfl)
theorem ck_X5_7 : Cond.classLink RX5 7 RX4 ∈ wsL_law := in_wsL_law0_r1 _ (List.mem_of_getElem? (i := 15) rfl)
theorem f_X5_10 : xF RX5 10 5 0 := ⟨RX5, TX5, 6, rfl, by decide, inlX5, in_wsL_law0_r1 _ (List.mem_of_getElem? (i := 18) rfl)⟩
theorem fw_X5_10 : xFw RX5 10 5 0 (.object "IslandParser$Text") true := ⟨RX5, TX5, 6, tyX5, rfl, by decide, inlX5, in_wsL_law0_r1 _ (List.mem_of_getElem? (i := 18) rfl), tyX5_ok, nmX5, rfl, tyX5_ok 0 (by decide), rfl⟩
theorem ck_X5_16 : Cond.classLink RX5 16 RX2 ∈ wsL_law := in_wsL_law0_r1 _ (List.mem_of_getElem? (i := 19) rfl)
theorem f_X5_19 : xF RX5 19 5 1 := ⟨RX5, TX5, 6, rfl, by decide, inlX5, in_wsL_law0_r1 _ (List.mem_of_getElem? (i := 22) rfl)⟩
theorem fw_X5_19 : xFw RX5 19 5 1 (.object "IslandParser$Kinds") true := ⟨RX5, TX5, 6, tyX5, rfl, by decide, inlX5, in_wsL_law0_r1 _ (List.mem_of_getElem? (i := 22) rfl), tyX5_ok, nmX5, rfl, tyX5_ok 1 (by decide), rfl⟩
theorem ck_X5_23 : Cond.classLink RX5 23 RX1 ∈ wsL_law := in_wsL_law0_r1 _ (List.mem_of_getElem? (i := 23) rfl)
theorem f_X5_26 : xF RX5 26 5 2 := ⟨RX5, TX5, 6, rfl, by decide, inlX5, in_wsL_law0_r2 _ (List.mem_of_getElem? (i := 2) rfl)⟩
theorem fw_X5_26 : xFw RX5 26 5 2 (.object "IslandParser$Islands") true := ⟨RX5, TX5, 6, tyX5, rfl, by decide, inlX5, in_wsL_law0_r2 _ (List.mem_of_getElem? (i := 2) rfl), tyX5_ok, nmX5, rfl, tyX5_ok 2 (by decide), rfl⟩
theorem ck_X5_30 : Cond.classLink RX5 30 RX3 ∈ wsL_law := in_wsL_law0_r2 _ (List.mem_of_getElem? (i := 3) rfl)
theorem f_X5_33 : xF RX5 33 5 3 := ⟨RX5, TX5, 6, rfl, by decide, inlX5, in_wsL_law0_r2 _ (List.mem_of_getElem? (i := 6) rfl)⟩
theorem fw_X5_33 : xFw RX5 33 5 3 (.object "IslandParser$Marks") true := ⟨RX5, TX5, 6, tyX5, rfl, by decide, inlX5, in_wsL_law0_r2 _ (List.mem_of_getElem? (i := 6) rfl), tyX5_ok, nmX5, rfl, tyX5_ok 3 (by decide), rfl⟩
theorem ck_X5_37 : Cond.classLink RX5 37 RX0 ∈ wsL_law := in_wsL_law0_r2 _ (List.mem_of_getElem? (i := 7) rfl)
theorem f_X5_40 : xF RX5 40 5 4 := ⟨RX5, TX5, 6, rfl, by decide, inlX5, in_wsL_law0_r2 _ (List.mem_of_getElem? (i := 10) rfl)⟩
theorem fw_X5_40 : xFw RX5 40 5 4 (.object "IslandParser$BestReader") true := ⟨RX5, TX5, 6, tyX5, rfl, by decide, inlX5, in_wsL_law0_r2 _ (List.mem_of_getElem? (i := 10) rfl), tyX5_ok, nmX5, rfl, tyX5_ok 4 (by decide), rfl⟩
theorem f_X5_44 : xF RX5 44 5 5 := ⟨RX5, TX5, 6, rfl, by decide, inlX5, in_wsL_law0_r2 _ (List.mem_of_getElem? (i := 11) rfl)⟩
theorem fw_X5_44 : xFw RX5 44 5 5 .boolean false := ⟨RX5, TX5, 6, tyX5, rfl, by decide, inlX5, in_wsL_law0_r2 _ (List.mem_of_getElem? (i := 11) rfl), tyX5_ok, nmX5, rfl, tyX5_ok 5 (by decide), rfl⟩
theorem k_X5_9 : Cond.methodLink RX5 9 yX4_init ∈ wsL_law := in_wsL_law0_r2 _ (List.mem_of_getElem? (i := 12) rfl)
theorem mi_X4_init : Cond.code yX4_init cX4_init 1 none ∈ wsL_law ∧ Cond.initialized RX4 ∈ wsL_law ∧ Cond.instanceMethod yX4_init ∈ wsL_law := ⟨in_wsL_law0_r2 _ (List.mem_of_getElem? (i := 14) rfl), in_wsL_law0_r1 _ (List.mem_of_getElem? (i := 17) rfl), in_wsL_law0_r2 _ (List.mem_of_getElem? (i := 13) rfl)⟩
theorem k_X4_3 : Cond.methodLink RX4 3 objectInit ∈ wsL_law := in_wsL_law0_r2 _ (List.mem_of_getElem? (i := 15) rfl)
theorem f_X4_9 : xF RX4 9 4 0 := ⟨RX4, TX4, 3, rfl, by decide, inlX4, in_wsL_law0_r2 _ (List.mem_of_getElem? (i := 17) rfl)⟩
theorem fw_X4_9 : xFw RX4 9 4 0 (.array .int) true := ⟨RX4, TX4, 3, tyX4, rfl, by decide, inlX4, in_wsL_law0_r2 _ (List.mem_of_getElem? (i := 17) rfl), tyX4_ok, nmX4, rfl, tyX4_ok 0 (by decide), rfl⟩
theorem f_X4_15 : xF RX4 15 4 1 := ⟨RX4, TX4, 3, rfl, by decide, inlX4, in_wsL_law0_r2 _ (List.mem_of_getElem? (i := 18) rfl)⟩
theorem fw_X4_15 : xFw RX4 15 4 1 .int false := ⟨RX4, TX4, 3, tyX4, rfl, by decide, inlX4, in_wsL_law0_r2 _ (List.mem_of_getElem? (i := 18) rfl), tyX4_ok, nmX4, rfl, tyX4_ok 1 (by decide), rfl⟩
theorem f_X4_19 : xF RX4 19 4 2 := ⟨RX4, TX4, 3, rfl, by decide, inlX4, in_wsL_law0_r2 _ (List.mem_of_getElem? (i := 19) rfl)⟩
theorem fw_X4_19 : xFw RX4 19 4 2 .int false := ⟨RX4, TX4, 3, tyX4, rfl, by decide, inlX4, in_wsL_law0_r2 _ (List.mem_of_getElem? (i := 19) rfl), tyX4_ok, nmX4, rfl, tyX4_ok 2 (by decide), rfl⟩
theorem k_X5_18 : Cond.methodLink RX5 18 yX2_init ∈ wsL_law := in_wsL_law0_r2 _ (List.mem_of_getElem? (i := 20) rfl)
theorem mi_X2_init : Cond.code yX2_init cX2_init 2 none ∈ wsL_law ∧ Cond.initialized RX2 ∈ wsL_law ∧ Cond.instanceMethod yX2_init ∈ wsL_law := ⟨in_wsL_law0_r2 _ (List.mem_of_getElem? (i := 22) rfl), in_wsL_law0_r1 _ (List.mem_of_getElem? (i := 21) rfl), in_wsL_law0_r2 _ (List.mem_of_getElem? (i := 21) rfl)⟩
theorem k_X2_3 : Cond.methodLink RX2 3 objectInit ∈ wsL_law := in_wsL_law0_r2 _ (List.mem_of_getElem? (i := 23) rfl)
theorem f_X2_9 : xF RX2 9 2 0 := ⟨RX2, TX2, 5, rfl, by decide, inlX2, in_wsL_law0_r3 _ (List.mem_of_getElem? (i := 0) rfl)⟩
theorem fw_X2_9 : xFw RX2 9 2 0 (.array .int) true := ⟨RX2, TX2, 5, tyX2, rfl, by decide, inlX2, in_wsL_law0_r3 _ (List.mem_of_getElem? (i := 0) rfl), tyX2_ok, nmX2, rfl, tyX2_ok 0 (by decide), rfl⟩
theorem f_X2_15 : xF RX2 15 2 1 := ⟨RX2, TX2, 5, rfl, by decide, inlX2, in_wsL_law0_r3 _ (List.mem_of_getElem? (i := 1) rfl)⟩
theorem fw_X2_15 : xFw RX2 15 2 1 (.array .int) true := ⟨RX2, TX2, 5, tyX2, rfl, by decide, inlX2, in_wsL_law0_r3 _ (List.mem_of_getElem? (i := 1) rfl), tyX2_ok, nmX2, rfl, tyX2_ok 1 (by decide), rfl⟩
theorem f_X2_18 : xF RX2 18 2 2 := ⟨RX2, TX2, 5, rfl, by decide, inlX2, in_wsL_law0_r3 _ (List.mem_of_getElem? (i := 2) rfl)⟩
theorem fw_X2_18 : xFw RX2 18 2 2 (.array .int) true := ⟨RX2, TX2, 5, tyX2, rfl, by decide, inlX2, in_wsL_law0_r3 _ (List.mem_of_getElem? (i := 2) rfl), tyX2_ok, nmX2, rfl, tyX2_ok 2 (by decide), rfl⟩
theorem f_X2_21 : xF RX2 21 2 3 := ⟨RX2, TX2, 5, rfl, by decide, inlX2, in_wsL_law0_r3 _ (List.mem_of_getElem? (i := 3) rfl)⟩
theorem fw_X2_21 : xFw RX2 21 2 3 .int false := ⟨RX2, TX2, 5, tyX2, rfl, by decide, inlX2, in_wsL_law0_r3 _ (List.mem_of_getElem? (i := 3) rfl), tyX2_ok, nmX2, rfl, tyX2_ok 3 (by decide), rfl⟩
theorem f_X2_25 : xF RX2 25 2 4 := ⟨RX2, TX2, 5, rfl, by decide, inlX2, in_wsL_law0_r3 _ (List.mem_of_getElem? (i := 4) rfl)⟩
theorem fw_X2_25 : xFw RX2 25 2 4 .int false := ⟨RX2, TX2, 5, tyX2, rfl, by decide, inlX2, in_wsL_law0_r3 _ (List.mem_of_getElem? (i := 4) rfl), tyX2_ok, nmX2, rfl, tyX2_ok 4 (by decide), rfl⟩
theorem k_X5_25 : Cond.methodLink RX5 25 yX1_init ∈ wsL_law := in_wsL_law0_r3 _ (List.mem_of_getElem? (i := 5) rfl)
theorem mi_X1_init : Cond.code yX1_init cX1_init 1 none ∈ wsL_law ∧ Cond.initialized RX1 ∈ wsL_law ∧ Cond.instanceMethod yX1_init ∈ wsL_law := ⟨in_wsL_law0_r3 _ (List.mem_of_getElem? (i := 7) rfl), in_wsL_law0_r2 _ (List.mem_of_getElem? (i := 1) rfl), in_wsL_law0_r3 _ (List.mem_of_getElem? (i := 6) rfl)⟩
theorem k_X1_3 : Cond.methodLink RX1 3 objectInit ∈ wsL_law := in_wsL_law0_r3 _ (List.mem_of_getElem? (i := 8) rfl)
theorem f_X1_9 : xF RX1 9 1 0 := ⟨RX1, TX1, 11, rfl, by decide, inlX1, in_wsL_law0_r3 _ (List.mem_of_getElem? (i := 9) rfl)⟩
theorem fw_X1_9 : xFw RX1 9 1 0 (.array .int) true := ⟨RX1, TX1, 11, tyX1, rfl, by decide, inlX1, in_wsL_law0_r3 _ (List.mem_of_getElem? (i := 9) rfl), tyX1_ok, nmX1, rfl, tyX1_ok 0 (by decide), rfl⟩
theorem f_X1_15 : xF RX1 15 1 1 := ⟨RX1, TX1, 11, rfl, by decide, inlX1, in_wsL_law0_r3 _ (List.mem_of_getElem? (i := 10) rfl)⟩
theorem fw_X1_15 : xFw RX1 15 1 1 (.array .int) true := ⟨RX1, TX1, 11, tyX1, rfl, by decide, inlX1, in_wsL_law0_r3 _ (List.mem_of_getElem? (i := 10) rfl), tyX1_ok, nmX1, rfl, tyX1_ok 1 (by decide), rfl⟩
theorem f_X1_18 : xF RX1 18 1 2 := ⟨RX1, TX1, 11, rfl, by decide, inlX1, in_wsL_law0_r3 _ (List.mem_of_getElem? (i := 11) rfl)⟩
theorem fw_X1_18 : xFw RX1 18 1 2 (.array .int) true := ⟨RX1, TX1, 11, tyX1, rfl, by decide, inlX1, in_wsL_law0_r3 _ (List.mem_of_getElem? (i := 11) rfl), tyX1_ok, nmX1, rfl, tyX1_ok 2 (by decide), rfl⟩
theorem f_X1_21 : xF RX1 21 1 3 := ⟨RX1, TX1, 11, rfl, by decide, inlX1, in_wsL_law0_r3 _ (List.mem_of_getElem? (i := 12) rfl)⟩
theorem fw_X1_21 : xFw RX1 21 1 3 (.array .int) true := ⟨RX1, TX1, 11, tyX1, rfl, by decide, inlX1, in_wsL_law0_r3 _ (List.mem_of_getElem? (i := 12) rfl), tyX1_ok, nmX1, rfl, tyX1_ok 3 (by decide), rfl⟩
theorem f_X1_24 : xF RX1 24 1 4 := ⟨RX1, TX1, 11, rfl, by decide, inlX1, in_wsL_law0_r3 _ (List.mem_of_getElem? (i := 13) rfl)⟩
theorem fw_X1_24 : xFw RX1 24 1 4 (.array .int) true := ⟨RX1, TX1, 11, tyX1, rfl, by decide, inlX1, in_wsL_law0_r3 _ (List.mem_of_getElem? (i := 13) rfl), tyX1_ok, nmX1, rfl, tyX1_ok 4 (by decide), rfl⟩
theorem f_X1_27 : xF RX1 27 1 5 := ⟨RX1, TX1, 11, rfl, by decide, inlX1, in_wsL_law0_r3 _ (List.mem_of_getElem? (i := 14) rfl)⟩
theorem fw_X1_27 : xFw RX1 27 1 5 (.array .int) true := ⟨RX1, TX1, 11, tyX1, rfl, by decide, inlX1, in_wsL_law0_r3 _ (List.mem_of_getElem? (i := 14) rfl), tyX1_ok, nmX1, rfl, tyX1_ok 5 (by decide), rfl⟩
theorem f_X1_30 : xF RX1 30 1 6 := ⟨RX1, TX1, 11, rfl, by decide, inlX1, in_wsL_law0_r3 _ (List.mem_of_getElem? (i := 15) rfl)⟩
theorem fw_X1_30 : xFw RX1 30 1 6 (.array .int) true := ⟨RX1, TX1, 11, tyX1, rfl, by decide, inlX1, in_wsL_law0_r3 _ (List.mem_of_getElem? (i := 15) rfl), tyX1_ok, nmX1, rfl, tyX1_ok 6 (by decide), rfl⟩
theorem f_X1_33 : xF RX1 33 1 7 := ⟨RX1, TX1, 11, rfl, by decide, inlX1, in_wsL_law0_r3 _ (List.mem_of_getElem? (i := 16) rfl)⟩
theorem fw_X1_33 : xFw RX1 33 1 7 .int false := ⟨RX1, TX1, 11, tyX1, rfl, by decide, inlX1, in_wsL_law0_r3 _ (List.mem_of_getElem? (i := 16) rfl), tyX1_ok, nmX1, rfl, tyX1_ok 7 (by decide), rfl⟩
theorem f_X1_37 : xF RX1 37 1 8 := ⟨RX1, TX1, 11, rfl, by decide, inlX1, in_wsL_law0_r3 _ (List.mem_of_getElem? (i := 17) rfl)⟩
theorem fw_X1_37 : xFw RX1 37 1 8 .int false := ⟨RX1, TX1, 11, tyX1, rfl, by decide, inlX1, in_wsL_law0_r3 _ (List.mem_of_getElem? (i := 17) rfl), tyX1_ok, nmX1, rfl, tyX1_ok 8 (by decide), rfl⟩
theorem f_X1_40 : xF RX1 40 1 9 := ⟨RX1, TX1, 11, rfl, by decide, inlX1, in_wsL_law0_r3 _ (List.mem_of_getElem? (i := 18) rfl)⟩
theorem fw_X1_40 : xFw RX1 40 1 9 .int false := ⟨RX1, TX1, 11, tyX1, rfl, by decide, inlX1, in_wsL_law0_r3 _ (List.mem_of_getElem? (i := 18) rfl), tyX1_ok, nmX1, rfl, tyX1_ok 9 (by decide), rfl⟩
theorem f_X1_43 : xF RX1 43 1 10 := ⟨RX1, TX1, 11, rfl, by decide, inlX1, in_wsL_law0_r3 _ (List.mem_of_getElem? (i := 19) rfl)⟩
theorem fw_X1_43 : xFw RX1 43 1 10 .boolean false := ⟨RX1, TX1, 11, tyX1, rfl, by decide, inlX1, in_wsL_law0_r3 _ (List.mem_of_getElem? (i := 19) rfl), tyX1_ok, nmX1, rfl, tyX1_ok 10 (by decide), rfl⟩
theorem k_X5_32 : Cond.methodLink RX5 32 yX3_init ∈ wsL_law := in_wsL_law0_r3 _ (List.mem_of_getElem? (i := 20) rfl)
theorem mi_X3_init : Cond.code yX3_init cX3_init 1 none ∈ wsL_law ∧ Cond.initialized RX3 ∈ wsL_law ∧ Cond.instanceMethod yX3_init ∈ wsL_law := ⟨in_wsL_law0_r3 _ (List.mem_of_getElem? (i := 22) rfl), in_wsL_law0_r2 _ (List.mem_of_getElem? (i := 5) rfl), in_wsL_law0_r3 _ (List.mem_of_getElem? (i := 21) rfl)⟩
theorem k_X3_3 : Cond.methodLink RX3 3 objectInit ∈ wsL_law := in_wsL_law0_r3 _ (List.mem_of_getElem? (i := 23) rfl)
theorem f_X3_9 : xF RX3 9 3 0 := ⟨RX3, TX3, 5, rfl, by decide, inlX3, in_wsL_law0_r4 _ (List.mem_of_getElem? (i := 0) rfl)⟩
theorem fw_X3_9 : xFw RX3 9 3 0 (.array .int) true := ⟨RX3, TX3, 5, tyX3, rfl, by decide, inlX3, in_wsL_law0_r4 _ (List.mem_of_getElem? (i := 0) rfl), tyX3_ok, nmX3, rfl, tyX3_ok 0 (by decide), rfl⟩
theorem f_X3_15 : xF RX3 15 3 1 := ⟨RX3, TX3, 5, rfl, by decide, inlX3, in_wsL_law0_r4 _ (List.mem_of_getElem? (i := 1) rfl)⟩
theorem fw_X3_15 : xFw RX3 15 3 1 (.array .int) true := ⟨RX3, TX3, 5, tyX3, rfl, by decide, inlX3, in_wsL_law0_r4 _ (List.mem_of_getElem? (i := 1) rfl), tyX3_ok, nmX3, rfl, tyX3_ok 1 (by decide), rfl⟩
theorem f_X3_18 : xF RX3 18 3 2 := ⟨RX3, TX3, 5, rfl, by decide, inlX3, in_wsL_law0_r4 _ (List.mem_of_getElem? (i := 2) rfl)⟩
theorem fw_X3_18 : xFw RX3 18 3 2 (.array .int) true := ⟨RX3, TX3, 5, tyX3, rfl, by decide, inlX3, in_wsL_law0_r4 _ (List.mem_of_getElem? (i := 2) rfl), tyX3_ok, nmX3, rfl, tyX3_ok 2 (by decide), rfl⟩
theorem f_X3_21 : xF RX3 21 3 3 := ⟨RX3, TX3, 5, rfl, by decide, inlX3, in_wsL_law0_r4 _ (List.mem_of_getElem? (i := 3) rfl)⟩
theorem fw_X3_21 : xFw RX3 21 3 3 (.array .int) true := ⟨RX3, TX3, 5, tyX3, rfl, by decide, inlX3, in_wsL_law0_r4 _ (List.mem_of_getElem? (i := 3) rfl), tyX3_ok, nmX3, rfl, tyX3_ok 3 (by decide), rfl⟩
theorem f_X3_24 : xF RX3 24 3 4 := ⟨RX3, TX3, 5, rfl, by decide, inlX3, in_wsL_law0_r4 _ (List.mem_of_getElem? (i := 4) rfl)⟩
theorem fw_X3_24 : xFw RX3 24 3 4 .int false := ⟨RX3, TX3, 5, tyX3, rfl, by decide, inlX3, in_wsL_law0_r4 _ (List.mem_of_getElem? (i := 4) rfl), tyX3_ok, nmX3, rfl, tyX3_ok 4 (by decide), rfl⟩
theorem k_X5_39 : Cond.methodLink RX5 39 yX0_init ∈ wsL_law := in_wsL_law0_r4 _ (List.mem_of_getElem? (i := 5) rfl)
theorem mi_X0_init : Cond.code yX0_init cX0_init 1 none ∈ wsL_law ∧ Cond.initialized RX0 ∈ wsL_law ∧ Cond.instanceMethod yX0_init ∈ wsL_law := ⟨in_wsL_law0_r4 _ (List.mem_of_getElem? (i := 7) rfl), in_wsL_law0_r2 _ (List.mem_of_getElem? (i := 9) rfl), in_wsL_law0_r4 _ (List.mem_of_getElem? (i := 6) rfl)⟩
theorem k_X0_3 : Cond.methodLink RX0 3 objectInit ∈ wsL_law := in_wsL_law0_r4 _ (List.mem_of_getElem? (i := 8) rfl)
theorem f_X0_11 : xF RX0 11 0 0 := ⟨RX0, TX0, 2, rfl, by decide, inlX0, in_wsL_law0_r4 _ (List.mem_of_getElem? (i := 9) rfl)⟩
theorem fw_X0_11 : xFw RX0 11 0 0 (.array .long) true := ⟨RX0, TX0, 2, tyX0, rfl, by decide, inlX0, in_wsL_law0_r4 _ (List.mem_of_getElem? (i := 9) rfl), tyX0_ok, nmX0, rfl, tyX0_ok 0 (by decide), rfl⟩
theorem f_X0_15 : xF RX0 15 0 1 := ⟨RX0, TX0, 2, rfl, by decide, inlX0, in_wsL_law0_r4 _ (List.mem_of_getElem? (i := 10) rfl)⟩
theorem fw_X0_15 : xFw RX0 15 0 1 (.array .int) true := ⟨RX0, TX0, 2, tyX0, rfl, by decide, inlX0, in_wsL_law0_r4 _ (List.mem_of_getElem? (i := 10) rfl), tyX0_ok, nmX0, rfl, tyX0_ok 1 (by decide), rfl⟩
theorem k_L_88 : Cond.methodLink RL 88 yX6_init ∈ wsL_law := in_wsL_law0_r4 _ (List.mem_of_getElem? (i := 11) rfl)
theorem mi_X6_init : Cond.code yX6_init cX6_init 1 none ∈ wsL_law ∧ Cond.initialized RX6 ∈ wsL_law ∧ Cond.instanceMethod yX6_init ∈ wsL_law := ⟨in_wsL_law0_r4 _ (List.mem_of_getElem? (i := 13) rfl), in_wsL_law0_r1 _ (List.mem_of_getElem? (i := 5) rfl), in_wsL_law0_r4 _ (List.mem_of_getElem? (i := 12) rfl)⟩
theorem k_X6_1 : Cond.methodLink RX6 1 objectInit ∈ wsL_law := in_wsL_law0_r4 _ (List.mem_of_getElem? (i := 14) rfl)
theorem f_X6_9 : xF RX6 9 6 2 := ⟨RX6, TX6, 24, rfl, by decide, inlX6, in_wsL_law0_r4 _ (List.mem_of_getElem? (i := 15) rfl)⟩
theorem fw_X6_9 : xFw RX6 9 6 2 (.array .int) true := ⟨RX6, TX6, 24, tyX6, rfl, by decide, inlX6, in_wsL_law0_r4 _ (List.mem_of_getElem? (i := 15) rfl), tyX6_ok, nmX6, rfl, tyX6_ok 2 (by decide), rfl⟩
theorem f_X6_13 : xF RX6 13 6 3 := ⟨RX6, TX6, 24, rfl, by decide, inlX6, in_wsL_law0_r4 _ (List.mem_of_getElem? (i := 16) rfl)⟩
theorem fw_X6_13 : xFw RX6 13 6 3 .int false := ⟨RX6, TX6, 24, tyX6, rfl, by decide, inlX6, in_wsL_law0_r4 _ (List.mem_of_getElem? (i := 16) rfl), tyX6_ok, nmX6, rfl, tyX6_ok 3 (by decide), rfl⟩
theorem f_X6_17 : xF RX6 17 6 4 := ⟨RX6, TX6, 24, rfl, by decide, inlX6, in_wsL_law0_r4 _ (List.mem_of_getElem? (i := 17) rfl)⟩
theorem fw_X6_17 : xFw RX6 17 6 4 .boolean false := ⟨RX6, TX6, 24, tyX6, rfl, by decide, inlX6, in_wsL_law0_r4 _ (List.mem_of_getElem? (i := 17) rfl), tyX6_ok, nmX6, rfl, tyX6_ok 4 (by decide), rfl⟩
theorem f_X6_21 : xF RX6 21 6 5 := ⟨RX6, TX6, 24, rfl, by decide, inlX6, in_wsL_law0_r4 _ (List.mem_of_getElem? (i := 18) rfl)⟩
theorem fw_X6_21 : xFw RX6 21 6 5 (.array .int) true := ⟨RX6, TX6, 24, tyX6, rfl, by decide, inlX6, in_wsL_law0_r4 _ (List.mem_of_getElem? (i := 18) rfl), tyX6_ok, nmX6, rfl, tyX6_ok 5 (by decide), rfl⟩
theorem f_X6_24 : xF RX6 24 6 6 := ⟨RX6, TX6, 24, rfl, by decide, inlX6, in_wsL_law0_r4 _ (List.mem_of_getElem? (i := 19) rfl)⟩
theorem fw_X6_24 : xFw RX6 24 6 6 (.array .int) true := ⟨RX6, TX6, 24, tyX6, rfl, by decide, inlX6, in_wsL_law0_r4 _ (List.mem_of_getElem? (i := 19) rfl), tyX6_ok, nmX6, rfl, tyX6_ok 6 (by decide), rfl⟩
theorem f_X6_27 : xF RX6 27 6 7 := ⟨RX6, TX6, 24, rfl, by decide, inlX6, in_wsL_law0_r4 _ (List.mem_of_getElem? (i := 21) rfl)⟩
theorem fw_X6_27 : xFw RX6 27 6 7 (.array .boolean) true := ⟨RX6, TX6, 24, tyX6, rfl, by decide, inlX6, in_wsL_law0_r4 _ (List.mem_of_getElem? (i := 21) rfl), tyX6_ok, nmX6, rfl, tyX6_ok 7 (by decide), rfl⟩
theorem f_X6_31 : xF RX6 31 6 8 := ⟨RX6, TX6, 24, rfl, by decide, inlX6, in_wsL_law0_r4 _ (List.mem_of_getElem? (i := 22) rfl)⟩
theorem fw_X6_31 : xFw RX6 31 6 8 (.array .boolean) true := ⟨RX6, TX6, 24, tyX6, rfl, by decide, inlX6, in_wsL_law0_r4 _ (List.mem_of_getElem? (i := 22) rfl), tyX6_ok, nmX6, rfl, tyX6_ok 8 (by decide), rfl⟩
theorem f_X6_34 : xF RX6 34 6 9 := ⟨RX6, TX6, 24, rfl, by decide, inlX6, in_wsL_law0_r4 _ (List.mem_of_getElem? (i := 23) rfl)⟩
theorem fw_X6_34 : xFw RX6 34 6 9 (.array .int) true := ⟨RX6, TX6, 24, tyX6, rfl, by decide, inlX6, in_wsL_law0_r4 _ (List.mem_of_getElem? (i := 23) rfl), tyX6_ok, nmX6, rfl, tyX6_ok 9 (by decide), rfl⟩
theorem f_X6_37 : xF RX6 37 6 13 := ⟨RX6, TX6, 24, rfl, by decide, inlX6, in_wsL_law0_r5 _ (List.mem_of_getElem? (i := 0) rfl)⟩
theorem fw_X6_37 : xFw RX6 37 6 13 (.array .int) true := ⟨RX6, TX6, 24, tyX6, rfl, by decide, inlX6, in_wsL_law0_r5 _ (List.mem_of_getElem? (i := 0) rfl), tyX6_ok, nmX6, rfl, tyX6_ok 13 (by decide), rfl⟩
theorem f_X6_40 : xF RX6 40 6 14 := ⟨RX6, TX6, 24, rfl, by decide, inlX6, in_wsL_law0_r5 _ (List.mem_of_getElem? (i := 1) rfl)⟩
theorem fw_X6_40 : xFw RX6 40 6 14 (.array .int) true := ⟨RX6, TX6, 24, tyX6, rfl, by decide, inlX6, in_wsL_law0_r5 _ (List.mem_of_getElem? (i := 1) rfl), tyX6_ok, nmX6, rfl, tyX6_ok 14 (by decide), rfl⟩
theorem f_X6_43 : xF RX6 43 6 15 := ⟨RX6, TX6, 24, rfl, by decide, inlX6, in_wsL_law0_r5 _ (List.mem_of_getElem? (i := 2) rfl)⟩
theorem fw_X6_43 : xFw RX6 43 6 15 (.array .int) true := ⟨RX6, TX6, 24, tyX6, rfl, by decide, inlX6, in_wsL_law0_r5 _ (List.mem_of_getElem? (i := 2) rfl), tyX6_ok, nmX6, rfl, tyX6_ok 15 (by decide), rfl⟩
theorem f_X6_46 : xF RX6 46 6 16 := ⟨RX6, TX6, 24, rfl, by decide, inlX6, in_wsL_law0_r5 _ (List.mem_of_getElem? (i := 3) rfl)⟩
theorem fw_X6_46 : xFw RX6 46 6 16 (.array .int) true := ⟨RX6, TX6, 24, tyX6, rfl, by decide, inlX6, in_wsL_law0_r5 _ (List.mem_of_getElem? (i := 3) rfl), tyX6_ok, nmX6, rfl, tyX6_ok 16 (by decide), rfl⟩
theorem f_X6_49 : xF RX6 49 6 17 := ⟨RX6, TX6, 24, rfl, by decide, inlX6, in_wsL_law0_r5 _ (List.mem_of_getElem? (i := 4) rfl)⟩
theorem fw_X6_49 : xFw RX6 49 6 17 (.array .int) true := ⟨RX6, TX6, 24, tyX6, rfl, by decide, inlX6, in_wsL_law0_r5 _ (List.mem_of_getElem? (i := 4) rfl), tyX6_ok, nmX6, rfl, tyX6_ok 17 (by decide), rfl⟩
theorem f_X6_52 : xF RX6 52 6 19 := ⟨RX6, TX6, 24, rfl, by decide, inlX6, in_wsL_law0_r5 _ (List.mem_of_getElem? (i := 5) rfl)⟩
theorem fw_X6_52 : xFw RX6 52 6 19 (.array .int) true := ⟨RX6, TX6, 24, tyX6, rfl, by decide, inlX6, in_wsL_law0_r5 _ (List.mem_of_getElem? (i := 5) rfl), tyX6_ok, nmX6, rfl, tyX6_ok 19 (by decide), rfl⟩
theorem f_X6_55 : xF RX6 55 6 21 := ⟨RX6, TX6, 24, rfl, by decide, inlX6, in_wsL_law0_r5 _ (List.mem_of_getElem? (i := 6) rfl)⟩
theorem fw_X6_55 : xFw RX6 55 6 21 (.array .int) true := ⟨RX6, TX6, 24, tyX6, rfl, by decide, inlX6, in_wsL_law0_r5 _ (List.mem_of_getElem? (i := 6) rfl), tyX6_ok, nmX6, rfl, tyX6_ok 21 (by decide), rfl⟩
theorem f_X6_58 : xF RX6 58 6 22 := ⟨RX6, TX6, 24, rfl, by decide, inlX6, in_wsL_law0_r5 _ (List.mem_of_getElem? (i := 7) rfl)⟩
theorem fw_X6_58 : xFw RX6 58 6 22 (.array .int) true := ⟨RX6, TX6, 24, tyX6, rfl, by decide, inlX6, in_wsL_law0_r5 _ (List.mem_of_getElem? (i := 7) rfl), tyX6_ok, nmX6, rfl, tyX6_ok 22 (by decide), rfl⟩
theorem f_X6_61 : xF RX6 61 6 23 := ⟨RX6, TX6, 24, rfl, by decide, inlX6, in_wsL_law0_r5 _ (List.mem_of_getElem? (i := 8) rfl)⟩
theorem fw_X6_61 : xFw RX6 61 6 23 (.array .int) true := ⟨RX6, TX6, 24, tyX6, rfl, by decide, inlX6, in_wsL_law0_r5 _ (List.mem_of_getElem? (i := 8) rfl), tyX6_ok, nmX6, rfl, tyX6_ok 23 (by decide), rfl⟩
theorem k_L_91 : Cond.methodLink RL 91 yL_feed ∈ wsL_law := in_wsL_law0_r5 _ (List.mem_of_getElem? (i := 9) rfl)
theorem ck_L_13 : Cond.classLink RL 13 "java/lang/IllegalArgumentException" ∈ wsL_law := in_wsL_law0_r5 _ (List.mem_of_getElem? (i := 13) rfl)
theorem ck_L_15 : Cond.classLink RL 15 "java/lang/IllegalStateException" ∈ wsL_law := in_wsL_law0_r5 _ (List.mem_of_getElem? (i := 14) rfl)
theorem k_L_7 : Cond.methodLink RL 7 yX5_feed ∈ wsL_law := in_wsL_law0_r5 _ (List.mem_of_getElem? (i := 15) rfl)
theorem m_X5_feed : xMv yX5_feed cX5_feed 6 (some .int) 1 5 := ⟨in_wsL_law0_r5 _ (List.mem_of_getElem? (i := 18) rfl), in_wsL_law0_r1 _ (List.mem_of_getElem? (i := 2) rfl), in_wsL_law0_r5 _ (List.mem_of_getElem? (i := 16) rfl), in_wsL_law0_r5 _ (List.mem_of_getElem? (i := 17) rfl), ⟨by decide +kernel, by decide +kernel, by decide +kernel⟩, by decide, TX5, 6, rfl⟩
theorem ck_X5_52 : Cond.classLink RX5 52 "java/lang/IllegalArgumentException" ∈ wsL_law := in_wsL_law0_r5 _ (List.mem_of_getElem? (i := 19) rfl)
theorem ck_X5_63 : Cond.classLink RX5 63 "java/lang/IllegalStateException" ∈ wsL_law := in_wsL_law0_r5 _ (List.mem_of_getElem? (i := 21) rfl)
theorem f_X5_59 : xF RX5 59 4 1 := ⟨RX4, TX4, 3, rfl, by decide, inlX4, in_wsL_law0_r5 _ (List.mem_of_getElem? (i := 23) rfl)⟩
theorem fw_X5_59 : xFw RX5 59 4 1 .int false := ⟨RX4, TX4, 3, tyX4, rfl, by decide, inlX4, in_wsL_law0_r5 _ (List.mem_of_getElem? (i := 23) rfl), tyX4_ok, nmX4, rfl, tyX4_ok 1 (by decide), rfl⟩
theorem k_X5_48 : Cond.methodLink RX5 48 yX5_isTextByte ∈ wsL_law := in_wsL_law0_r6 _ (List.mem_of_getElem? (i := 0) rfl)
theorem m_X5_isTextByte : xMs yX5_isTextByte cX5_isTextByte 1 (some .boolean) 1 := ⟨in_wsL_law0_r6 _ (List.mem_of_getElem? (i := 2) rfl), in_wsL_law0_r1 _ (List.mem_of_getElem? (i := 2) rfl), in_wsL_law0_r6 _ (List.mem_of_getElem? (i := 1) rfl), ⟨by decide +kernel, by decide +kernel, by decide +kernel⟩, by decide⟩
theorem k_X5_68 : Cond.methodLink RX5 68 yX4_append ∈ wsL_law := in_wsL_law0_r6 _ (List.mem_of_getElem? (i := 3) rfl)
theorem m_X4_append : xMv yX4_append cX4_append 2 none 1 4 := ⟨in_wsL_law0_r6 _ (List.mem_of_getElem? (i := 6) rfl), in_wsL_law0_r1 _ (List.mem_of_getElem? (i := 17) rfl), in_wsL_law0_r6 _ (List.mem_of_getElem? (i := 4) rfl), in_wsL_law0_r6 _ (List.mem_of_getElem? (i := 5) rfl), ⟨by decide +kernel, by decide +kernel, by decide +kernel⟩, by decide, TX4, 3, rfl⟩
theorem k_X5_72 : Cond.methodLink RX5 72 yX1_forget ∈ wsL_law := in_wsL_law0_r6 _ (List.mem_of_getElem? (i := 7) rfl)
theorem m_X1_forget : xMv yX1_forget cX1_forget 1 none 0 1 := ⟨in_wsL_law0_r6 _ (List.mem_of_getElem? (i := 10) rfl), in_wsL_law0_r2 _ (List.mem_of_getElem? (i := 1) rfl), in_wsL_law0_r6 _ (List.mem_of_getElem? (i := 8) rfl), in_wsL_law0_r6 _ (List.mem_of_getElem? (i := 9) rfl), ⟨by decide +kernel, by decide +kernel, by decide +kernel⟩, by decide, TX1, 11, rfl⟩
theorem k_L_96 : Cond.methodLink RL 96 yX6_feed ∈ wsL_law := in_wsL_law0_r6 _ (List.mem_of_getElem? (i := 11) rfl)
theorem m_X6_feed : xMv yX6_feed cX6_feed 6 (some .int) 1 6 := ⟨in_wsL_law0_r6 _ (List.mem_of_getElem? (i := 14) rfl), in_wsL_law0_r1 _ (List.mem_of_getElem? (i := 5) rfl), in_wsL_law0_r6 _ (List.mem_of_getElem? (i := 12) rfl), in_wsL_law0_r6 _ (List.mem_of_getElem? (i := 13) rfl), ⟨by decide +kernel, by decide +kernel, by decide +kernel⟩, by decide, TX6, 24, rfl⟩
theorem f_X6_64 : xF RX6 64 6 0 := ⟨RX6, TX6, 24, rfl, by decide, inlX6, in_wsL_law0_r6 _ (List.mem_of_getElem? (i := 15) rfl)⟩
theorem fw_X6_64 : xFw RX6 64 6 0 .int false := ⟨RX6, TX6, 24, tyX6, rfl, by decide, inlX6, in_wsL_law0_r6 _ (List.mem_of_getElem? (i := 15) rfl), tyX6_ok, nmX6, rfl, tyX6_ok 0 (by decide), rfl⟩
theorem cl_X6_71 : Cond.constantLong RX6 71 (255) ∈ wsL_law := in_wsL_law0_r6 _ (List.mem_of_getElem? (i := 16) rfl)
theorem f_X6_81 : xF RX6 81 6 1 := ⟨RX6, TX6, 24, rfl, by decide, inlX6, in_wsL_law0_r6 _ (List.mem_of_getElem? (i := 17) rfl)⟩
theorem fw_X6_81 : xFw RX6 81 6 1 .int false := ⟨RX6, TX6, 24, tyX6, rfl, by decide, inlX6, in_wsL_law0_r6 _ (List.mem_of_getElem? (i := 17) rfl), tyX6_ok, nmX6, rfl, tyX6_ok 1 (by decide), rfl⟩
theorem f_X6_84 : xF RX6 84 6 10 := ⟨RX6, TX6, 24, rfl, by decide, inlX6, in_wsL_law0_r6 _ (List.mem_of_getElem? (i := 18) rfl)⟩
theorem fw_X6_84 : xFw RX6 84 6 10 .boolean false := ⟨RX6, TX6, 24, tyX6, rfl, by decide, inlX6, in_wsL_law0_r6 _ (List.mem_of_getElem? (i := 18) rfl), tyX6_ok, nmX6, rfl, tyX6_ok 10 (by decide), rfl⟩
theorem k_X6_73 : Cond.methodLink RX6 73 yX6_isByte ∈ wsL_law := in_wsL_law0_r6 _ (List.mem_of_getElem? (i := 19) rfl)
theorem m_X6_isByte : xMs yX6_isByte cX6_isByte 1 (some .boolean) 1 := ⟨in_wsL_law0_r6 _ (List.mem_of_getElem? (i := 21) rfl), in_wsL_law0_r1 _ (List.mem_of_getElem? (i := 5) rfl), in_wsL_law0_r6 _ (List.mem_of_getElem? (i := 20) rfl), ⟨by decide +kernel, by decide +kernel, by decide +kernel⟩, by decide⟩
theorem k_X6_67 : Cond.methodLink RX6 67 yX6_isIn ∈ wsL_law := in_wsL_law0_r6 _ (List.mem_of_getElem? (i := 22) rfl)
theorem m_X6_isIn : xMs yX6_isIn cX6_isIn 3 (some .boolean) 3 := ⟨in_wsL_law0_r7 _ (List.mem_of_getElem? (i := 0) rfl), in_wsL_law0_r1 _ (List.mem_of_getElem? (i := 5) rfl), in_wsL_law0_r6 _ (List.mem_of_getElem? (i := 23) rfl), ⟨by decide +kernel, by decide +kernel, by decide +kernel⟩, by decide⟩
theorem k_X6_77 : Cond.methodLink RX6 77 yX6_no ∈ wsL_law := in_wsL_law0_r7 _ (List.mem_of_getElem? (i := 1) rfl)
theorem m_X6_no : xMv yX6_no cX6_no 2 (some .int) 1 6 := ⟨in_wsL_law0_r7 _ (List.mem_of_getElem? (i := 4) rfl), in_wsL_law0_r1 _ (List.mem_of_getElem? (i := 5) rfl), in_wsL_law0_r7 _ (List.mem_of_getElem? (i := 2) rfl), in_wsL_law0_r7 _ (List.mem_of_getElem? (i := 3) rfl), ⟨by decide +kernel, by decide +kernel, by decide +kernel⟩, by decide, TX6, 24, rfl⟩
theorem k_L_97 : Cond.methodLink RL 97 yX6_thrown ∈ wsL_law := in_wsL_law0_r7 _ (List.mem_of_getElem? (i := 5) rfl)
theorem m_X6_thrown : xMv yX6_thrown cX6_thrown 1 (some .int) 0 6 := ⟨in_wsL_law0_r7 _ (List.mem_of_getElem? (i := 8) rfl), in_wsL_law0_r1 _ (List.mem_of_getElem? (i := 5) rfl), in_wsL_law0_r7 _ (List.mem_of_getElem? (i := 6) rfl), in_wsL_law0_r7 _ (List.mem_of_getElem? (i := 7) rfl), ⟨by decide +kernel, by decide +kernel, by decide +kernel⟩, by decide, TX6, 24, rfl⟩
theorem k_L_100 : Cond.methodLink RL 100 yL_cut ∈ wsL_law := in_wsL_law0_r7 _ (List.mem_of_getElem? (i := 9) rfl)
theorem k_L_17 : Cond.methodLink RL 17 yX5_cut ∈ wsL_law := in_wsL_law0_r7 _ (List.mem_of_getElem? (i := 12) rfl)
theorem m_X5_cut : xMv yX5_cut cX5_cut 2 (some .int) 1 5 := ⟨in_wsL_law0_r7 _ (List.mem_of_getElem? (i := 15) rfl), in_wsL_law0_r1 _ (List.mem_of_getElem? (i := 2) rfl), in_wsL_law0_r7 _ (List.mem_of_getElem? (i := 13) rfl), in_wsL_law0_r7 _ (List.mem_of_getElem? (i := 14) rfl), ⟨by decide +kernel, by decide +kernel, by decide +kernel⟩, by decide, TX5, 6, rfl⟩
theorem k_L_103 : Cond.methodLink RL 103 yX6_cut ∈ wsL_law := in_wsL_law0_r7 _ (List.mem_of_getElem? (i := 16) rfl)
theorem m_X6_cut : xMv yX6_cut cX6_cut 2 (some .int) 1 6 := ⟨in_wsL_law0_r7 _ (List.mem_of_getElem? (i := 19) rfl), in_wsL_law0_r1 _ (List.mem_of_getElem? (i := 5) rfl), in_wsL_law0_r7 _ (List.mem_of_getElem? (i := 17) rfl), in_wsL_law0_r7 _ (List.mem_of_getElem? (i := 18) rfl), ⟨by decide +kernel, by decide +kernel, by decide +kernel⟩, by decide, TX6, 24, rfl⟩
theorem k_L_104 : Cond.methodLink RL 104 yL_set ∈ wsL_law := in_wsL_law0_r7 _ (List.mem_of_getElem? (i := 20) rfl)
theorem ck_L_25 : Cond.classLink RL 25 "java/lang/IndexOutOfBoundsException" ∈ wsL_law := in_wsL_law0_r7 _ (List.mem_of_getElem? (i := 23) rfl)
theorem k_L_21 : Cond.methodLink RL 21 yX5_set ∈ wsL_law := in_wsL_law0_r8 _ (List.mem_of_getElem? (i := 0) rfl)
theorem m_X5_set : xMv yX5_set cX5_set 4 (some .int) 2 5 := ⟨in_wsL_law0_r8 _ (List.mem_of_getElem? (i := 3) rfl), in_wsL_law0_r1 _ (List.mem_of_getElem? (i := 2) rfl), in_wsL_law0_r8 _ (List.mem_of_getElem? (i := 1) rfl), in_wsL_law0_r8 _ (List.mem_of_getElem? (i := 2) rfl), ⟨by decide +kernel, by decide +kernel, by decide +kernel⟩, by decide, TX5, 6, rfl⟩
theorem f_X5_82 : xF RX5 82 4 0 := ⟨RX4, TX4, 3, rfl, by decide, inlX4, in_wsL_law0_r8 _ (List.mem_of_getElem? (i := 4) rfl)⟩
theorem fw_X5_82 : xFw RX5 82 4 0 (.array .int) true := ⟨RX4, TX4, 3, tyX4, rfl, by decide, inlX4, in_wsL_law0_r8 _ (List.mem_of_getElem? (i := 4) rfl), tyX4_ok, nmX4, rfl, tyX4_ok 0 (by decide), rfl⟩
theorem k_X5_77 : Cond.methodLink RX5 77 yX5_needPlace ∈ wsL_law := in_wsL_law0_r8 _ (List.mem_of_getElem? (i := 5) rfl)
theorem m_X5_needPlace : xMv yX5_needPlace cX5_needPlace 2 none 1 5 := ⟨in_wsL_law0_r8 _ (List.mem_of_getElem? (i := 8) rfl), in_wsL_law0_r1 _ (List.mem_of_getElem? (i := 2) rfl), in_wsL_law0_r8 _ (List.mem_of_getElem? (i := 6) rfl), in_wsL_law0_r8 _ (List.mem_of_getElem? (i := 7) rfl), ⟨by decide +kernel, by decide +kernel, by decide +kernel⟩, by decide, TX5, 6, rfl⟩
theorem ck_X5_159 : Cond.classLink RX5 159 "java/lang/IndexOutOfBoundsException" ∈ wsL_law := in_wsL_law0_r8 _ (List.mem_of_getElem? (i := 9) rfl)
theorem k_X5_214 : Cond.methodLink RX5 214 yX4_hasPlace ∈ wsL_law := in_wsL_law0_r8 _ (List.mem_of_getElem? (i := 11) rfl)
theorem m_X4_hasPlace : xMv yX4_hasPlace cX4_hasPlace 2 (some .boolean) 1 4 := ⟨in_wsL_law0_r8 _ (List.mem_of_getElem? (i := 14) rfl), in_wsL_law0_r1 _ (List.mem_of_getElem? (i := 17) rfl), in_wsL_law0_r8 _ (List.mem_of_getElem? (i := 12) rfl), in_wsL_law0_r8 _ (List.mem_of_getElem? (i := 13) rfl), ⟨by decide +kernel, by decide +kernel, by decide +kernel⟩, by decide, TX4, 3, rfl⟩
theorem k_L_107 : Cond.methodLink RL 107 yX6_set ∈ wsL_law := in_wsL_law0_r8 _ (List.mem_of_getElem? (i := 15) rfl)
theorem m_X6_set : xMv yX6_set cX6_set 4 (some .int) 2 6 := ⟨in_wsL_law0_r8 _ (List.mem_of_getElem? (i := 18) rfl), in_wsL_law0_r1 _ (List.mem_of_getElem? (i := 5) rfl), in_wsL_law0_r8 _ (List.mem_of_getElem? (i := 16) rfl), in_wsL_law0_r8 _ (List.mem_of_getElem? (i := 17) rfl), ⟨by decide +kernel, by decide +kernel, by decide +kernel⟩, by decide, TX6, 24, rfl⟩
theorem k_L_108 : Cond.methodLink RL 108 yX5_size ∈ wsL_law := in_wsL_law0_r8 _ (List.mem_of_getElem? (i := 19) rfl)
theorem m_X5_size : xMv yX5_size cX5_size 1 (some .int) 0 5 := ⟨in_wsL_law0_r8 _ (List.mem_of_getElem? (i := 22) rfl), in_wsL_law0_r1 _ (List.mem_of_getElem? (i := 2) rfl), in_wsL_law0_r8 _ (List.mem_of_getElem? (i := 20) rfl), in_wsL_law0_r8 _ (List.mem_of_getElem? (i := 21) rfl), ⟨by decide +kernel, by decide +kernel, by decide +kernel⟩, by decide, TX5, 6, rfl⟩
theorem k_L_111 : Cond.methodLink RL 111 yX6_size ∈ wsL_law := in_wsL_law0_r8 _ (List.mem_of_getElem? (i := 23) rfl)
theorem m_X6_size : xMv yX6_size cX6_size 1 (some .int) 0 6 := ⟨in_wsL_law0_r9 _ (List.mem_of_getElem? (i := 2) rfl), in_wsL_law0_r1 _ (List.mem_of_getElem? (i := 5) rfl), in_wsL_law0_r9 _ (List.mem_of_getElem? (i := 0) rfl), in_wsL_law0_r9 _ (List.mem_of_getElem? (i := 1) rfl), ⟨by decide +kernel, by decide +kernel, by decide +kernel⟩, by decide, TX6, 24, rfl⟩
theorem k_L_112 : Cond.methodLink RL 112 yL_byteAt ∈ wsL_law := in_wsL_law0_r9 _ (List.mem_of_getElem? (i := 3) rfl)
theorem k_L_27 : Cond.methodLink RL 27 yX5_byteAt ∈ wsL_law := in_wsL_law0_r9 _ (List.mem_of_getElem? (i := 6) rfl)
theorem m_X5_byteAt : xMv yX5_byteAt cX5_byteAt 2 (some .int) 1 5 := ⟨in_wsL_law0_r9 _ (List.mem_of_getElem? (i := 9) rfl), in_wsL_law0_r1 _ (List.mem_of_getElem? (i := 2) rfl), in_wsL_law0_r9 _ (List.mem_of_getElem? (i := 7) rfl), in_wsL_law0_r9 _ (List.mem_of_getElem? (i := 8) rfl), ⟨by decide +kernel, by decide +kernel, by decide +kernel⟩, by decide, TX5, 6, rfl⟩
theorem k_L_114 : Cond.methodLink RL 114 yX6_byteAt ∈ wsL_law := in_wsL_law0_r9 _ (List.mem_of_getElem? (i := 10) rfl)
theorem m_X6_byteAt : xMv yX6_byteAt cX6_byteAt 2 (some .int) 1 6 := ⟨in_wsL_law0_r9 _ (List.mem_of_getElem? (i := 13) rfl), in_wsL_law0_r1 _ (List.mem_of_getElem? (i := 5) rfl), in_wsL_law0_r9 _ (List.mem_of_getElem? (i := 11) rfl), in_wsL_law0_r9 _ (List.mem_of_getElem? (i := 12) rfl), ⟨by decide +kernel, by decide +kernel, by decide +kernel⟩, by decide, TX6, 24, rfl⟩
theorem k_L_115 : Cond.methodLink RL 115 yL_setEscape ∈ wsL_law := in_wsL_law0_r9 _ (List.mem_of_getElem? (i := 14) rfl)
theorem k_L_30 : Cond.methodLink RL 30 yX5_setEscape ∈ wsL_law := in_wsL_law0_r9 _ (List.mem_of_getElem? (i := 17) rfl)
theorem m_X5_setEscape : xMv yX5_setEscape cX5_setEscape 3 (some .int) 1 5 := ⟨in_wsL_law0_r9 _ (List.mem_of_getElem? (i := 20) rfl), in_wsL_law0_r1 _ (List.mem_of_getElem? (i := 2) rfl), in_wsL_law0_r9 _ (List.mem_of_getElem? (i := 18) rfl), in_wsL_law0_r9 _ (List.mem_of_getElem? (i := 19) rfl), ⟨by decide +kernel, by decide +kernel, by decide +kernel⟩, by decide, TX5, 6, rfl⟩
theorem f_X5_88 : xF RX5 88 4 2 := ⟨RX4, TX4, 3, rfl, by decide, inlX4, in_wsL_law0_r9 _ (List.mem_of_getElem? (i := 21) rfl)⟩
theorem fw_X5_88 : xFw RX5 88 4 2 .int false := ⟨RX4, TX4, 3, tyX4, rfl, by decide, inlX4, in_wsL_law0_r9 _ (List.mem_of_getElem? (i := 21) rfl), tyX4_ok, nmX4, rfl, tyX4_ok 2 (by decide), rfl⟩
theorem k_L_117 : Cond.methodLink RL 117 yX6_setEscape ∈ wsL_law := in_wsL_law0_r9 _ (List.mem_of_getElem? (i := 22) rfl)
theorem m_X6_setEscape : xMv yX6_setEscape cX6_setEscape 3 (some .int) 1 6 := ⟨in_wsL_law0_r10 _ (List.mem_of_getElem? (i := 1) rfl), in_wsL_law0_r1 _ (List.mem_of_getElem? (i := 5) rfl), in_wsL_law0_r9 _ (List.mem_of_getElem? (i := 23) rfl), in_wsL_law0_r10 _ (List.mem_of_getElem? (i := 0) rfl), ⟨by decide +kernel, by decide +kernel, by decide +kernel⟩, by decide, TX6, 24, rfl⟩
theorem k_L_118 : Cond.methodLink RL 118 yL_setWord ∈ wsL_law := in_wsL_law0_r10 _ (List.mem_of_getElem? (i := 2) rfl)
theorem k_L_33 : Cond.methodLink RL 33 yX5_setWord ∈ wsL_law := in_wsL_law0_r10 _ (List.mem_of_getElem? (i := 5) rfl)
theorem m_X5_setWord : xMv yX5_setWord cX5_setWord 8 (some .boolean) 4 5 := ⟨in_wsL_law0_r10 _ (List.mem_of_getElem? (i := 8) rfl), in_wsL_law0_r1 _ (List.mem_of_getElem? (i := 2) rfl), in_wsL_law0_r10 _ (List.mem_of_getElem? (i := 6) rfl), in_wsL_law0_r10 _ (List.mem_of_getElem? (i := 7) rfl), ⟨by decide +kernel, by decide +kernel, by decide +kernel⟩, by decide, TX5, 6, rfl⟩
theorem f_X5_98 : xF RX5 98 2 1 := ⟨RX2, TX2, 5, rfl, by decide, inlX2, in_wsL_law0_r10 _ (List.mem_of_getElem? (i := 9) rfl)⟩
theorem fw_X5_98 : xFw RX5 98 2 1 (.array .int) true := ⟨RX2, TX2, 5, tyX2, rfl, by decide, inlX2, in_wsL_law0_r10 _ (List.mem_of_getElem? (i := 9) rfl), tyX2_ok, nmX2, rfl, tyX2_ok 1 (by decide), rfl⟩
theorem f_X5_101 : xF RX5 101 2 0 := ⟨RX2, TX2, 5, rfl, by decide, inlX2, in_wsL_law0_r10 _ (List.mem_of_getElem? (i := 10) rfl)⟩
theorem fw_X5_101 : xFw RX5 101 2 0 (.array .int) true := ⟨RX2, TX2, 5, tyX2, rfl, by decide, inlX2, in_wsL_law0_r10 _ (List.mem_of_getElem? (i := 10) rfl), tyX2_ok, nmX2, rfl, tyX2_ok 0 (by decide), rfl⟩
theorem k_X5_91 : Cond.methodLink RX5 91 yX5_needKind ∈ wsL_law := in_wsL_law0_r10 _ (List.mem_of_getElem? (i := 11) rfl)
theorem m_X5_needKind : xMv yX5_needKind cX5_needKind 2 none 1 5 := ⟨in_wsL_law0_r10 _ (List.mem_of_getElem? (i := 14) rfl), in_wsL_law0_r1 _ (List.mem_of_getElem? (i := 2) rfl), in_wsL_law0_r10 _ (List.mem_of_getElem? (i := 12) rfl), in_wsL_law0_r10 _ (List.mem_of_getElem? (i := 13) rfl), ⟨by decide +kernel, by decide +kernel, by decide +kernel⟩, by decide, TX5, 6, rfl⟩
theorem k_X5_104 : Cond.methodLink RX5 104 yX2_isComplete ∈ wsL_law := in_wsL_law0_r10 _ (List.mem_of_getElem? (i := 15) rfl)
theorem m_X2_isComplete : xMv yX2_isComplete cX2_isComplete 2 (some .boolean) 1 2 := ⟨in_wsL_law0_r10 _ (List.mem_of_getElem? (i := 18) rfl), in_wsL_law0_r1 _ (List.mem_of_getElem? (i := 21) rfl), in_wsL_law0_r10 _ (List.mem_of_getElem? (i := 16) rfl), in_wsL_law0_r10 _ (List.mem_of_getElem? (i := 17) rfl), ⟨by decide +kernel, by decide +kernel, by decide +kernel⟩, by decide, TX2, 5, rfl⟩
theorem k_L_121 : Cond.methodLink RL 121 yX6_setWord ∈ wsL_law := in_wsL_law0_r10 _ (List.mem_of_getElem? (i := 19) rfl)
theorem m_X6_setWord : xMv yX6_setWord cX6_setWord 7 (some .boolean) 4 6 := ⟨in_wsL_law0_r10 _ (List.mem_of_getElem? (i := 22) rfl), in_wsL_law0_r1 _ (List.mem_of_getElem? (i := 5) rfl), in_wsL_law0_r10 _ (List.mem_of_getElem? (i := 20) rfl), in_wsL_law0_r10 _ (List.mem_of_getElem? (i := 21) rfl), ⟨by decide +kernel, by decide +kernel, by decide +kernel⟩, by decide, TX6, 24, rfl⟩
theorem k_X6_87 : Cond.methodLink RX6 87 yX6_isComplete ∈ wsL_law := in_wsL_law0_r10 _ (List.mem_of_getElem? (i := 23) rfl)
theorem m_X6_isComplete : xMv yX6_isComplete cX6_isComplete 2 (some .boolean) 1 6 := ⟨in_wsL_law0_r11 _ (List.mem_of_getElem? (i := 2) rfl), in_wsL_law0_r1 _ (List.mem_of_getElem? (i := 5) rfl), in_wsL_law0_r11 _ (List.mem_of_getElem? (i := 0) rfl), in_wsL_law0_r11 _ (List.mem_of_getElem? (i := 1) rfl), ⟨by decide +kernel, by decide +kernel, by decide +kernel⟩, by decide, TX6, 24, rfl⟩
theorem k_L_122 : Cond.methodLink RL 122 yL_setKind ∈ wsL_law := in_wsL_law0_r11 _ (List.mem_of_getElem? (i := 3) rfl)
theorem k_L_37 : Cond.methodLink RL 37 yX5_setKind ∈ wsL_law := in_wsL_law0_r11 _ (List.mem_of_getElem? (i := 6) rfl)
theorem m_X5_setKind : xMv yX5_setKind cX5_setKind 6 (some .int) 4 5 := ⟨in_wsL_law0_r11 _ (List.mem_of_getElem? (i := 9) rfl), in_wsL_law0_r1 _ (List.mem_of_getElem? (i := 2) rfl), in_wsL_law0_r11 _ (List.mem_of_getElem? (i := 7) rfl), in_wsL_law0_r11 _ (List.mem_of_getElem? (i := 8) rfl), ⟨by decide +kernel, by decide +kernel, by decide +kernel⟩, by decide, TX5, 6, rfl⟩
theorem f_X5_109 : xF RX5 109 2 2 := ⟨RX2, TX2, 5, rfl, by decide, inlX2, in_wsL_law0_r11 _ (List.mem_of_getElem? (i := 10) rfl)⟩
theorem fw_X5_109 : xFw RX5 109 2 2 (.array .int) true := ⟨RX2, TX2, 5, tyX2, rfl, by decide, inlX2, in_wsL_law0_r11 _ (List.mem_of_getElem? (i := 10) rfl), tyX2_ok, nmX2, rfl, tyX2_ok 2 (by decide), rfl⟩
theorem f_X5_112 : xF RX5 112 2 3 := ⟨RX2, TX2, 5, rfl, by decide, inlX2, in_wsL_law0_r11 _ (List.mem_of_getElem? (i := 11) rfl)⟩
theorem fw_X5_112 : xFw RX5 112 2 3 .int false := ⟨RX2, TX2, 5, tyX2, rfl, by decide, inlX2, in_wsL_law0_r11 _ (List.mem_of_getElem? (i := 11) rfl), tyX2_ok, nmX2, rfl, tyX2_ok 3 (by decide), rfl⟩
theorem f_X5_119 : xF RX5 119 2 4 := ⟨RX2, TX2, 5, rfl, by decide, inlX2, in_wsL_law0_r11 _ (List.mem_of_getElem? (i := 12) rfl)⟩
theorem fw_X5_119 : xFw RX5 119 2 4 .int false := ⟨RX2, TX2, 5, tyX2, rfl, by decide, inlX2, in_wsL_law0_r11 _ (List.mem_of_getElem? (i := 12) rfl), tyX2_ok, nmX2, rfl, tyX2_ok 4 (by decide), rfl⟩
theorem k_X5_115 : Cond.methodLink RX5 115 yX5_withKind ∈ wsL_law := in_wsL_law0_r11 _ (List.mem_of_getElem? (i := 13) rfl)
theorem m_X5_withKind : xMs yX5_withKind cX5_withKind 3 (some .int) 3 := ⟨in_wsL_law0_r11 _ (List.mem_of_getElem? (i := 15) rfl), in_wsL_law0_r1 _ (List.mem_of_getElem? (i := 2) rfl), in_wsL_law0_r11 _ (List.mem_of_getElem? (i := 14) rfl), ⟨by decide +kernel, by decide +kernel, by decide +kernel⟩, by decide⟩
theorem k_L_125 : Cond.methodLink RL 125 yX6_setKind ∈ wsL_law := in_wsL_law0_r11 _ (List.mem_of_getElem? (i := 16) rfl)
theorem m_X6_setKind : xMv yX6_setKind cX6_setKind 6 (some .int) 4 6 := ⟨in_wsL_law0_r11 _ (List.mem_of_getElem? (i := 19) rfl), in_wsL_law0_r1 _ (List.mem_of_getElem? (i := 5) rfl), in_wsL_law0_r11 _ (List.mem_of_getElem? (i := 17) rfl), in_wsL_law0_r11 _ (List.mem_of_getElem? (i := 18) rfl), ⟨by decide +kernel, by decide +kernel, by decide +kernel⟩, by decide, TX6, 24, rfl⟩
theorem k_L_126 : Cond.methodLink RL 126 yX5_setLenient ∈ wsL_law := in_wsL_law0_r11 _ (List.mem_of_getElem? (i := 20) rfl)
theorem m_X5_setLenient : xMv yX5_setLenient cX5_setLenient 3 (some .boolean) 1 5 := ⟨in_wsL_law0_r11 _ (List.mem_of_getElem? (i := 23) rfl), in_wsL_law0_r1 _ (List.mem_of_getElem? (i := 2) rfl), in_wsL_law0_r11 _ (List.mem_of_getElem? (i := 21) rfl), in_wsL_law0_r11 _ (List.mem_of_getElem? (i := 22) rfl), ⟨by decide +kernel, by decide +kernel, by decide +kernel⟩, by decide, TX5, 6, rfl⟩
theorem k_L_130 : Cond.methodLink RL 130 yX6_setLenient ∈ wsL_law := in_wsL_law0_r12 _ (List.mem_of_getElem? (i := 0) rfl)
theorem m_X6_setLenient : xMv yX6_setLenient cX6_setLenient 3 (some .boolean) 1 6 := ⟨in_wsL_law0_r12 _ (List.mem_of_getElem? (i := 3) rfl), in_wsL_law0_r1 _ (List.mem_of_getElem? (i := 5) rfl), in_wsL_law0_r12 _ (List.mem_of_getElem? (i := 1) rfl), in_wsL_law0_r12 _ (List.mem_of_getElem? (i := 2) rfl), ⟨by decide +kernel, by decide +kernel, by decide +kernel⟩, by decide, TX6, 24, rfl⟩
theorem k_L_131 : Cond.methodLink RL 131 yX5_quick ∈ wsL_law := in_wsL_law0_r12 _ (List.mem_of_getElem? (i := 4) rfl)
theorem m_X5_quick : xMv yX5_quick cX5_quick 3 (some .int) 0 5 := ⟨in_wsL_law0_r12 _ (List.mem_of_getElem? (i := 7) rfl), in_wsL_law0_r1 _ (List.mem_of_getElem? (i := 2) rfl), in_wsL_law0_r12 _ (List.mem_of_getElem? (i := 5) rfl), in_wsL_law0_r12 _ (List.mem_of_getElem? (i := 6) rfl), ⟨by decide +kernel, by decide +kernel, by decide +kernel⟩, by decide, TX5, 6, rfl⟩
theorem f_X5_132 : xF RX5 132 1 8 := ⟨RX1, TX1, 11, rfl, by decide, inlX1, in_wsL_law0_r12 _ (List.mem_of_getElem? (i := 8) rfl)⟩
theorem fw_X5_132 : xFw RX5 132 1 8 .int false := ⟨RX1, TX1, 11, tyX1, rfl, by decide, inlX1, in_wsL_law0_r12 _ (List.mem_of_getElem? (i := 8) rfl), tyX1_ok, nmX1, rfl, tyX1_ok 8 (by decide), rfl⟩
theorem f_X5_139 : xF RX5 139 1 7 := ⟨RX1, TX1, 11, rfl, by decide, inlX1, in_wsL_law0_r12 _ (List.mem_of_getElem? (i := 9) rfl)⟩
theorem fw_X5_139 : xFw RX5 139 1 7 .int false := ⟨RX1, TX1, 11, tyX1, rfl, by decide, inlX1, in_wsL_law0_r12 _ (List.mem_of_getElem? (i := 9) rfl), tyX1_ok, nmX1, rfl, tyX1_ok 7 (by decide), rfl⟩
theorem k_X5_122 : Cond.methodLink RX5 122 yX1_startReading ∈ wsL_law := in_wsL_law0_r12 _ (List.mem_of_getElem? (i := 10) rfl)
theorem m_X1_startReading : xMv yX1_startReading cX1_startReading 1 none 0 1 := ⟨in_wsL_law0_r12 _ (List.mem_of_getElem? (i := 13) rfl), in_wsL_law0_r2 _ (List.mem_of_getElem? (i := 1) rfl), in_wsL_law0_r12 _ (List.mem_of_getElem? (i := 11) rfl), in_wsL_law0_r12 _ (List.mem_of_getElem? (i := 12) rfl), ⟨by decide +kernel, by decide +kernel, by decide +kernel⟩, by decide, TX1, 11, rfl⟩
theorem k_X5_125 : Cond.methodLink RX5 125 yX4_isEscape ∈ wsL_law := in_wsL_law0_r12 _ (List.mem_of_getElem? (i := 14) rfl)
theorem m_X4_isEscape : xMv yX4_isEscape cX4_isEscape 2 (some .boolean) 1 4 := ⟨in_wsL_law0_r12 _ (List.mem_of_getElem? (i := 17) rfl), in_wsL_law0_r1 _ (List.mem_of_getElem? (i := 17) rfl), in_wsL_law0_r12 _ (List.mem_of_getElem? (i := 15) rfl), in_wsL_law0_r12 _ (List.mem_of_getElem? (i := 16) rfl), ⟨by decide +kernel, by decide +kernel, by decide +kernel⟩, by decide, TX4, 3, rfl⟩
theorem k_X4_22 : Cond.methodLink RX4 22 yX4_hasPlace ∈ wsL_law := in_wsL_law0_r12 _ (List.mem_of_getElem? (i := 18) rfl)
theorem k_X5_128 : Cond.methodLink RX5 128 yX5_readWordAt ∈ wsL_law := in_wsL_law0_r12 _ (List.mem_of_getElem? (i := 19) rfl)
theorem m_X5_readWordAt : xMv yX5_readWordAt cX5_readWordAt 4 (some .int) 1 5 := ⟨in_wsL_law0_r12 _ (List.mem_of_getElem? (i := 22) rfl), in_wsL_law0_r1 _ (List.mem_of_getElem? (i := 2) rfl), in_wsL_law0_r12 _ (List.mem_of_getElem? (i := 20) rfl), in_wsL_law0_r12 _ (List.mem_of_getElem? (i := 21) rfl), ⟨by decide +kernel, by decide +kernel, by decide +kernel⟩, by decide, TX5, 6, rfl⟩
theorem k_X5_225 : Cond.methodLink RX5 225 yX4_wordAt ∈ wsL_law := in_wsL_law0_r12 _ (List.mem_of_getElem? (i := 23) rfl)
theorem m_X4_wordAt : xMv yX4_wordAt cX4_wordAt 5 (some .int) 2 4 := ⟨in_wsL_law0_r13 _ (List.mem_of_getElem? (i := 2) rfl), in_wsL_law0_r1 _ (List.mem_of_getElem? (i := 17) rfl), in_wsL_law0_r13 _ (List.mem_of_getElem? (i := 0) rfl), in_wsL_law0_r13 _ (List.mem_of_getElem? (i := 1) rfl), ⟨by decide +kernel, by decide +kernel, by decide +kernel⟩, by decide, TX4, 3, rfl⟩
theorem k_X4_26 : Cond.methodLink RX4 26 yX4_isEscape ∈ wsL_law := in_wsL_law0_r13 _ (List.mem_of_getElem? (i := 3) rfl)
theorem k_X5_229 : Cond.methodLink RX5 229 yX5_takesWord ∈ wsL_law := in_wsL_law0_r13 _ (List.mem_of_getElem? (i := 4) rfl)
theorem m_X5_takesWord : xMv yX5_takesWord cX5_takesWord 6 (some .boolean) 3 5 := ⟨in_wsL_law0_r13 _ (List.mem_of_getElem? (i := 7) rfl), in_wsL_law0_r1 _ (List.mem_of_getElem? (i := 2) rfl), in_wsL_law0_r13 _ (List.mem_of_getElem? (i := 5) rfl), in_wsL_law0_r13 _ (List.mem_of_getElem? (i := 6) rfl), ⟨by decide +kernel, by decide +kernel, by decide +kernel⟩, by decide, TX5, 6, rfl⟩
theorem k_X5_233 : Cond.methodLink RX5 233 yX1_innermostKind ∈ wsL_law := in_wsL_law0_r13 _ (List.mem_of_getElem? (i := 8) rfl)
theorem m_X1_innermostKind : xMv yX1_innermostKind cX1_innermostKind 1 (some .int) 0 1 := ⟨in_wsL_law0_r13 _ (List.mem_of_getElem? (i := 11) rfl), in_wsL_law0_r2 _ (List.mem_of_getElem? (i := 1) rfl), in_wsL_law0_r13 _ (List.mem_of_getElem? (i := 9) rfl), in_wsL_law0_r13 _ (List.mem_of_getElem? (i := 10) rfl), ⟨by decide +kernel, by decide +kernel, by decide +kernel⟩, by decide, TX1, 11, rfl⟩
theorem k_X1_51 : Cond.methodLink RX1 51 yX1_openKind ∈ wsL_law := in_wsL_law0_r13 _ (List.mem_of_getElem? (i := 12) rfl)
theorem m_X1_openKind : xMv yX1_openKind cX1_openKind 3 (some .int) 1 1 := ⟨in_wsL_law0_r13 _ (List.mem_of_getElem? (i := 15) rfl), in_wsL_law0_r2 _ (List.mem_of_getElem? (i := 1) rfl), in_wsL_law0_r13 _ (List.mem_of_getElem? (i := 13) rfl), in_wsL_law0_r13 _ (List.mem_of_getElem? (i := 14) rfl), ⟨by decide +kernel, by decide +kernel, by decide +kernel⟩, by decide, TX1, 11, rfl⟩
theorem k_X1_47 : Cond.methodLink RX1 47 yX1_openIsland ∈ wsL_law := in_wsL_law0_r13 _ (List.mem_of_getElem? (i := 16) rfl)
theorem m_X1_openIsland : xMv yX1_openIsland cX1_openIsland 3 (some .int) 1 1 := ⟨in_wsL_law0_r13 _ (List.mem_of_getElem? (i := 19) rfl), in_wsL_law0_r2 _ (List.mem_of_getElem? (i := 1) rfl), in_wsL_law0_r13 _ (List.mem_of_getElem? (i := 17) rfl), in_wsL_law0_r13 _ (List.mem_of_getElem? (i := 18) rfl), ⟨by decide +kernel, by decide +kernel, by decide +kernel⟩, by decide, TX1, 11, rfl⟩
theorem k_X5_237 : Cond.methodLink RX5 237 yX2_isClosedBy ∈ wsL_law := in_wsL_law0_r13 _ (List.mem_of_getElem? (i := 20) rfl)
theorem m_X2_isClosedBy : xMv yX2_isClosedBy cX2_isClosedBy 3 (some .boolean) 2 2 := ⟨in_wsL_law0_r13 _ (List.mem_of_getElem? (i := 23) rfl), in_wsL_law0_r1 _ (List.mem_of_getElem? (i := 21) rfl), in_wsL_law0_r13 _ (List.mem_of_getElem? (i := 21) rfl), in_wsL_law0_r13 _ (List.mem_of_getElem? (i := 22) rfl), ⟨by decide +kernel, by decide +kernel, by decide +kernel⟩, by decide, TX2, 5, rfl⟩
theorem k_X2_28 : Cond.methodLink RX2 28 yX2_isComplete ∈ wsL_law := in_wsL_law0_r14 _ (List.mem_of_getElem? (i := 0) rfl)
theorem k_X5_240 : Cond.methodLink RX5 240 yX1_finish ∈ wsL_law := in_wsL_law0_r14 _ (List.mem_of_getElem? (i := 1) rfl)
theorem m_X1_finish : xMv yX1_finish cX1_finish 4 none 2 1 := ⟨in_wsL_law0_r14 _ (List.mem_of_getElem? (i := 4) rfl), in_wsL_law0_r2 _ (List.mem_of_getElem? (i := 1) rfl), in_wsL_law0_r14 _ (List.mem_of_getElem? (i := 2) rfl), in_wsL_law0_r14 _ (List.mem_of_getElem? (i := 3) rfl), ⟨by decide +kernel, by decide +kernel, by decide +kernel⟩, by decide, TX1, 11, rfl⟩
theorem k_X5_244 : Cond.methodLink RX5 244 yX2_openedBy ∈ wsL_law := in_wsL_law0_r14 _ (List.mem_of_getElem? (i := 5) rfl)
theorem m_X2_openedBy : xMv yX2_openedBy cX2_openedBy 2 (some .int) 1 2 := ⟨in_wsL_law0_r14 _ (List.mem_of_getElem? (i := 8) rfl), in_wsL_law0_r1 _ (List.mem_of_getElem? (i := 21) rfl), in_wsL_law0_r14 _ (List.mem_of_getElem? (i := 6) rfl), in_wsL_law0_r14 _ (List.mem_of_getElem? (i := 7) rfl), ⟨by decide +kernel, by decide +kernel, by decide +kernel⟩, by decide, TX2, 5, rfl⟩
theorem k_X2_32 : Cond.methodLink RX2 32 yX2_kindsWith ∈ wsL_law := in_wsL_law0_r14 _ (List.mem_of_getElem? (i := 9) rfl)
theorem m_X2_kindsWith : xMv yX2_kindsWith cX2_kindsWith 5 (some .int) 2 2 := ⟨in_wsL_law0_r14 _ (List.mem_of_getElem? (i := 12) rfl), in_wsL_law0_r1 _ (List.mem_of_getElem? (i := 21) rfl), in_wsL_law0_r14 _ (List.mem_of_getElem? (i := 10) rfl), in_wsL_law0_r14 _ (List.mem_of_getElem? (i := 11) rfl), ⟨by decide +kernel, by decide +kernel, by decide +kernel⟩, by decide, TX2, 5, rfl⟩
theorem k_X5_247 : Cond.methodLink RX5 247 yX2_allowedIn ∈ wsL_law := in_wsL_law0_r14 _ (List.mem_of_getElem? (i := 13) rfl)
theorem m_X2_allowedIn : xMv yX2_allowedIn cX2_allowedIn 2 (some .int) 1 2 := ⟨in_wsL_law0_r14 _ (List.mem_of_getElem? (i := 16) rfl), in_wsL_law0_r1 _ (List.mem_of_getElem? (i := 21) rfl), in_wsL_law0_r14 _ (List.mem_of_getElem? (i := 14) rfl), in_wsL_law0_r14 _ (List.mem_of_getElem? (i := 15) rfl), ⟨by decide +kernel, by decide +kernel, by decide +kernel⟩, by decide, TX2, 5, rfl⟩
theorem m_X5_holdsKind : xMs yX5_holdsKind cX5_holdsKind 2 (some .boolean) 2 := ⟨in_wsL_law0_r14 _ (List.mem_of_getElem? (i := 18) rfl), in_wsL_law0_r1 _ (List.mem_of_getElem? (i := 2) rfl), in_wsL_law0_r14 _ (List.mem_of_getElem? (i := 17) rfl), ⟨by decide +kernel, by decide +kernel, by decide +kernel⟩, by decide⟩
theorem k_X5_250 : Cond.methodLink RX5 250 yX5_smallestKind ∈ wsL_law := in_wsL_law0_r14 _ (List.mem_of_getElem? (i := 19) rfl)
theorem m_X5_smallestKind : xMs yX5_smallestKind cX5_smallestKind 2 (some .int) 1 := ⟨in_wsL_law0_r14 _ (List.mem_of_getElem? (i := 21) rfl), in_wsL_law0_r1 _ (List.mem_of_getElem? (i := 2) rfl), in_wsL_law0_r14 _ (List.mem_of_getElem? (i := 20) rfl), ⟨by decide +kernel, by decide +kernel, by decide +kernel⟩, by decide⟩
theorem k_X5_204 : Cond.methodLink RX5 204 yX5_holdsKind ∈ wsL_law := in_wsL_law0_r14 _ (List.mem_of_getElem? (i := 22) rfl)
theorem k_X5_253 : Cond.methodLink RX5 253 yX1_begin ∈ wsL_law := in_wsL_law0_r14 _ (List.mem_of_getElem? (i := 23) rfl)
theorem m_X1_begin : xMv yX1_begin cX1_begin 3 none 2 1 := ⟨in_wsL_law0_r15 _ (List.mem_of_getElem? (i := 2) rfl), in_wsL_law0_r2 _ (List.mem_of_getElem? (i := 1) rfl), in_wsL_law0_r15 _ (List.mem_of_getElem? (i := 0) rfl), in_wsL_law0_r15 _ (List.mem_of_getElem? (i := 1) rfl), ⟨by decide +kernel, by decide +kernel, by decide +kernel⟩, by decide, TX1, 11, rfl⟩
theorem k_X5_256 : Cond.methodLink RX5 256 yX5_takesOuterClosing ∈ wsL_law := in_wsL_law0_r15 _ (List.mem_of_getElem? (i := 3) rfl)
theorem m_X5_takesOuterClosing : xMv yX5_takesOuterClosing cX5_takesOuterClosing 5 (some .boolean) 3 5 := ⟨in_wsL_law0_r15 _ (List.mem_of_getElem? (i := 6) rfl), in_wsL_law0_r1 _ (List.mem_of_getElem? (i := 2) rfl), in_wsL_law0_r15 _ (List.mem_of_getElem? (i := 4) rfl), in_wsL_law0_r15 _ (List.mem_of_getElem? (i := 5) rfl), ⟨by decide +kernel, by decide +kernel, by decide +kernel⟩, by decide, TX5, 6, rfl⟩
theorem f_X5_152 : xF RX5 152 1 9 := ⟨RX1, TX1, 11, rfl, by decide, inlX1, in_wsL_law0_r15 _ (List.mem_of_getElem? (i := 7) rfl)⟩
theorem fw_X5_152 : xFw RX5 152 1 9 .int false := ⟨RX1, TX1, 11, tyX1, rfl, by decide, inlX1, in_wsL_law0_r15 _ (List.mem_of_getElem? (i := 7) rfl), tyX1_ok, nmX1, rfl, tyX1_ok 9 (by decide), rfl⟩
theorem k_X5_259 : Cond.methodLink RX5 259 yX5_islandsInsideClosedBy ∈ wsL_law := in_wsL_law0_r15 _ (List.mem_of_getElem? (i := 8) rfl)
theorem m_X5_islandsInsideClosedBy : xMv yX5_islandsInsideClosedBy cX5_islandsInsideClosedBy 3 (some .int) 1 5 := ⟨in_wsL_law0_r15 _ (List.mem_of_getElem? (i := 11) rfl), in_wsL_law0_r1 _ (List.mem_of_getElem? (i := 2) rfl), in_wsL_law0_r15 _ (List.mem_of_getElem? (i := 9) rfl), in_wsL_law0_r15 _ (List.mem_of_getElem? (i := 10) rfl), ⟨by decide +kernel, by decide +kernel, by decide +kernel⟩, by decide, TX5, 6, rfl⟩
theorem k_X5_262 : Cond.methodLink RX5 262 yX1_openKind ∈ wsL_law := in_wsL_law0_r15 _ (List.mem_of_getElem? (i := 12) rfl)
theorem k_X5_135 : Cond.methodLink RX5 135 yX5_giveUp ∈ wsL_law := in_wsL_law0_r15 _ (List.mem_of_getElem? (i := 13) rfl)
theorem m_X5_giveUp : xMv yX5_giveUp cX5_giveUp 5 none 3 5 := ⟨in_wsL_law0_r15 _ (List.mem_of_getElem? (i := 16) rfl), in_wsL_law0_r1 _ (List.mem_of_getElem? (i := 2) rfl), in_wsL_law0_r15 _ (List.mem_of_getElem? (i := 14) rfl), in_wsL_law0_r15 _ (List.mem_of_getElem? (i := 15) rfl), ⟨by decide +kernel, by decide +kernel, by decide +kernel⟩, by decide, TX5, 6, rfl⟩
theorem k_L_134 : Cond.methodLink RL 134 yX6_quick ∈ wsL_law := in_wsL_law0_r15 _ (List.mem_of_getElem? (i := 17) rfl)
theorem m_X6_quick : xMv yX6_quick cX6_quick 2 (some .int) 0 6 := ⟨in_wsL_law0_r15 _ (List.mem_of_getElem? (i := 20) rfl), in_wsL_law0_r1 _ (List.mem_of_getElem? (i := 5) rfl), in_wsL_law0_r15 _ (List.mem_of_getElem? (i := 18) rfl), in_wsL_law0_r15 _ (List.mem_of_getElem? (i := 19) rfl), ⟨by decide +kernel, by decide +kernel, by decide +kernel⟩, by decide, TX6, 24, rfl⟩
theorem f_X6_90 : xF RX6 90 6 12 := ⟨RX6, TX6, 24, rfl, by decide, inlX6, in_wsL_law0_r15 _ (List.mem_of_getElem? (i := 21) rfl)⟩
theorem fw_X6_90 : xFw RX6 90 6 12 .int false := ⟨RX6, TX6, 24, tyX6, rfl, by decide, inlX6, in_wsL_law0_r15 _ (List.mem_of_getElem? (i := 21) rfl), tyX6_ok, nmX6, rfl, tyX6_ok 12 (by decide), rfl⟩
theorem f_X6_93 : xF RX6 93 6 18 := ⟨RX6, TX6, 24, rfl, by decide, inlX6, in_wsL_law0_r15 _ (List.mem_of_getElem? (i := 22) rfl)⟩
theorem fw_X6_93 : xFw RX6 93 6 18 .int false := ⟨RX6, TX6, 24, tyX6, rfl, by decide, inlX6, in_wsL_law0_r15 _ (List.mem_of_getElem? (i := 22) rfl), tyX6_ok, nmX6, rfl, tyX6_ok 18 (by decide), rfl⟩
theorem f_X6_110 : xF RX6 110 6 11 := ⟨RX6, TX6, 24, rfl, by decide, inlX6, in_wsL_law0_r15 _ (List.mem_of_getElem? (i := 23) rfl)⟩
theorem fw_X6_110 : xFw RX6 110 6 11 .int false := ⟨RX6, TX6, 24, tyX6, rfl, by decide, inlX6, in_wsL_law0_r15 _ (List.mem_of_getElem? (i := 23) rfl), tyX6_ok, nmX6, rfl, tyX6_ok 11 (by decide), rfl⟩
theorem k_X6_113 : Cond.methodLink RX6 113 yX6_step ∈ wsL_law := in_wsL_law0_r16 _ (List.mem_of_getElem? (i := 0) rfl)
theorem m_X6_step : xMv yX6_step cX6_step 8 (some .int) 1 6 := ⟨in_wsL_law0_r16 _ (List.mem_of_getElem? (i := 3) rfl), in_wsL_law0_r1 _ (List.mem_of_getElem? (i := 5) rfl), in_wsL_law0_r16 _ (List.mem_of_getElem? (i := 1) rfl), in_wsL_law0_r16 _ (List.mem_of_getElem? (i := 2) rfl), ⟨by decide +kernel, by decide +kernel, by decide +kernel⟩, by decide, TX6, 24, rfl⟩
theorem k_X6_96 : Cond.methodLink RX6 96 yX6_stands ∈ wsL_law := in_wsL_law0_r16 _ (List.mem_of_getElem? (i := 4) rfl)
theorem m_X6_stands : xMv yX6_stands cX6_stands 5 (some .boolean) 2 6 := ⟨in_wsL_law0_r16 _ (List.mem_of_getElem? (i := 7) rfl), in_wsL_law0_r1 _ (List.mem_of_getElem? (i := 5) rfl), in_wsL_law0_r16 _ (List.mem_of_getElem? (i := 5) rfl), in_wsL_law0_r16 _ (List.mem_of_getElem? (i := 6) rfl), ⟨by decide +kernel, by decide +kernel, by decide +kernel⟩, by decide, TX6, 24, rfl⟩
theorem k_X6_100 : Cond.methodLink RX6 100 yX6_canStand ∈ wsL_law := in_wsL_law0_r16 _ (List.mem_of_getElem? (i := 8) rfl)
theorem m_X6_canStand : xMv yX6_canStand cX6_canStand 3 (some .boolean) 2 6 := ⟨in_wsL_law0_r16 _ (List.mem_of_getElem? (i := 11) rfl), in_wsL_law0_r1 _ (List.mem_of_getElem? (i := 5) rfl), in_wsL_law0_r16 _ (List.mem_of_getElem? (i := 9) rfl), in_wsL_law0_r16 _ (List.mem_of_getElem? (i := 10) rfl), ⟨by decide +kernel, by decide +kernel, by decide +kernel⟩, by decide, TX6, 24, rfl⟩
theorem k_X6_103 : Cond.methodLink RX6 103 yX6_finish ∈ wsL_law := in_wsL_law0_r16 _ (List.mem_of_getElem? (i := 12) rfl)
theorem m_X6_finish : xMv yX6_finish cX6_finish 3 none 2 6 := ⟨in_wsL_law0_r16 _ (List.mem_of_getElem? (i := 15) rfl), in_wsL_law0_r1 _ (List.mem_of_getElem? (i := 5) rfl), in_wsL_law0_r16 _ (List.mem_of_getElem? (i := 13) rfl), in_wsL_law0_r16 _ (List.mem_of_getElem? (i := 14) rfl), ⟨by decide +kernel, by decide +kernel, by decide +kernel⟩, by decide, TX6, 24, rfl⟩
theorem k_X6_107 : Cond.methodLink RX6 107 yX6_begin ∈ wsL_law := in_wsL_law0_r16 _ (List.mem_of_getElem? (i := 16) rfl)
theorem m_X6_begin : xMv yX6_begin cX6_begin 3 none 2 6 := ⟨in_wsL_law0_r16 _ (List.mem_of_getElem? (i := 19) rfl), in_wsL_law0_r1 _ (List.mem_of_getElem? (i := 5) rfl), in_wsL_law0_r16 _ (List.mem_of_getElem? (i := 17) rfl), in_wsL_law0_r16 _ (List.mem_of_getElem? (i := 18) rfl), ⟨by decide +kernel, by decide +kernel, by decide +kernel⟩, by decide, TX6, 24, rfl⟩
theorem k_L_135 : Cond.methodLink RL 135 yX5_best ∈ wsL_law := in_wsL_law0_r16 _ (List.mem_of_getElem? (i := 20) rfl)
theorem m_X5_best : xMv yX5_best cX5_best 1 (some .int) 0 5 := ⟨in_wsL_law0_r16 _ (List.mem_of_getElem? (i := 23) rfl), in_wsL_law0_r1 _ (List.mem_of_getElem? (i := 2) rfl), in_wsL_law0_r16 _ (List.mem_of_getElem? (i := 21) rfl), in_wsL_law0_r16 _ (List.mem_of_getElem? (i := 22) rfl), ⟨by decide +kernel, by decide +kernel, by decide +kernel⟩, by decide, TX5, 6, rfl⟩
theorem k_X5_140 : Cond.methodLink RX5 140 yX3_find ∈ wsL_law := in_wsL_law0_r17 _ (List.mem_of_getElem? (i := 0) rfl)
theorem m_X3_find : xMv yX3_find cX3_find 5 none 2 3 := ⟨in_wsL_law0_r17 _ (List.mem_of_getElem? (i := 3) rfl), in_wsL_law0_r2 _ (List.mem_of_getElem? (i := 5) rfl), in_wsL_law0_r17 _ (List.mem_of_getElem? (i := 1) rfl), in_wsL_law0_r17 _ (List.mem_of_getElem? (i := 2) rfl), ⟨by decide +kernel, by decide +kernel, by decide +kernel⟩, by decide, TX3, 5, rfl⟩
theorem f_X3_28 : xF RX3 28 4 1 := ⟨RX4, TX4, 3, rfl, by decide, inlX4, in_wsL_law0_r17 _ (List.mem_of_getElem? (i := 4) rfl)⟩
theorem fw_X3_28 : xFw RX3 28 4 1 .int false := ⟨RX4, TX4, 3, tyX4, rfl, by decide, inlX4, in_wsL_law0_r17 _ (List.mem_of_getElem? (i := 4) rfl), tyX4_ok, nmX4, rfl, tyX4_ok 1 (by decide), rfl⟩
theorem k_X3_31 : Cond.methodLink RX3 31 yX4_isEscape ∈ wsL_law := in_wsL_law0_r17 _ (List.mem_of_getElem? (i := 5) rfl)
theorem k_X3_35 : Cond.methodLink RX3 35 yX3_findAt ∈ wsL_law := in_wsL_law0_r17 _ (List.mem_of_getElem? (i := 6) rfl)
theorem m_X3_findAt : xMv yX3_findAt cX3_findAt 8 (some .int) 3 3 := ⟨in_wsL_law0_r17 _ (List.mem_of_getElem? (i := 9) rfl), in_wsL_law0_r2 _ (List.mem_of_getElem? (i := 5) rfl), in_wsL_law0_r17 _ (List.mem_of_getElem? (i := 7) rfl), in_wsL_law0_r17 _ (List.mem_of_getElem? (i := 8) rfl), ⟨by decide +kernel, by decide +kernel, by decide +kernel⟩, by decide, TX3, 5, rfl⟩
theorem k_X3_39 : Cond.methodLink RX3 39 yX4_wordAt ∈ wsL_law := in_wsL_law0_r17 _ (List.mem_of_getElem? (i := 10) rfl)
theorem k_X3_43 : Cond.methodLink RX3 43 yX2_openedBy ∈ wsL_law := in_wsL_law0_r17 _ (List.mem_of_getElem? (i := 11) rfl)
theorem k_X3_49 : Cond.methodLink RX3 49 yX2_closedBy ∈ wsL_law := in_wsL_law0_r17 _ (List.mem_of_getElem? (i := 12) rfl)
theorem m_X2_closedBy : xMv yX2_closedBy cX2_closedBy 2 (some .int) 1 2 := ⟨in_wsL_law0_r17 _ (List.mem_of_getElem? (i := 15) rfl), in_wsL_law0_r1 _ (List.mem_of_getElem? (i := 21) rfl), in_wsL_law0_r17 _ (List.mem_of_getElem? (i := 13) rfl), in_wsL_law0_r17 _ (List.mem_of_getElem? (i := 14) rfl), ⟨by decide +kernel, by decide +kernel, by decide +kernel⟩, by decide, TX2, 5, rfl⟩
theorem k_X5_144 : Cond.methodLink RX5 144 yX0_fillStretches ∈ wsL_law := in_wsL_law0_r17 _ (List.mem_of_getElem? (i := 16) rfl)
theorem m_X0_fillStretches : xMv yX0_fillStretches cX0_fillStretches 6 none 2 0 := ⟨in_wsL_law0_r17 _ (List.mem_of_getElem? (i := 19) rfl), in_wsL_law0_r2 _ (List.mem_of_getElem? (i := 9) rfl), in_wsL_law0_r17 _ (List.mem_of_getElem? (i := 17) rfl), in_wsL_law0_r17 _ (List.mem_of_getElem? (i := 18) rfl), ⟨by decide +kernel, by decide +kernel, by decide +kernel⟩, by decide, TX0, 2, rfl⟩
theorem f_X0_19 : xF RX0 19 3 4 := ⟨RX3, TX3, 5, rfl, by decide, inlX3, in_wsL_law0_r17 _ (List.mem_of_getElem? (i := 20) rfl)⟩
theorem fw_X0_19 : xFw RX0 19 3 4 .int false := ⟨RX3, TX3, 5, tyX3, rfl, by decide, inlX3, in_wsL_law0_r17 _ (List.mem_of_getElem? (i := 20) rfl), tyX3_ok, nmX3, rfl, tyX3_ok 4 (by decide), rfl⟩
theorem f_X0_25 : xF RX0 25 3 3 := ⟨RX3, TX3, 5, rfl, by decide, inlX3, in_wsL_law0_r17 _ (List.mem_of_getElem? (i := 21) rfl)⟩
theorem fw_X0_25 : xFw RX0 25 3 3 (.array .int) true := ⟨RX3, TX3, 5, tyX3, rfl, by decide, inlX3, in_wsL_law0_r17 _ (List.mem_of_getElem? (i := 21) rfl), tyX3_ok, nmX3, rfl, tyX3_ok 3 (by decide), rfl⟩
theorem f_X0_28 : xF RX0 28 2 3 := ⟨RX2, TX2, 5, rfl, by decide, inlX2, in_wsL_law0_r17 _ (List.mem_of_getElem? (i := 22) rfl)⟩
theorem fw_X0_28 : xFw RX0 28 2 3 .int false := ⟨RX2, TX2, 5, tyX2, rfl, by decide, inlX2, in_wsL_law0_r17 _ (List.mem_of_getElem? (i := 22) rfl), tyX2_ok, nmX2, rfl, tyX2_ok 3 (by decide), rfl⟩
theorem k_X0_37 : Cond.methodLink RX0 37 yX0_fillStretchesTo ∈ wsL_law := in_wsL_law0_r17 _ (List.mem_of_getElem? (i := 23) rfl)
theorem m_X0_fillStretchesTo : xMv yX0_fillStretchesTo cX0_fillStretchesTo 9 none 4 0 := ⟨in_wsL_law0_r18 _ (List.mem_of_getElem? (i := 2) rfl), in_wsL_law0_r2 _ (List.mem_of_getElem? (i := 9) rfl), in_wsL_law0_r18 _ (List.mem_of_getElem? (i := 0) rfl), in_wsL_law0_r18 _ (List.mem_of_getElem? (i := 1) rfl), ⟨by decide +kernel, by decide +kernel, by decide +kernel⟩, by decide, TX0, 2, rfl⟩
theorem f_X0_53 : xF RX0 53 3 2 := ⟨RX3, TX3, 5, rfl, by decide, inlX3, in_wsL_law0_r18 _ (List.mem_of_getElem? (i := 3) rfl)⟩
theorem fw_X0_53 : xFw RX0 53 3 2 (.array .int) true := ⟨RX3, TX3, 5, tyX3, rfl, by decide, inlX3, in_wsL_law0_r18 _ (List.mem_of_getElem? (i := 3) rfl), tyX3_ok, nmX3, rfl, tyX3_ok 2 (by decide), rfl⟩
theorem k_X0_60 : Cond.methodLink RX0 60 Lib.Math.min.name ∈ wsL_law := in_wsL_law0_r18 _ (List.mem_of_getElem? (i := 4) rfl)
theorem k_X0_41 : Cond.methodLink RX0 41 yX2_allowedIn ∈ wsL_law := in_wsL_law0_r18 _ (List.mem_of_getElem? (i := 8) rfl)
theorem k_X0_45 : Cond.methodLink RX0 45 yX0_keep ∈ wsL_law := in_wsL_law0_r18 _ (List.mem_of_getElem? (i := 9) rfl)
theorem m_X0_keep : xMv yX0_keep cX0_keep 7 none 4 0 := ⟨in_wsL_law0_r18 _ (List.mem_of_getElem? (i := 12) rfl), in_wsL_law0_r2 _ (List.mem_of_getElem? (i := 9) rfl), in_wsL_law0_r18 _ (List.mem_of_getElem? (i := 10) rfl), in_wsL_law0_r18 _ (List.mem_of_getElem? (i := 11) rfl), ⟨by decide +kernel, by decide +kernel, by decide +kernel⟩, by decide, TX0, 2, rfl⟩
theorem cl_X0_109 : Cond.constantLong RX0 109 (255) ∈ wsL_law := in_wsL_law0_r18 _ (List.mem_of_getElem? (i := 13) rfl)
theorem cl_X0_111 : Cond.constantLong RX0 111 (-1) ∈ wsL_law := in_wsL_law0_r18 _ (List.mem_of_getElem? (i := 14) rfl)
theorem k_X0_49 : Cond.methodLink RX0 49 yX0_fewest ∈ wsL_law := in_wsL_law0_r18 _ (List.mem_of_getElem? (i := 15) rfl)
theorem m_X0_fewest : xMv yX0_fewest cX0_fewest 5 (some .int) 3 0 := ⟨in_wsL_law0_r18 _ (List.mem_of_getElem? (i := 18) rfl), in_wsL_law0_r2 _ (List.mem_of_getElem? (i := 9) rfl), in_wsL_law0_r18 _ (List.mem_of_getElem? (i := 16) rfl), in_wsL_law0_r18 _ (List.mem_of_getElem? (i := 17) rfl), ⟨by decide +kernel, by decide +kernel, by decide +kernel⟩, by decide, TX0, 2, rfl⟩
theorem k_X0_56 : Cond.methodLink RX0 56 yX0_fewestIfOpening ∈ wsL_law := in_wsL_law0_r18 _ (List.mem_of_getElem? (i := 19) rfl)
theorem m_X0_fewestIfOpening : xMv yX0_fewestIfOpening cX0_fewestIfOpening 11 (some .int) 6 0 := ⟨in_wsL_law0_r18 _ (List.mem_of_getElem? (i := 22) rfl), in_wsL_law0_r2 _ (List.mem_of_getElem? (i := 9) rfl), in_wsL_law0_r18 _ (List.mem_of_getElem? (i := 20) rfl), in_wsL_law0_r18 _ (List.mem_of_getElem? (i := 21) rfl), ⟨by decide +kernel, by decide +kernel, by decide +kernel⟩, by decide, TX0, 2, rfl⟩
theorem k_X0_66 : Cond.methodLink RX0 66 yX0_fewestBetween ∈ wsL_law := in_wsL_law0_r18 _ (List.mem_of_getElem? (i := 23) rfl)
theorem m_X0_fewestBetween : xMv yX0_fewestBetween cX0_fewestBetween 7 (some .int) 4 0 := ⟨in_wsL_law0_r19 _ (List.mem_of_getElem? (i := 2) rfl), in_wsL_law0_r2 _ (List.mem_of_getElem? (i := 9) rfl), in_wsL_law0_r19 _ (List.mem_of_getElem? (i := 0) rfl), in_wsL_law0_r19 _ (List.mem_of_getElem? (i := 1) rfl), ⟨by decide +kernel, by decide +kernel, by decide +kernel⟩, by decide, TX0, 2, rfl⟩
theorem k_X0_70 : Cond.methodLink RX0 70 yX0_fewestInside ∈ wsL_law := in_wsL_law0_r19 _ (List.mem_of_getElem? (i := 3) rfl)
theorem m_X0_fewestInside : xMv yX0_fewestInside cX0_fewestInside 5 (some .int) 4 0 := ⟨in_wsL_law0_r19 _ (List.mem_of_getElem? (i := 6) rfl), in_wsL_law0_r2 _ (List.mem_of_getElem? (i := 9) rfl), in_wsL_law0_r19 _ (List.mem_of_getElem? (i := 4) rfl), in_wsL_law0_r19 _ (List.mem_of_getElem? (i := 5) rfl), ⟨by decide +kernel, by decide +kernel, by decide +kernel⟩, by decide, TX0, 2, rfl⟩
theorem k_X5_148 : Cond.methodLink RX5 148 yX0_chooseIslands ∈ wsL_law := in_wsL_law0_r19 _ (List.mem_of_getElem? (i := 7) rfl)
theorem m_X0_chooseIslands : xMv yX0_chooseIslands cX0_chooseIslands 7 none 3 0 := ⟨in_wsL_law0_r19 _ (List.mem_of_getElem? (i := 10) rfl), in_wsL_law0_r2 _ (List.mem_of_getElem? (i := 9) rfl), in_wsL_law0_r19 _ (List.mem_of_getElem? (i := 8) rfl), in_wsL_law0_r19 _ (List.mem_of_getElem? (i := 9) rfl), ⟨by decide +kernel, by decide +kernel, by decide +kernel⟩, by decide, TX0, 2, rfl⟩
theorem f_X0_81 : xF RX0 81 3 1 := ⟨RX3, TX3, 5, rfl, by decide, inlX3, in_wsL_law0_r19 _ (List.mem_of_getElem? (i := 11) rfl)⟩
theorem fw_X0_81 : xFw RX0 81 3 1 (.array .int) true := ⟨RX3, TX3, 5, tyX3, rfl, by decide, inlX3, in_wsL_law0_r19 _ (List.mem_of_getElem? (i := 11) rfl), tyX3_ok, nmX3, rfl, tyX3_ok 1 (by decide), rfl⟩
theorem f_X0_92 : xF RX0 92 1 9 := ⟨RX1, TX1, 11, rfl, by decide, inlX1, in_wsL_law0_r19 _ (List.mem_of_getElem? (i := 12) rfl)⟩
theorem fw_X0_92 : xFw RX0 92 1 9 .int false := ⟨RX1, TX1, 11, tyX1, rfl, by decide, inlX1, in_wsL_law0_r19 _ (List.mem_of_getElem? (i := 12) rfl), tyX1_ok, nmX1, rfl, tyX1_ok 9 (by decide), rfl⟩
theorem k_X0_73 : Cond.methodLink RX0 73 yX1_startReading ∈ wsL_law := in_wsL_law0_r19 _ (List.mem_of_getElem? (i := 13) rfl)
theorem k_X0_78 : Cond.methodLink RX0 78 yX1_openIsland ∈ wsL_law := in_wsL_law0_r19 _ (List.mem_of_getElem? (i := 14) rfl)
theorem k_X0_84 : Cond.methodLink RX0 84 yX1_finish ∈ wsL_law := in_wsL_law0_r19 _ (List.mem_of_getElem? (i := 15) rfl)
theorem k_X0_88 : Cond.methodLink RX0 88 yX0_beginAt ∈ wsL_law := in_wsL_law0_r19 _ (List.mem_of_getElem? (i := 16) rfl)
theorem m_X0_beginAt : xMv yX0_beginAt cX0_beginAt 10 none 5 0 := ⟨in_wsL_law0_r19 _ (List.mem_of_getElem? (i := 19) rfl), in_wsL_law0_r2 _ (List.mem_of_getElem? (i := 9) rfl), in_wsL_law0_r19 _ (List.mem_of_getElem? (i := 17) rfl), in_wsL_law0_r19 _ (List.mem_of_getElem? (i := 18) rfl), ⟨by decide +kernel, by decide +kernel, by decide +kernel⟩, by decide, TX0, 2, rfl⟩
theorem f_X0_102 : xF RX0 102 1 7 := ⟨RX1, TX1, 11, rfl, by decide, inlX1, in_wsL_law0_r19 _ (List.mem_of_getElem? (i := 20) rfl)⟩
theorem fw_X0_102 : xFw RX0 102 1 7 .int false := ⟨RX1, TX1, 11, tyX1, rfl, by decide, inlX1, in_wsL_law0_r19 _ (List.mem_of_getElem? (i := 20) rfl), tyX1_ok, nmX1, rfl, tyX1_ok 7 (by decide), rfl⟩
theorem f_X0_103 : xF RX0 103 3 0 := ⟨RX3, TX3, 5, rfl, by decide, inlX3, in_wsL_law0_r19 _ (List.mem_of_getElem? (i := 21) rfl)⟩
theorem fw_X0_103 : xFw RX0 103 3 0 (.array .int) true := ⟨RX3, TX3, 5, tyX3, rfl, by decide, inlX3, in_wsL_law0_r19 _ (List.mem_of_getElem? (i := 21) rfl), tyX3_ok, nmX3, rfl, tyX3_ok 0 (by decide), rfl⟩
theorem k_X0_95 : Cond.methodLink RX0 95 yX1_innermostKind ∈ wsL_law := in_wsL_law0_r19 _ (List.mem_of_getElem? (i := 22) rfl)
theorem k_X0_99 : Cond.methodLink RX0 99 yX0_bestPartner ∈ wsL_law := in_wsL_law0_r19 _ (List.mem_of_getElem? (i := 23) rfl)
theorem m_X0_bestPartner : xMv yX0_bestPartner cX0_bestPartner 9 (some .int) 6 0 := ⟨in_wsL_law0_r20 _ (List.mem_of_getElem? (i := 2) rfl), in_wsL_law0_r2 _ (List.mem_of_getElem? (i := 9) rfl), in_wsL_law0_r20 _ (List.mem_of_getElem? (i := 0) rfl), in_wsL_law0_r20 _ (List.mem_of_getElem? (i := 1) rfl), ⟨by decide +kernel, by decide +kernel, by decide +kernel⟩, by decide, TX0, 2, rfl⟩
theorem k_X0_106 : Cond.methodLink RX0 106 yX1_begin ∈ wsL_law := in_wsL_law0_r20 _ (List.mem_of_getElem? (i := 3) rfl)
theorem k_L_138 : Cond.methodLink RL 138 yX6_best ∈ wsL_law := in_wsL_law0_r20 _ (List.mem_of_getElem? (i := 4) rfl)
theorem m_X6_best : xMv yX6_best cX6_best 1 (some .int) 0 6 := ⟨in_wsL_law0_r20 _ (List.mem_of_getElem? (i := 7) rfl), in_wsL_law0_r1 _ (List.mem_of_getElem? (i := 5) rfl), in_wsL_law0_r20 _ (List.mem_of_getElem? (i := 5) rfl), in_wsL_law0_r20 _ (List.mem_of_getElem? (i := 6) rfl), ⟨by decide +kernel, by decide +kernel, by decide +kernel⟩, by decide, TX6, 24, rfl⟩
theorem f_X6_116 : xF RX6 116 6 20 := ⟨RX6, TX6, 24, rfl, by decide, inlX6, in_wsL_law0_r20 _ (List.mem_of_getElem? (i := 8) rfl)⟩
theorem fw_X6_116 : xFw RX6 116 6 20 .int false := ⟨RX6, TX6, 24, tyX6, rfl, by decide, inlX6, in_wsL_law0_r20 _ (List.mem_of_getElem? (i := 8) rfl), tyX6_ok, nmX6, rfl, tyX6_ok 20 (by decide), rfl⟩
theorem k_X6_147 : Cond.methodLink RX6 147 yX6_findMarks ∈ wsL_law := in_wsL_law0_r20 _ (List.mem_of_getElem? (i := 9) rfl)
theorem m_X6_findMarks : xMv yX6_findMarks cX6_findMarks 4 none 0 6 := ⟨in_wsL_law0_r20 _ (List.mem_of_getElem? (i := 12) rfl), in_wsL_law0_r1 _ (List.mem_of_getElem? (i := 5) rfl), in_wsL_law0_r20 _ (List.mem_of_getElem? (i := 10) rfl), in_wsL_law0_r20 _ (List.mem_of_getElem? (i := 11) rfl), ⟨by decide +kernel, by decide +kernel, by decide +kernel⟩, by decide, TX6, 24, rfl⟩
theorem k_X6_119 : Cond.methodLink RX6 119 Lib.Math.max.name ∈ wsL_law := in_wsL_law0_r20 _ (List.mem_of_getElem? (i := 13) rfl)
theorem k_X6_150 : Cond.methodLink RX6 150 yX6_count ∈ wsL_law := in_wsL_law0_r20 _ (List.mem_of_getElem? (i := 16) rfl)
theorem m_X6_count : xMv yX6_count cX6_count 7 none 0 6 := ⟨in_wsL_law0_r20 _ (List.mem_of_getElem? (i := 19) rfl), in_wsL_law0_r1 _ (List.mem_of_getElem? (i := 5) rfl), in_wsL_law0_r20 _ (List.mem_of_getElem? (i := 17) rfl), in_wsL_law0_r20 _ (List.mem_of_getElem? (i := 18) rfl), ⟨by decide +kernel, by decide +kernel, by decide +kernel⟩, by decide, TX6, 24, rfl⟩
theorem k_X6_140 : Cond.methodLink RX6 140 Lib.Math.min.name ∈ wsL_law := in_wsL_law0_r20 _ (List.mem_of_getElem? (i := 20) rfl)
theorem k_X6_125 : Cond.methodLink RX6 125 yX6_at ∈ wsL_law := in_wsL_law0_r20 _ (List.mem_of_getElem? (i := 21) rfl)
theorem m_X6_at : xMv yX6_at cX6_at 4 (some .int) 3 6 := ⟨in_wsL_law0_r21 _ (List.mem_of_getElem? (i := 0) rfl), in_wsL_law0_r1 _ (List.mem_of_getElem? (i := 5) rfl), in_wsL_law0_r20 _ (List.mem_of_getElem? (i := 22) rfl), in_wsL_law0_r20 _ (List.mem_of_getElem? (i := 23) rfl), ⟨by decide +kernel, by decide +kernel, by decide +kernel⟩, by decide, TX6, 24, rfl⟩
theorem k_X6_132 : Cond.methodLink RX6 132 yX6_canPair ∈ wsL_law := in_wsL_law0_r21 _ (List.mem_of_getElem? (i := 1) rfl)
theorem m_X6_canPair : xMv yX6_canPair cX6_canPair 5 (some .boolean) 4 6 := ⟨in_wsL_law0_r21 _ (List.mem_of_getElem? (i := 4) rfl), in_wsL_law0_r1 _ (List.mem_of_getElem? (i := 5) rfl), in_wsL_law0_r21 _ (List.mem_of_getElem? (i := 2) rfl), in_wsL_law0_r21 _ (List.mem_of_getElem? (i := 3) rfl), ⟨by decide +kernel, by decide +kernel, by decide +kernel⟩, by decide, TX6, 24, rfl⟩
theorem k_X6_129 : Cond.methodLink RX6 129 yX6_isWord ∈ wsL_law := in_wsL_law0_r21 _ (List.mem_of_getElem? (i := 5) rfl)
theorem m_X6_isWord : xMv yX6_isWord cX6_isWord 3 (some .boolean) 2 6 := ⟨in_wsL_law0_r21 _ (List.mem_of_getElem? (i := 8) rfl), in_wsL_law0_r1 _ (List.mem_of_getElem? (i := 5) rfl), in_wsL_law0_r21 _ (List.mem_of_getElem? (i := 6) rfl), in_wsL_law0_r21 _ (List.mem_of_getElem? (i := 7) rfl), ⟨by decide +kernel, by decide +kernel, by decide +kernel⟩, by decide, TX6, 24, rfl⟩
theorem k_X6_136 : Cond.methodLink RX6 136 yX6_paired ∈ wsL_law := in_wsL_law0_r21 _ (List.mem_of_getElem? (i := 9) rfl)
theorem m_X6_paired : xMv yX6_paired cX6_paired 6 (some .int) 5 6 := ⟨in_wsL_law0_r21 _ (List.mem_of_getElem? (i := 12) rfl), in_wsL_law0_r1 _ (List.mem_of_getElem? (i := 5) rfl), in_wsL_law0_r21 _ (List.mem_of_getElem? (i := 10) rfl), in_wsL_law0_r21 _ (List.mem_of_getElem? (i := 11) rfl), ⟨by decide +kernel, by decide +kernel, by decide +kernel⟩, by decide, TX6, 24, rfl⟩
theorem k_X6_143 : Cond.methodLink RX6 143 yX6_take ∈ wsL_law := in_wsL_law0_r21 _ (List.mem_of_getElem? (i := 13) rfl)
theorem m_X6_take : xMv yX6_take cX6_take 10 none 4 6 := ⟨in_wsL_law0_r21 _ (List.mem_of_getElem? (i := 16) rfl), in_wsL_law0_r1 _ (List.mem_of_getElem? (i := 5) rfl), in_wsL_law0_r21 _ (List.mem_of_getElem? (i := 14) rfl), in_wsL_law0_r21 _ (List.mem_of_getElem? (i := 15) rfl), ⟨by decide +kernel, by decide +kernel, by decide +kernel⟩, by decide, TX6, 24, rfl⟩
theorem k_L_139 : Cond.methodLink RL 139 yX5_hasReading ∈ wsL_law := in_wsL_law0_r21 _ (List.mem_of_getElem? (i := 17) rfl)
theorem m_X5_hasReading : xMv yX5_hasReading cX5_hasReading 1 (some .boolean) 0 5 := ⟨in_wsL_law0_r21 _ (List.mem_of_getElem? (i := 20) rfl), in_wsL_law0_r1 _ (List.mem_of_getElem? (i := 2) rfl), in_wsL_law0_r21 _ (List.mem_of_getElem? (i := 18) rfl), in_wsL_law0_r21 _ (List.mem_of_getElem? (i := 19) rfl), ⟨by decide +kernel, by decide +kernel, by decide +kernel⟩, by decide, TX5, 6, rfl⟩
theorem f_X5_155 : xF RX5 155 1 10 := ⟨RX1, TX1, 11, rfl, by decide, inlX1, in_wsL_law0_r21 _ (List.mem_of_getElem? (i := 21) rfl)⟩
theorem fw_X5_155 : xFw RX5 155 1 10 .boolean false := ⟨RX1, TX1, 11, tyX1, rfl, by decide, inlX1, in_wsL_law0_r21 _ (List.mem_of_getElem? (i := 21) rfl), tyX1_ok, nmX1, rfl, tyX1_ok 10 (by decide), rfl⟩
theorem k_L_143 : Cond.methodLink RL 143 yX6_hasReading ∈ wsL_law := in_wsL_law0_r21 _ (List.mem_of_getElem? (i := 22) rfl)
theorem m_X6_hasReading : xMv yX6_hasReading cX6_hasReading 1 (some .boolean) 0 6 := ⟨in_wsL_law0_r22 _ (List.mem_of_getElem? (i := 1) rfl), in_wsL_law0_r1 _ (List.mem_of_getElem? (i := 5) rfl), in_wsL_law0_r21 _ (List.mem_of_getElem? (i := 23) rfl), in_wsL_law0_r22 _ (List.mem_of_getElem? (i := 0) rfl), ⟨by decide +kernel, by decide +kernel, by decide +kernel⟩, by decide, TX6, 24, rfl⟩
theorem k_L_144 : Cond.methodLink RL 144 yX5_markCount ∈ wsL_law := in_wsL_law0_r22 _ (List.mem_of_getElem? (i := 2) rfl)
theorem m_X5_markCount : xMv yX5_markCount cX5_markCount 1 (some .int) 0 5 := ⟨in_wsL_law0_r22 _ (List.mem_of_getElem? (i := 5) rfl), in_wsL_law0_r1 _ (List.mem_of_getElem? (i := 2) rfl), in_wsL_law0_r22 _ (List.mem_of_getElem? (i := 3) rfl), in_wsL_law0_r22 _ (List.mem_of_getElem? (i := 4) rfl), ⟨by decide +kernel, by decide +kernel, by decide +kernel⟩, by decide, TX5, 6, rfl⟩
theorem f_X5_158 : xF RX5 158 3 4 := ⟨RX3, TX3, 5, rfl, by decide, inlX3, in_wsL_law0_r22 _ (List.mem_of_getElem? (i := 6) rfl)⟩
theorem fw_X5_158 : xFw RX5 158 3 4 .int false := ⟨RX3, TX3, 5, tyX3, rfl, by decide, inlX3, in_wsL_law0_r22 _ (List.mem_of_getElem? (i := 6) rfl), tyX3_ok, nmX3, rfl, tyX3_ok 4 (by decide), rfl⟩
theorem k_L_147 : Cond.methodLink RL 147 yX6_markCount ∈ wsL_law := in_wsL_law0_r22 _ (List.mem_of_getElem? (i := 7) rfl)
theorem m_X6_markCount : xMv yX6_markCount cX6_markCount 1 (some .int) 0 6 := ⟨in_wsL_law0_r22 _ (List.mem_of_getElem? (i := 10) rfl), in_wsL_law0_r1 _ (List.mem_of_getElem? (i := 5) rfl), in_wsL_law0_r22 _ (List.mem_of_getElem? (i := 8) rfl), in_wsL_law0_r22 _ (List.mem_of_getElem? (i := 9) rfl), ⟨by decide +kernel, by decide +kernel, by decide +kernel⟩, by decide, TX6, 24, rfl⟩
theorem k_L_148 : Cond.methodLink RL 148 yL_mark ∈ wsL_law := in_wsL_law0_r22 _ (List.mem_of_getElem? (i := 11) rfl)
theorem k_L_41 : Cond.methodLink RL 41 yX5_mark ∈ wsL_law := in_wsL_law0_r22 _ (List.mem_of_getElem? (i := 14) rfl)
theorem m_X5_mark : xMv yX5_mark cX5_mark 2 (some .int) 1 5 := ⟨in_wsL_law0_r22 _ (List.mem_of_getElem? (i := 17) rfl), in_wsL_law0_r1 _ (List.mem_of_getElem? (i := 2) rfl), in_wsL_law0_r22 _ (List.mem_of_getElem? (i := 15) rfl), in_wsL_law0_r22 _ (List.mem_of_getElem? (i := 16) rfl), ⟨by decide +kernel, by decide +kernel, by decide +kernel⟩, by decide, TX5, 6, rfl⟩
theorem f_X5_164 : xF RX5 164 3 0 := ⟨RX3, TX3, 5, rfl, by decide, inlX3, in_wsL_law0_r22 _ (List.mem_of_getElem? (i := 18) rfl)⟩
theorem fw_X5_164 : xFw RX5 164 3 0 (.array .int) true := ⟨RX3, TX3, 5, tyX3, rfl, by decide, inlX3, in_wsL_law0_r22 _ (List.mem_of_getElem? (i := 18) rfl), tyX3_ok, nmX3, rfl, tyX3_ok 0 (by decide), rfl⟩
theorem k_L_150 : Cond.methodLink RL 150 yX6_mark ∈ wsL_law := in_wsL_law0_r22 _ (List.mem_of_getElem? (i := 19) rfl)
theorem m_X6_mark : xMv yX6_mark cX6_mark 2 (some .int) 1 6 := ⟨in_wsL_law0_r22 _ (List.mem_of_getElem? (i := 22) rfl), in_wsL_law0_r1 _ (List.mem_of_getElem? (i := 5) rfl), in_wsL_law0_r22 _ (List.mem_of_getElem? (i := 20) rfl), in_wsL_law0_r22 _ (List.mem_of_getElem? (i := 21) rfl), ⟨by decide +kernel, by decide +kernel, by decide +kernel⟩, by decide, TX6, 24, rfl⟩
theorem k_L_151 : Cond.methodLink RL 151 yL_islandCount ∈ wsL_law := in_wsL_law0_r22 _ (List.mem_of_getElem? (i := 23) rfl)
theorem k_L_44 : Cond.methodLink RL 44 yX5_islandCount ∈ wsL_law := in_wsL_law0_r23 _ (List.mem_of_getElem? (i := 2) rfl)
theorem m_X5_islandCount : xMv yX5_islandCount cX5_islandCount 1 (some .int) 0 5 := ⟨in_wsL_law0_r23 _ (List.mem_of_getElem? (i := 5) rfl), in_wsL_law0_r1 _ (List.mem_of_getElem? (i := 2) rfl), in_wsL_law0_r23 _ (List.mem_of_getElem? (i := 3) rfl), in_wsL_law0_r23 _ (List.mem_of_getElem? (i := 4) rfl), ⟨by decide +kernel, by decide +kernel, by decide +kernel⟩, by decide, TX5, 6, rfl⟩
theorem k_X5_167 : Cond.methodLink RX5 167 yX5_needReading ∈ wsL_law := in_wsL_law0_r23 _ (List.mem_of_getElem? (i := 6) rfl)
theorem m_X5_needReading : xMv yX5_needReading cX5_needReading 1 none 0 5 := ⟨in_wsL_law0_r23 _ (List.mem_of_getElem? (i := 9) rfl), in_wsL_law0_r1 _ (List.mem_of_getElem? (i := 2) rfl), in_wsL_law0_r23 _ (List.mem_of_getElem? (i := 7) rfl), in_wsL_law0_r23 _ (List.mem_of_getElem? (i := 8) rfl), ⟨by decide +kernel, by decide +kernel, by decide +kernel⟩, by decide, TX5, 6, rfl⟩
theorem k_L_154 : Cond.methodLink RL 154 yX6_islandCount ∈ wsL_law := in_wsL_law0_r23 _ (List.mem_of_getElem? (i := 10) rfl)
theorem m_X6_islandCount : xMv yX6_islandCount cX6_islandCount 1 (some .int) 0 6 := ⟨in_wsL_law0_r23 _ (List.mem_of_getElem? (i := 13) rfl), in_wsL_law0_r1 _ (List.mem_of_getElem? (i := 5) rfl), in_wsL_law0_r23 _ (List.mem_of_getElem? (i := 11) rfl), in_wsL_law0_r23 _ (List.mem_of_getElem? (i := 12) rfl), ⟨by decide +kernel, by decide +kernel, by decide +kernel⟩, by decide, TX6, 24, rfl⟩
theorem k_X6_153 : Cond.methodLink RX6 153 yX6_asks ∈ wsL_law := in_wsL_law0_r23 _ (List.mem_of_getElem? (i := 14) rfl)
theorem m_X6_asks : xMv yX6_asks cX6_asks 3 (some .boolean) 2 6 := ⟨in_wsL_law0_r23 _ (List.mem_of_getElem? (i := 17) rfl), in_wsL_law0_r1 _ (List.mem_of_getElem? (i := 5) rfl), in_wsL_law0_r23 _ (List.mem_of_getElem? (i := 15) rfl), in_wsL_law0_r23 _ (List.mem_of_getElem? (i := 16) rfl), ⟨by decide +kernel, by decide +kernel, by decide +kernel⟩, by decide, TX6, 24, rfl⟩
theorem k_L_155 : Cond.methodLink RL 155 yL_kind ∈ wsL_law := in_wsL_law0_r23 _ (List.mem_of_getElem? (i := 18) rfl)
theorem k_L_48 : Cond.methodLink RL 48 yX5_kind ∈ wsL_law := in_wsL_law0_r23 _ (List.mem_of_getElem? (i := 21) rfl)
theorem m_X5_kind : xMv yX5_kind cX5_kind 2 (some .int) 1 5 := ⟨in_wsL_law0_r24 _ (List.mem_of_getElem? (i := 0) rfl), in_wsL_law0_r1 _ (List.mem_of_getElem? (i := 2) rfl), in_wsL_law0_r23 _ (List.mem_of_getElem? (i := 22) rfl), in_wsL_law0_r23 _ (List.mem_of_getElem? (i := 23) rfl), ⟨by decide +kernel, by decide +kernel, by decide +kernel⟩, by decide, TX5, 6, rfl⟩
theorem f_X5_173 : xF RX5 173 1 0 := ⟨RX1, TX1, 11, rfl, by decide, inlX1, in_wsL_law0_r24 _ (List.mem_of_getElem? (i := 1) rfl)⟩
theorem fw_X5_173 : xFw RX5 173 1 0 (.array .int) true := ⟨RX1, TX1, 11, tyX1, rfl, by decide, inlX1, in_wsL_law0_r24 _ (List.mem_of_getElem? (i := 1) rfl), tyX1_ok, nmX1, rfl, tyX1_ok 0 (by decide), rfl⟩
theorem k_X5_170 : Cond.methodLink RX5 170 yX5_needIsland ∈ wsL_law := in_wsL_law0_r24 _ (List.mem_of_getElem? (i := 2) rfl)
theorem m_X5_needIsland : xMv yX5_needIsland cX5_needIsland 2 none 1 5 := ⟨in_wsL_law0_r24 _ (List.mem_of_getElem? (i := 5) rfl), in_wsL_law0_r1 _ (List.mem_of_getElem? (i := 2) rfl), in_wsL_law0_r24 _ (List.mem_of_getElem? (i := 3) rfl), in_wsL_law0_r24 _ (List.mem_of_getElem? (i := 4) rfl), ⟨by decide +kernel, by decide +kernel, by decide +kernel⟩, by decide, TX5, 6, rfl⟩
theorem k_L_157 : Cond.methodLink RL 157 yX6_kind ∈ wsL_law := in_wsL_law0_r24 _ (List.mem_of_getElem? (i := 6) rfl)
theorem m_X6_kind : xMv yX6_kind cX6_kind 2 (some .int) 1 6 := ⟨in_wsL_law0_r24 _ (List.mem_of_getElem? (i := 9) rfl), in_wsL_law0_r1 _ (List.mem_of_getElem? (i := 5) rfl), in_wsL_law0_r24 _ (List.mem_of_getElem? (i := 7) rfl), in_wsL_law0_r24 _ (List.mem_of_getElem? (i := 8) rfl), ⟨by decide +kernel, by decide +kernel, by decide +kernel⟩, by decide, TX6, 24, rfl⟩
theorem k_L_158 : Cond.methodLink RL 158 yL_start ∈ wsL_law := in_wsL_law0_r24 _ (List.mem_of_getElem? (i := 10) rfl)
theorem k_L_51 : Cond.methodLink RL 51 yX5_start ∈ wsL_law := in_wsL_law0_r24 _ (List.mem_of_getElem? (i := 13) rfl)
theorem m_X5_start : xMv yX5_start cX5_start 2 (some .int) 1 5 := ⟨in_wsL_law0_r24 _ (List.mem_of_getElem? (i := 16) rfl), in_wsL_law0_r1 _ (List.mem_of_getElem? (i := 2) rfl), in_wsL_law0_r24 _ (List.mem_of_getElem? (i := 14) rfl), in_wsL_law0_r24 _ (List.mem_of_getElem? (i := 15) rfl), ⟨by decide +kernel, by decide +kernel, by decide +kernel⟩, by decide, TX5, 6, rfl⟩
theorem f_X5_175 : xF RX5 175 1 1 := ⟨RX1, TX1, 11, rfl, by decide, inlX1, in_wsL_law0_r24 _ (List.mem_of_getElem? (i := 17) rfl)⟩
theorem fw_X5_175 : xFw RX5 175 1 1 (.array .int) true := ⟨RX1, TX1, 11, tyX1, rfl, by decide, inlX1, in_wsL_law0_r24 _ (List.mem_of_getElem? (i := 17) rfl), tyX1_ok, nmX1, rfl, tyX1_ok 1 (by decide), rfl⟩
theorem k_L_160 : Cond.methodLink RL 160 yX6_start ∈ wsL_law := in_wsL_law0_r24 _ (List.mem_of_getElem? (i := 18) rfl)
theorem m_X6_start : xMv yX6_start cX6_start 2 (some .int) 1 6 := ⟨in_wsL_law0_r24 _ (List.mem_of_getElem? (i := 21) rfl), in_wsL_law0_r1 _ (List.mem_of_getElem? (i := 5) rfl), in_wsL_law0_r24 _ (List.mem_of_getElem? (i := 19) rfl), in_wsL_law0_r24 _ (List.mem_of_getElem? (i := 20) rfl), ⟨by decide +kernel, by decide +kernel, by decide +kernel⟩, by decide, TX6, 24, rfl⟩
theorem k_L_161 : Cond.methodLink RL 161 yL_end ∈ wsL_law := in_wsL_law0_r24 _ (List.mem_of_getElem? (i := 22) rfl)
theorem k_L_54 : Cond.methodLink RL 54 yX5_end ∈ wsL_law := in_wsL_law0_r25 _ (List.mem_of_getElem? (i := 1) rfl)
theorem m_X5_end : xMv yX5_end cX5_end 2 (some .int) 1 5 := ⟨in_wsL_law0_r25 _ (List.mem_of_getElem? (i := 4) rfl), in_wsL_law0_r1 _ (List.mem_of_getElem? (i := 2) rfl), in_wsL_law0_r25 _ (List.mem_of_getElem? (i := 2) rfl), in_wsL_law0_r25 _ (List.mem_of_getElem? (i := 3) rfl), ⟨by decide +kernel, by decide +kernel, by decide +kernel⟩, by decide, TX5, 6, rfl⟩
theorem f_X5_178 : xF RX5 178 1 2 := ⟨RX1, TX1, 11, rfl, by decide, inlX1, in_wsL_law0_r25 _ (List.mem_of_getElem? (i := 5) rfl)⟩
theorem fw_X5_178 : xFw RX5 178 1 2 (.array .int) true := ⟨RX1, TX1, 11, tyX1, rfl, by decide, inlX1, in_wsL_law0_r25 _ (List.mem_of_getElem? (i := 5) rfl), tyX1_ok, nmX1, rfl, tyX1_ok 2 (by decide), rfl⟩
theorem k_L_163 : Cond.methodLink RL 163 yX6_end ∈ wsL_law := in_wsL_law0_r25 _ (List.mem_of_getElem? (i := 6) rfl)
theorem m_X6_end : xMv yX6_end cX6_end 2 (some .int) 1 6 := ⟨in_wsL_law0_r25 _ (List.mem_of_getElem? (i := 9) rfl), in_wsL_law0_r1 _ (List.mem_of_getElem? (i := 5) rfl), in_wsL_law0_r25 _ (List.mem_of_getElem? (i := 7) rfl), in_wsL_law0_r25 _ (List.mem_of_getElem? (i := 8) rfl), ⟨by decide +kernel, by decide +kernel, by decide +kernel⟩, by decide, TX6, 24, rfl⟩
theorem k_L_164 : Cond.methodLink RL 164 yL_state ∈ wsL_law := in_wsL_law0_r25 _ (List.mem_of_getElem? (i := 10) rfl)
theorem k_L_57 : Cond.methodLink RL 57 yX5_state ∈ wsL_law := in_wsL_law0_r25 _ (List.mem_of_getElem? (i := 13) rfl)
theorem m_X5_state : xMv yX5_state cX5_state 2 (some .int) 1 5 := ⟨in_wsL_law0_r25 _ (List.mem_of_getElem? (i := 16) rfl), in_wsL_law0_r1 _ (List.mem_of_getElem? (i := 2) rfl), in_wsL_law0_r25 _ (List.mem_of_getElem? (i := 14) rfl), in_wsL_law0_r25 _ (List.mem_of_getElem? (i := 15) rfl), ⟨by decide +kernel, by decide +kernel, by decide +kernel⟩, by decide, TX5, 6, rfl⟩
theorem f_X5_181 : xF RX5 181 1 3 := ⟨RX1, TX1, 11, rfl, by decide, inlX1, in_wsL_law0_r25 _ (List.mem_of_getElem? (i := 17) rfl)⟩
theorem fw_X5_181 : xFw RX5 181 1 3 (.array .int) true := ⟨RX1, TX1, 11, tyX1, rfl, by decide, inlX1, in_wsL_law0_r25 _ (List.mem_of_getElem? (i := 17) rfl), tyX1_ok, nmX1, rfl, tyX1_ok 3 (by decide), rfl⟩
theorem k_L_166 : Cond.methodLink RL 166 yX6_state ∈ wsL_law := in_wsL_law0_r25 _ (List.mem_of_getElem? (i := 18) rfl)
theorem m_X6_state : xMv yX6_state cX6_state 2 (some .int) 1 6 := ⟨in_wsL_law0_r25 _ (List.mem_of_getElem? (i := 21) rfl), in_wsL_law0_r1 _ (List.mem_of_getElem? (i := 5) rfl), in_wsL_law0_r25 _ (List.mem_of_getElem? (i := 19) rfl), in_wsL_law0_r25 _ (List.mem_of_getElem? (i := 20) rfl), ⟨by decide +kernel, by decide +kernel, by decide +kernel⟩, by decide, TX6, 24, rfl⟩
theorem k_L_167 : Cond.methodLink RL 167 yL_parent ∈ wsL_law := in_wsL_law0_r25 _ (List.mem_of_getElem? (i := 22) rfl)
theorem k_L_60 : Cond.methodLink RL 60 yX5_parent ∈ wsL_law := in_wsL_law0_r26 _ (List.mem_of_getElem? (i := 1) rfl)
theorem m_X5_parent : xMv yX5_parent cX5_parent 2 (some .int) 1 5 := ⟨in_wsL_law0_r26 _ (List.mem_of_getElem? (i := 4) rfl), in_wsL_law0_r1 _ (List.mem_of_getElem? (i := 2) rfl), in_wsL_law0_r26 _ (List.mem_of_getElem? (i := 2) rfl), in_wsL_law0_r26 _ (List.mem_of_getElem? (i := 3) rfl), ⟨by decide +kernel, by decide +kernel, by decide +kernel⟩, by decide, TX5, 6, rfl⟩
theorem f_X5_184 : xF RX5 184 1 4 := ⟨RX1, TX1, 11, rfl, by decide, inlX1, in_wsL_law0_r26 _ (List.mem_of_getElem? (i := 5) rfl)⟩
theorem fw_X5_184 : xFw RX5 184 1 4 (.array .int) true := ⟨RX1, TX1, 11, tyX1, rfl, by decide, inlX1, in_wsL_law0_r26 _ (List.mem_of_getElem? (i := 5) rfl), tyX1_ok, nmX1, rfl, tyX1_ok 4 (by decide), rfl⟩
theorem k_L_169 : Cond.methodLink RL 169 yX6_parent ∈ wsL_law := in_wsL_law0_r26 _ (List.mem_of_getElem? (i := 6) rfl)
theorem m_X6_parent : xMv yX6_parent cX6_parent 2 (some .int) 1 6 := ⟨in_wsL_law0_r26 _ (List.mem_of_getElem? (i := 9) rfl), in_wsL_law0_r1 _ (List.mem_of_getElem? (i := 5) rfl), in_wsL_law0_r26 _ (List.mem_of_getElem? (i := 7) rfl), in_wsL_law0_r26 _ (List.mem_of_getElem? (i := 8) rfl), ⟨by decide +kernel, by decide +kernel, by decide +kernel⟩, by decide, TX6, 24, rfl⟩
theorem k_L_170 : Cond.methodLink RL 170 yL_depth ∈ wsL_law := in_wsL_law0_r26 _ (List.mem_of_getElem? (i := 10) rfl)
theorem k_L_63 : Cond.methodLink RL 63 yX5_depth ∈ wsL_law := in_wsL_law0_r26 _ (List.mem_of_getElem? (i := 13) rfl)
theorem m_X5_depth : xMv yX5_depth cX5_depth 2 (some .int) 1 5 := ⟨in_wsL_law0_r26 _ (List.mem_of_getElem? (i := 16) rfl), in_wsL_law0_r1 _ (List.mem_of_getElem? (i := 2) rfl), in_wsL_law0_r26 _ (List.mem_of_getElem? (i := 14) rfl), in_wsL_law0_r26 _ (List.mem_of_getElem? (i := 15) rfl), ⟨by decide +kernel, by decide +kernel, by decide +kernel⟩, by decide, TX5, 6, rfl⟩
theorem f_X5_187 : xF RX5 187 1 5 := ⟨RX1, TX1, 11, rfl, by decide, inlX1, in_wsL_law0_r26 _ (List.mem_of_getElem? (i := 17) rfl)⟩
theorem fw_X5_187 : xFw RX5 187 1 5 (.array .int) true := ⟨RX1, TX1, 11, tyX1, rfl, by decide, inlX1, in_wsL_law0_r26 _ (List.mem_of_getElem? (i := 17) rfl), tyX1_ok, nmX1, rfl, tyX1_ok 5 (by decide), rfl⟩
theorem k_L_172 : Cond.methodLink RL 172 yX6_depth ∈ wsL_law := in_wsL_law0_r26 _ (List.mem_of_getElem? (i := 18) rfl)
theorem m_X6_depth : xMv yX6_depth cX6_depth 4 (some .int) 1 6 := ⟨in_wsL_law0_r26 _ (List.mem_of_getElem? (i := 21) rfl), in_wsL_law0_r1 _ (List.mem_of_getElem? (i := 5) rfl), in_wsL_law0_r26 _ (List.mem_of_getElem? (i := 19) rfl), in_wsL_law0_r26 _ (List.mem_of_getElem? (i := 20) rfl), ⟨by decide +kernel, by decide +kernel, by decide +kernel⟩, by decide, TX6, 24, rfl⟩
theorem k_L_173 : Cond.methodLink RL 173 yL_own ∈ wsL_law := in_wsL_law0_r26 _ (List.mem_of_getElem? (i := 22) rfl)
theorem k_L_66 : Cond.methodLink RL 66 yX5_own ∈ wsL_law := in_wsL_law0_r27 _ (List.mem_of_getElem? (i := 1) rfl)
theorem m_X5_own : xMv yX5_own cX5_own 2 (some .int) 1 5 := ⟨in_wsL_law0_r27 _ (List.mem_of_getElem? (i := 4) rfl), in_wsL_law0_r1 _ (List.mem_of_getElem? (i := 2) rfl), in_wsL_law0_r27 _ (List.mem_of_getElem? (i := 2) rfl), in_wsL_law0_r27 _ (List.mem_of_getElem? (i := 3) rfl), ⟨by decide +kernel, by decide +kernel, by decide +kernel⟩, by decide, TX5, 6, rfl⟩
theorem k_X5_190 : Cond.methodLink RX5 190 yX1_bytesOfChildren ∈ wsL_law := in_wsL_law0_r27 _ (List.mem_of_getElem? (i := 5) rfl)
theorem m_X1_bytesOfChildren : xMv yX1_bytesOfChildren cX1_bytesOfChildren 4 (some .int) 1 1 := ⟨in_wsL_law0_r27 _ (List.mem_of_getElem? (i := 8) rfl), in_wsL_law0_r2 _ (List.mem_of_getElem? (i := 1) rfl), in_wsL_law0_r27 _ (List.mem_of_getElem? (i := 6) rfl), in_wsL_law0_r27 _ (List.mem_of_getElem? (i := 7) rfl), ⟨by decide +kernel, by decide +kernel, by decide +kernel⟩, by decide, TX1, 11, rfl⟩
theorem k_L_175 : Cond.methodLink RL 175 yX6_own ∈ wsL_law := in_wsL_law0_r27 _ (List.mem_of_getElem? (i := 9) rfl)
theorem m_X6_own : xMv yX6_own cX6_own 4 (some .int) 1 6 := ⟨in_wsL_law0_r27 _ (List.mem_of_getElem? (i := 12) rfl), in_wsL_law0_r1 _ (List.mem_of_getElem? (i := 5) rfl), in_wsL_law0_r27 _ (List.mem_of_getElem? (i := 10) rfl), in_wsL_law0_r27 _ (List.mem_of_getElem? (i := 11) rfl), ⟨by decide +kernel, by decide +kernel, by decide +kernel⟩, by decide, TX6, 24, rfl⟩
theorem k_L_176 : Cond.methodLink RL 176 yL_at ∈ wsL_law := in_wsL_law0_r27 _ (List.mem_of_getElem? (i := 13) rfl)
theorem k_L_69 : Cond.methodLink RL 69 yX5_at ∈ wsL_law := in_wsL_law0_r27 _ (List.mem_of_getElem? (i := 16) rfl)
theorem m_X5_at : xMv yX5_at cX5_at 2 (some .int) 1 5 := ⟨in_wsL_law0_r27 _ (List.mem_of_getElem? (i := 19) rfl), in_wsL_law0_r1 _ (List.mem_of_getElem? (i := 2) rfl), in_wsL_law0_r27 _ (List.mem_of_getElem? (i := 17) rfl), in_wsL_law0_r27 _ (List.mem_of_getElem? (i := 18) rfl), ⟨by decide +kernel, by decide +kernel, by decide +kernel⟩, by decide, TX5, 6, rfl⟩
theorem k_X5_193 : Cond.methodLink RX5 193 yX1_innermostAround ∈ wsL_law := in_wsL_law0_r27 _ (List.mem_of_getElem? (i := 20) rfl)
theorem m_X1_innermostAround : xMv yX1_innermostAround cX1_innermostAround 3 (some .int) 1 1 := ⟨in_wsL_law0_r27 _ (List.mem_of_getElem? (i := 23) rfl), in_wsL_law0_r2 _ (List.mem_of_getElem? (i := 1) rfl), in_wsL_law0_r27 _ (List.mem_of_getElem? (i := 21) rfl), in_wsL_law0_r27 _ (List.mem_of_getElem? (i := 22) rfl), ⟨by decide +kernel, by decide +kernel, by decide +kernel⟩, by decide, TX1, 11, rfl⟩
theorem k_L_178 : Cond.methodLink RL 178 yX6_at_ ∈ wsL_law := in_wsL_law0_r28 _ (List.mem_of_getElem? (i := 0) rfl)
theorem m_X6_at_ : xMv yX6_at_ cX6_at_ 2 (some .int) 1 6 := ⟨in_wsL_law0_r28 _ (List.mem_of_getElem? (i := 3) rfl), in_wsL_law0_r1 _ (List.mem_of_getElem? (i := 5) rfl), in_wsL_law0_r28 _ (List.mem_of_getElem? (i := 1) rfl), in_wsL_law0_r28 _ (List.mem_of_getElem? (i := 2) rfl), ⟨by decide +kernel, by decide +kernel, by decide +kernel⟩, by decide, TX6, 24, rfl⟩
theorem k_X6_156 : Cond.methodLink RX6 156 yX6_around ∈ wsL_law := in_wsL_law0_r28 _ (List.mem_of_getElem? (i := 4) rfl)
theorem m_X6_around : xMv yX6_around cX6_around 4 (some .int) 1 6 := ⟨in_wsL_law0_r28 _ (List.mem_of_getElem? (i := 7) rfl), in_wsL_law0_r1 _ (List.mem_of_getElem? (i := 5) rfl), in_wsL_law0_r28 _ (List.mem_of_getElem? (i := 5) rfl), in_wsL_law0_r28 _ (List.mem_of_getElem? (i := 6) rfl), ⟨by decide +kernel, by decide +kernel, by decide +kernel⟩, by decide, TX6, 24, rfl⟩
theorem k_L_179 : Cond.methodLink RL 179 yL_count ∈ wsL_law := in_wsL_law0_r28 _ (List.mem_of_getElem? (i := 8) rfl)
theorem k_L_72 : Cond.methodLink RL 72 yX5_count ∈ wsL_law := in_wsL_law0_r28 _ (List.mem_of_getElem? (i := 11) rfl)
theorem m_X5_count : xMv yX5_count cX5_count 5 (some .int) 2 5 := ⟨in_wsL_law0_r28 _ (List.mem_of_getElem? (i := 14) rfl), in_wsL_law0_r1 _ (List.mem_of_getElem? (i := 2) rfl), in_wsL_law0_r28 _ (List.mem_of_getElem? (i := 12) rfl), in_wsL_law0_r28 _ (List.mem_of_getElem? (i := 13) rfl), ⟨by decide +kernel, by decide +kernel, by decide +kernel⟩, by decide, TX5, 6, rfl⟩
theorem k_L_181 : Cond.methodLink RL 181 yX6_count_ ∈ wsL_law := in_wsL_law0_r28 _ (List.mem_of_getElem? (i := 15) rfl)
theorem m_X6_count_ : xMv yX6_count_ cX6_count_ 5 (some .int) 2 6 := ⟨in_wsL_law0_r28 _ (List.mem_of_getElem? (i := 18) rfl), in_wsL_law0_r1 _ (List.mem_of_getElem? (i := 5) rfl), in_wsL_law0_r28 _ (List.mem_of_getElem? (i := 16) rfl), in_wsL_law0_r28 _ (List.mem_of_getElem? (i := 17) rfl), ⟨by decide +kernel, by decide +kernel, by decide +kernel⟩, by decide, TX6, 24, rfl⟩
theorem k_L_182 : Cond.methodLink RL 182 yL_water ∈ wsL_law := in_wsL_law0_r28 _ (List.mem_of_getElem? (i := 19) rfl)
theorem k_L_75 : Cond.methodLink RL 75 yX5_water ∈ wsL_law := in_wsL_law0_r28 _ (List.mem_of_getElem? (i := 22) rfl)
theorem m_X5_water : xMv yX5_water cX5_water 1 (some .int) 0 5 := ⟨in_wsL_law0_r29 _ (List.mem_of_getElem? (i := 1) rfl), in_wsL_law0_r1 _ (List.mem_of_getElem? (i := 2) rfl), in_wsL_law0_r28 _ (List.mem_of_getElem? (i := 23) rfl), in_wsL_law0_r29 _ (List.mem_of_getElem? (i := 0) rfl), ⟨by decide +kernel, by decide +kernel, by decide +kernel⟩, by decide, TX5, 6, rfl⟩
theorem k_L_184 : Cond.methodLink RL 184 yX6_water ∈ wsL_law := in_wsL_law0_r29 _ (List.mem_of_getElem? (i := 2) rfl)
theorem m_X6_water : xMv yX6_water cX6_water 1 (some .int) 0 6 := ⟨in_wsL_law0_r29 _ (List.mem_of_getElem? (i := 5) rfl), in_wsL_law0_r1 _ (List.mem_of_getElem? (i := 5) rfl), in_wsL_law0_r29 _ (List.mem_of_getElem? (i := 3) rfl), in_wsL_law0_r29 _ (List.mem_of_getElem? (i := 4) rfl), ⟨by decide +kernel, by decide +kernel, by decide +kernel⟩, by decide, TX6, 24, rfl⟩
theorem k_X6_159 : Cond.methodLink RX6 159 yX6_outside ∈ wsL_law := in_wsL_law0_r29 _ (List.mem_of_getElem? (i := 6) rfl)
theorem m_X6_outside : xMv yX6_outside cX6_outside 3 (some .int) 0 6 := ⟨in_wsL_law0_r29 _ (List.mem_of_getElem? (i := 9) rfl), in_wsL_law0_r1 _ (List.mem_of_getElem? (i := 5) rfl), in_wsL_law0_r29 _ (List.mem_of_getElem? (i := 7) rfl), in_wsL_law0_r29 _ (List.mem_of_getElem? (i := 8) rfl), ⟨by decide +kernel, by decide +kernel, by decide +kernel⟩, by decide, TX6, 24, rfl⟩
theorem k_L_185 : Cond.methodLink RL 185 yL_left ∈ wsL_law := in_wsL_law0_r29 _ (List.mem_of_getElem? (i := 10) rfl)
theorem k_L_78 : Cond.methodLink RL 78 yX5_left ∈ wsL_law := in_wsL_law0_r29 _ (List.mem_of_getElem? (i := 13) rfl)
theorem m_X5_left : xMv yX5_left cX5_left 1 (some .int) 0 5 := ⟨in_wsL_law0_r29 _ (List.mem_of_getElem? (i := 16) rfl), in_wsL_law0_r1 _ (List.mem_of_getElem? (i := 2) rfl), in_wsL_law0_r29 _ (List.mem_of_getElem? (i := 14) rfl), in_wsL_law0_r29 _ (List.mem_of_getElem? (i := 15) rfl), ⟨by decide +kernel, by decide +kernel, by decide +kernel⟩, by decide, TX5, 6, rfl⟩
theorem k_L_187 : Cond.methodLink RL 187 yX6_left ∈ wsL_law := in_wsL_law0_r29 _ (List.mem_of_getElem? (i := 17) rfl)
theorem m_X6_left : xMv yX6_left cX6_left 1 (some .int) 0 6 := ⟨in_wsL_law0_r29 _ (List.mem_of_getElem? (i := 20) rfl), in_wsL_law0_r1 _ (List.mem_of_getElem? (i := 5) rfl), in_wsL_law0_r29 _ (List.mem_of_getElem? (i := 18) rfl), in_wsL_law0_r29 _ (List.mem_of_getElem? (i := 19) rfl), ⟨by decide +kernel, by decide +kernel, by decide +kernel⟩, by decide, TX6, 24, rfl⟩
theorem k_L_188 : Cond.methodLink RL 188 yL_share ∈ wsL_law := in_wsL_law0_r29 _ (List.mem_of_getElem? (i := 21) rfl)
theorem k_L_81 : Cond.methodLink RL 81 yX5_share ∈ wsL_law := in_wsL_law0_r30 _ (List.mem_of_getElem? (i := 0) rfl)
theorem m_X5_share : xMv yX5_share cX5_share 1 (some .double) 0 5 := ⟨in_wsL_law0_r30 _ (List.mem_of_getElem? (i := 3) rfl), in_wsL_law0_r1 _ (List.mem_of_getElem? (i := 2) rfl), in_wsL_law0_r30 _ (List.mem_of_getElem? (i := 1) rfl), in_wsL_law0_r30 _ (List.mem_of_getElem? (i := 2) rfl), ⟨by decide +kernel, by decide +kernel, by decide +kernel⟩, by decide, TX5, 6, rfl⟩
theorem k_L_191 : Cond.methodLink RL 191 yX6_share ∈ wsL_law := in_wsL_law0_r30 _ (List.mem_of_getElem? (i := 4) rfl)
theorem m_X6_share : xMv yX6_share cX6_share 1 (some .double) 0 6 := ⟨in_wsL_law0_r30 _ (List.mem_of_getElem? (i := 7) rfl), in_wsL_law0_r1 _ (List.mem_of_getElem? (i := 5) rfl), in_wsL_law0_r30 _ (List.mem_of_getElem? (i := 5) rfl), in_wsL_law0_r30 _ (List.mem_of_getElem? (i := 6) rfl), ⟨by decide +kernel, by decide +kernel, by decide +kernel⟩, by decide, TX6, 24, rfl⟩
theorem k_L_192 : Cond.methodLink RL 192 yX5_digest ∈ wsL_law := in_wsL_law0_r30 _ (List.mem_of_getElem? (i := 8) rfl)
theorem m_X5_digest : xMv yX5_digest cX5_digest 4 (some .long) 0 5 := ⟨in_wsL_law0_r30 _ (List.mem_of_getElem? (i := 11) rfl), in_wsL_law0_r1 _ (List.mem_of_getElem? (i := 2) rfl), in_wsL_law0_r30 _ (List.mem_of_getElem? (i := 9) rfl), in_wsL_law0_r30 _ (List.mem_of_getElem? (i := 10) rfl), ⟨by decide +kernel, by decide +kernel, by decide +kernel⟩, by decide, TX5, 6, rfl⟩
theorem cl_X5_198 : Cond.constantLong RX5 198 (109) ∈ wsL_law := in_wsL_law0_r30 _ (List.mem_of_getElem? (i := 12) rfl)
theorem k_X5_200 : Cond.methodLink RX5 200 yX5_mixed ∈ wsL_law := in_wsL_law0_r30 _ (List.mem_of_getElem? (i := 13) rfl)
theorem m_X5_mixed : xMs yX5_mixed cX5_mixed 3 (some .long) 2 := ⟨in_wsL_law0_r30 _ (List.mem_of_getElem? (i := 15) rfl), in_wsL_law0_r1 _ (List.mem_of_getElem? (i := 2) rfl), in_wsL_law0_r30 _ (List.mem_of_getElem? (i := 14) rfl), ⟨by decide +kernel, by decide +kernel, by decide +kernel⟩, by decide⟩
theorem cl_X5_212 : Cond.constantLong RX5 212 (31) ∈ wsL_law := in_wsL_law0_r30 _ (List.mem_of_getElem? (i := 16) rfl)
theorem k_X5_208 : Cond.methodLink RX5 208 yX5_withIslands ∈ wsL_law := in_wsL_law0_r30 _ (List.mem_of_getElem? (i := 17) rfl)
theorem m_X5_withIslands : xMv yX5_withIslands cX5_withIslands 6 (some .long) 1 5 := ⟨in_wsL_law0_r30 _ (List.mem_of_getElem? (i := 20) rfl), in_wsL_law0_r1 _ (List.mem_of_getElem? (i := 2) rfl), in_wsL_law0_r30 _ (List.mem_of_getElem? (i := 18) rfl), in_wsL_law0_r30 _ (List.mem_of_getElem? (i := 19) rfl), ⟨by decide +kernel, by decide +kernel, by decide +kernel⟩, by decide, TX5, 6, rfl⟩
theorem k_L_196 : Cond.methodLink RL 196 yX6_digest ∈ wsL_law := in_wsL_law0_r30 _ (List.mem_of_getElem? (i := 21) rfl)
theorem m_X6_digest : xMv yX6_digest cX6_digest 4 (some .long) 0 6 := ⟨in_wsL_law0_r31 _ (List.mem_of_getElem? (i := 0) rfl), in_wsL_law0_r1 _ (List.mem_of_getElem? (i := 5) rfl), in_wsL_law0_r30 _ (List.mem_of_getElem? (i := 22) rfl), in_wsL_law0_r30 _ (List.mem_of_getElem? (i := 23) rfl), ⟨by decide +kernel, by decide +kernel, by decide +kernel⟩, by decide, TX6, 24, rfl⟩
theorem cl_X6_163 : Cond.constantLong RX6 163 (3379) ∈ wsL_law := in_wsL_law0_r31 _ (List.mem_of_getElem? (i := 1) rfl)
theorem cl_X6_165 : Cond.constantLong RX6 165 (31) ∈ wsL_law := in_wsL_law0_r31 _ (List.mem_of_getElem? (i := 2) rfl)
end
section
/-! THE WORLDS: Text, Kinds, Islands, Marks, BestReader, the parser; bI: a boolean as the machine has it -/
def bI (b : Bool) : Int32 := if b then 1 else 0
theorem bI0 {b : Bool} (h : bI b = 0) : b = false := by cases b with
  | false => rfl
  | true => exact absurd h (by decide)
theorem bI1 {b : Bool} (h : ¬ bI b = 0) : b = true := by cases b with
  | false => exact absurd rfl h
  | true => rfl
theorem bI_nar (b : Bool) : narrow .boolean (.int (bI b)) = .int (bI b) := by cases b <;> rfl
theorem bI_fit (b : Bool) : fits .boolean (.int (bI b)) = true := by cases b <;> rfl
theorem bI_t {b : Bool} (h : b = true) : (1 : Int32) = bI b := by rw [h]; rfl
theorem bI_f {b : Bool} (h : b = false) : (0 : Int32) = bI b := by rw [h]; rfl
abbrev TS : Type := (Nat → Int32) × Nat × Int32
abbrev KS : Type := (Nat → Int32) × (Nat → Int32) × (Nat → Int32) × Int32 × Int32
abbrev IS : Type := (Nat → Int32) × (Nat → Int32) × (Nat → Int32) × (Nat → Int32) × (Nat → Int32) × (Nat → Int32) × (Nat → Int32) × Nat × Nat × Nat × Bool
abbrev MS : Type := (Nat → Int32) × (Nat → Int32) × (Nat → Int32) × (Nat → Int32) × Nat
abbrev BS : Type := (Nat → Int64) × (Nat → Int32)
def wT (tc : Nat → ClassId) (a : Nat → Nat) (b : Nat → Int32) (n : Nat) (ec : Int32) : va_W := [(a 0, .inr (4, [.ref (a 1), .int (nI n), .int ec])), (a 1, .inl (tc 0, 48, .inl b))]
def wK (tc : Nat → ClassId) (a : Nat → Nat) (ko kc ki : Nat → Int32) (kr ku : Int32) : va_W := [(a 0, .inr (2, [.ref (a 1), .ref (a 2), .ref (a 3), .int kr, .int ku])), (a 1, .inl (tc 0, 6, .inl ko)), (a 2, .inl (tc 0, 6, .inl kc)), (a 3, .inl (tc 0, 6, .inl ki))]
def wI (tc : Nat → ClassId) (a : Nat → Nat) (ik ia ie it ip id io : Nat → Int32) (im iq il : Nat) (ir : Bool) : va_W := [(a 0, .inr (1, [.ref (a 1), .ref (a 2), .ref (a 3), .ref (a 4), .ref (a 5), .ref (a 6), .ref (a 7), .int (nI im), .int (nI iq), .int (nI il), .int (bI ir)])), (a 1, .inl (tc 0, 48, .inl ik)), (a 2, .inl (tc 0, 48, .inl ia)), (a 3, .inl (tc 0, 48, .inl ie)), (a 4, .inl (tc 0, 48, .inl it)), (a 5, .inl (tc 0, 48, .inl ip)), (a 6, .inl (tc 0, 48, .inl id)), (a 7, .inl (tc 0, 48, .inl io))]
def wM (tc : Nat → ClassId) (a : Nat → Nat) (mp mb mo mc : Nat → Int32) (mm : Nat) : va_W := [(a 0, .inr (3, [.ref (a 1), .ref (a 2), .ref (a 3), .ref (a 4), .int (nI mm)])), (a 1, .inl (tc 0, 48, .inl mp)), (a 2, .inl (tc 0, 48, .inl mb)), (a 3, .inl (tc 0, 48, .inl mo)), (a 4, .inl (tc 0, 48, .inl mc))]
def wB (tc : Nat → ClassId) (a : Nat → Nat) (bs : Nat → Int64) (bc : Nat → Int32) : va_W := [(a 0, .inr (0, [.ref (a 1), .ref (a 2)])), (a 1, .inl (tc 1, 2401, .inr (.inl bs))), (a 2, .inl (tc 0, 48, .inl bc))]
def wO (a0 : Nat) (aT aK aI aM aB : Nat → Nat) (lt : Bool) : va_W := [(a0, .inr (5, [.ref (aT 0), .ref (aK 0), .ref (aI 0), .ref (aM 0), .ref (aB 0), .int (bI lt)]))]
/-- what the text answers -/
def hasP (n : Nat) (x : Int32) : Bool := !decide (x < 0) && !decide (nI n ≤ x)
def isEs (b : Nat → Int32) (n : Nat) (ec : Int32) (x : Int32) : Bool := hasP n x && decide (b x.toNatClampNeg = ec)
theorem i32_nlt {x y : Int32} : ¬ x < y ↔ y ≤ x := by rw [Int32.lt_iff_toInt_lt, Int32.le_iff_toInt_le]; omega
theorem i32_nle {x y : Int32} : ¬ x ≤ y ↔ y < x := by rw [Int32.lt_iff_toInt_lt, Int32.le_iff_toInt_le]; omega
theorem hasP_in {n : Nat} {x : Int32} (h : hasP n x = true) (hn : n ≤ 48) : vp_in x 48 := by
  simp only [hasP, Bool.and_eq_true, Bool.not_eq_true', decide_eq_false_iff_not] at h
  rw [vp_in_iff]
  have h1 := h.1
  have h2 := h.2
  rw [Int32.lt_iff_toInt_lt] at h1
  rw [Int32.le_iff_toInt_le, nI_toInt (by omega)] at h2
  have : (0 : Int32).toInt = 0 := by decide
  omega
theorem hasP_nI {n j : Nat} (hj : j < 2 ^ 31) (hn : n < 2 ^ 31) : hasP n (nI j) = decide (j < n) := by
  simp only [hasP, nI_pos hj, decide_false, Bool.not_false, Bool.true_and, nI_leI hn hj]
  by_cases h : j < n
  · simp [h]
  · simp [h]; omega
theorem isEs_nI {b : Nat → Int32} {n j : Nat} {ec : Int32} (hj : j < n) (hn : n ≤ 48) : isEs b n ec (nI j) = decide (b j = ec) := by
  rw [isEs, hasP_nI (by omega) (by omega), nI_clamp (by omega)]
  simp [hj]
/-- bytes put into one number, from place i on -/
def wgo (b : Nat → Int32) (ec : Int32) : Nat → Nat → Int32 → Int32
  | 0, _, w => w
  | n + 1, i, w => if b i = ec then 0 else wgo b ec n (i + 1) ((w <<< ((8 : Int32) &&& 31)) ||| b i)
def wAt (b : Nat → Int32) (n : Nat) (ec : Int32) (i k : Nat) : Int32 := if k ≤ n - i then wgo b ec k i 0 else 0
/-- what the kinds answer -/
def hk (q x : Int32) : Bool := decide ((q >>> (x &&& 31)) &&& 1 = 1)
def cpl (ko kc : Nat → Int32) (x : Int32) : Bool := !decide (x < 0) && (!decide (6 ≤ x) && (!decide (ko x.toNatClampNeg = 0) && !decide (kc x.toNatClampNeg = 0)))
def clb (ko kc : Nat → Int32) (x w : Int32) : Bool := cpl ko kc x && decide (kc x.toNatClampNeg = w)
def kwG (ko kc f : Nat → Int32) (w : Int32) : Nat → Nat → Int32 → Int32
  | 0, _, z => z
  | n + 1, k, z => kwG ko kc f w n (k + 1) (if (decide (f k = w) && cpl ko kc (nI k)) = true then z ||| ((1 : Int32) <<< (nI k &&& 31)) else z)
def kw (ko kc f : Nat → Int32) (w : Int32) : Int32 := kwG ko kc f w 6 0 0
def alw (ki : Nat → Int32) (kr ku x : Int32) : Int32 := if x = 6 then ku else if (decide (x < 0) || (decide (6 ≤ x) || hk kr x)) = true then 0 else ki x.toNatClampNeg
theorem in_lt {x : Int32} {N : Nat} (h0 : ¬ x < 0) (h : ¬ nI N ≤ x) (hN : N < 2 ^ 31) : vp_in x N := by
  rw [vp_in_iff]
  rw [Int32.lt_iff_toInt_lt] at h0
  rw [Int32.le_iff_toInt_le, nI_toInt hN] at h
  have : (0 : Int32).toInt = 0 := by decide
  omega
theorem in6 {x : Int32} (h0 : ¬ x < 0) (h : ¬ 6 ≤ x) : vp_in x 6 := in_lt h0 h (by decide)
theorem cpl_in {ko kc : Nat → Int32} {x : Int32} (h : cpl ko kc x = true) : vp_in x 6 := by
  simp only [cpl, Bool.and_eq_true, Bool.not_eq_true', decide_eq_false_iff_not] at h
  exact in6 h.1 h.2.1
/-- what the islands answer -/
def opI (io : Nat → Int32) (iq j : Nat) : Int32 := if j + 1 ≤ iq then io (iq - 1 - j) else -1
def okd (ik io : Nat → Int32) (iq j : Nat) : Int32 := if j + 1 ≤ iq then ik (io (iq - 1 - j)).toNatClampNeg else 6
def bocG (ip ie ia : Nat → Int32) (x : Int32) : Nat → Nat → Int32 → Int32
  | 0, _, z => z
  | n + 1, k, z => bocG ip ie ia x n (k + 1) (if ip k = x then z + (ie k - ia k) else z)
def iaG (ia ie : Nat → Int32) (x : Int32) : Nat → Int32
  | 0 => -1
  | n + 1 => if (!decide (x < ia n) && !decide (ie n ≤ x)) = true then nI n else iaG ia ie x n
/-- the open islands are islands -/
def opOk (io : Nat → Int32) (iq im : Nat) : Prop := ∀ r, r < iq → ∃ t, t < im ∧ io r = nI t
theorem i32_ss (x y : Int32) : x - 1 - y = x - (y + 1) := by
  apply Int32.toBitVec_inj.mp
  simp only [Int32.toBitVec_sub, Int32.toBitVec_add]
  bv_omega
theorem i32_m1 (x : Int32) : x + Int32.ofInt (-1) = x - 1 := by
  apply Int32.toBitVec_inj.mp
  simp only [Int32.toBitVec_sub, Int32.toBitVec_add]
  have : (Int32.ofInt (-1)).toBitVec = 4294967295#32 := by decide
  rw [this]
  have : (1 : Int32).toBitVec = 1#32 := by decide
  rw [this]
  bv_omega
theorem opI_row {iq j : Nat} (h : j + 1 ≤ iq) : nI iq - 1 - nI j = nI (iq - 1 - j) := by
  rw [i32_ss, ← nI_succ, pk_sub h, show iq - (j + 1) = iq - 1 - j by omega]
theorem opI_neg {iq j : Nat} (h : ¬ j + 1 ≤ iq) (hj : j < 1000) : nI iq - 1 - nI j < 0 := by
  rw [i32_ss, ← nI_succ]
  exact pk_sneg (by omega) (by omega)
theorem nI_m1 {j : Nat} (hj : j < 2 ^ 31) : ¬ nI j = -1 := by
  intro h
  have := congrArg Int32.toInt h
  rw [nI_toInt hj] at this
  have e : (-1 : Int32).toInt = -1 := by decide
  omega
end
section
set_option maxHeartbeats 4000000 in
set_option maxRecDepth 100000 in
theorem c_X4_hasPlace (l : Launch) (G : va_G) (tc : Nat → ClassId) (a : Nat → Nat) (b : Nat → Int32) (n : Nat) (ec : Int32) (x : Int32) : kI l yX4_hasPlace (xw yX4_hasPlace cX4_hasPlace 2 (some .boolean)) 0 G tc [.ref (a 0), .int x] (wT tc a (b) (n) ec) (bI (hasP n x)) (wT tc a (b) (n) ec) := by
  refine kI_of [some (.ref (a 0)), some (.int x)] 0 (by decide) (Nat.le_of_ble_eq_true rfl) rfl ?_
  intro p e s m args below meth c A C
  refine xiload_1 C dX4_hasPlace_0 ?_
  refine xif_lt C (tgt := 16) dX4_hasPlace_1 (by decide) (fun h1 => ?_) (fun h1 => ?_)
  · skip
    refine xiconst C (0) dX4_hasPlace_16 (by decide) ?_
    exact xzret C dX4_hasPlace_17 (by first | rfl | exact bI_nar _) (by simp [bI, hasP, *]) (rfl)
  · skip
    refine xiload_1 C dX4_hasPlace_4 ?_
    refine xaload_0 C dX4_hasPlace_5 ?_
    refine xget C 0 f_X4_15 dX4_hasPlace_6 rfl rfl ?_
    refine xicmp_ge C (tgt := 16) dX4_hasPlace_9 (by decide) (fun h9 => ?_) (fun h9 => ?_)
    · skip
      refine xiconst C (0) dX4_hasPlace_16 (by decide) ?_
      exact xzret C dX4_hasPlace_17 (by first | rfl | exact bI_nar _) (by simp [bI, hasP, *]) (rfl)
    · skip
      refine xiconst C (1) dX4_hasPlace_12 (by decide) ?_
      refine xgoto C (tgt := 17) dX4_hasPlace_13 (by decide) ?_
      exact xzret C dX4_hasPlace_17 (by first | rfl | exact bI_nar _) (by simp [bI, hasP, *]) (rfl)
set_option maxHeartbeats 4000000 in
set_option maxRecDepth 100000 in
theorem c_X4_isEscape (l : Launch) (G : va_G) (tc : Nat → ClassId) (a : Nat → Nat) (b : Nat → Int32) (n : Nat) (ec : Int32) (hn : n ≤ 48) (x : Int32) : kI l yX4_isEscape (xw yX4_isEscape cX4_isEscape 2 (some .boolean)) 1 G tc [.ref (a 0), .int x] (wT tc a (b) (n) ec) (bI (isEs b n ec x)) (wT tc a (b) (n) ec) := by
  refine kI_of [some (.ref (a 0)), some (.int x)] 0 (by decide) (Nat.le_of_ble_eq_true rfl) rfl ?_
  intro p e s m args below meth c A C
  refine xaload_0 C dX4_isEscape_0 ?_
  refine xiload_1 C dX4_isEscape_1 ?_
  refine xcallVi0 C m_X4_hasPlace k_X4_22 (c_X4_hasPlace l G tc a b n ec x) dX4_isEscape_2 0 rfl [0, 1] rfl rfl rfl (by decide) rfl (Nat.le_of_ble_eq_true rfl) ⟨by decide, by decide⟩ ?_
  refine xif_eq C (tgt := 25) dX4_isEscape_5 (by decide) (fun h5 => ?_) (fun h5 => ?_)
  · skip
    have h5 := bI0 h5
    refine xiconst C (0) dX4_isEscape_25 (by decide) ?_
    exact xzret C dX4_isEscape_26 (by first | rfl | exact bI_nar _) (by simp [bI, isEs, *]) (rfl)
  · skip
    have h5 := bI1 h5
    refine xaload_0 C dX4_isEscape_8 ?_
    refine xget C 0 f_X4_9 dX4_isEscape_9 rfl rfl ?_
    refine xiload_1 C dX4_isEscape_12 ?_
    refine xiald C 1 dX4_isEscape_13 rfl (hasP_in h5 hn) ?_
    refine xaload_0 C dX4_isEscape_14 ?_
    refine xget C 0 f_X4_19 dX4_isEscape_15 rfl rfl ?_
    refine xicmp_ne C (tgt := 25) dX4_isEscape_18 (by decide) (fun h18 => ?_) (fun h18 => ?_)
    · skip
      refine xiconst C (0) dX4_isEscape_25 (by decide) ?_
      exact xzret C dX4_isEscape_26 (by first | rfl | exact bI_nar _) (by simp [bI, isEs, *]) (rfl)
    · skip
      refine xiconst C (1) dX4_isEscape_21 (by decide) ?_
      refine xgoto C (tgt := 26) dX4_isEscape_22 (by decide) ?_
      exact xzret C dX4_isEscape_26 (by first | rfl | exact bI_nar _) (by simp [bI, isEs, *]) (rfl)
set_option maxHeartbeats 4000000 in
set_option maxRecDepth 100000 in
theorem c_X4_append (l : Launch) (G : va_G) (tc : Nat → ClassId) (a : Nat → Nat) (b : Nat → Int32) (n : Nat) (ec : Int32) (hn : n < 48) (x : Int32) : kV l yX4_append (xw yX4_append cX4_append 2 none) 0 G tc [.ref (a 0), .int x] (wT tc a (b) (n) ec) (wT tc a (upd b n x) (n + 1) ec) := by
  refine kV_of [some (.ref (a 0)), some (.int x)] 0 (by decide) (Nat.le_of_ble_eq_true rfl) rfl ?_
  intro p e s m args below meth c A C
  refine xaload_0 C dX4_append_0 ?_
  refine xget C 0 f_X4_15 dX4_append_1 rfl rfl ?_
  refine xbipush C (48) dX4_append_4 (by decide) ?_
  refine xicmp_ge C (tgt := 29) dX4_append_6 (by decide) (fun h6 => ?_) (fun h6 => ?_)
  · skip
    exact absurd h6 (by rw [show (48 : Int32) = nI 48 from rfl]; exact nI_ge hn (by decide))
  · skip
    refine xaload_0 C dX4_append_9 ?_
    refine xget C 0 f_X4_9 dX4_append_10 rfl rfl ?_
    refine xaload_0 C dX4_append_13 ?_
    refine xget C 0 f_X4_15 dX4_append_14 rfl rfl ?_
    refine xiload_1 C dX4_append_17 ?_
    refine xiastN C (n) 1 (wT tc a (upd b n x) (n) ec) dX4_append_18 rfl (hn) (rfl) (by decide) rfl ?_
    refine xaload_0 C dX4_append_19 ?_
    refine xdup C dX4_append_20 rfl ?_
    refine xget C 0 f_X4_15 dX4_append_21 rfl rfl ?_
    refine xiconst C (1) dX4_append_24 (by decide) ?_
    refine xiadd C dX4_append_25 ?_
    refine xtop (w := .int (nI (n + 1))) (congrArg Value.int (nI_1 n)) ?_
    refine xput C 0 (wT tc a (upd b n x) (n + 1) ec) fw_X4_15 dX4_append_26 rfl (Nat.le_of_ble_eq_true rfl) rfl rfl rfl ?_
    exact xvret C dX4_append_29 (rfl)
set_option maxHeartbeats 4000000 in
set_option maxRecDepth 100000 in
theorem c_X4_wordAt (l : Launch) (G : va_G) (tc : Nat → ClassId) (a : Nat → Nat) (b : Nat → Int32) (n : Nat) (ec : Int32) (hn : n ≤ 48) (i q : Nat) (hi : i ≤ n) (hq : 1 ≤ q) (hq3 : q ≤ 3) : kI l yX4_wordAt (xw yX4_wordAt cX4_wordAt 5 (some .int)) 2 G tc [.ref (a 0), .int (nI i), .int (nI q)] (wT tc a (b) (n) ec) (wAt b n ec i q) (wT tc a (b) (n) ec) := by
  refine kI_of [some (.ref (a 0)), some (.int (nI i)), some (.int (nI q)), none, none] 2 (by decide) (Nat.le_of_ble_eq_true rfl) rfl ?_
  intro p e s m args below meth c A C
  have loop : ∀ (k j : Nat) (w : Int32), j + k = i + q → i + q ≤ n → wgo b ec k j w = wAt b n ec i q → xAT p l e (xR 2 0 0) s m args below meth c (xQi below args s G A (wAt b n ec i q) (wT tc a (b) (n) ec)) G A 5 0 0 (wT tc a (b) (n) ec) [some (.ref (a 0)), some (.int (nI i)), some (.int (nI q)), some (.int w), some (.int (nI j))] 26 [] := by
    intro k
    induction k with
    | zero =>
      intro j w hj hle hw
      have hj : j = i + q := hj
      refine xiload_4 C dX4_wordAt_26 ?_
      refine xiload_1 C dX4_wordAt_28 ?_
      refine xiload_2 C dX4_wordAt_29 ?_
      refine xiadd C dX4_wordAt_30 ?_
      refine xtop (w := .int (nI (i + q))) (congrArg Value.int (nI_add i q)) ?_
      refine xicmp_ge C (tgt := 64) dX4_wordAt_31 (by decide) (fun h31 => ?_) (fun h31 => ?_)
      · skip
        refine xiload_3 C dX4_wordAt_64 ?_
        exact xiret C dX4_wordAt_65 (hw) (rfl)
      · skip
        exact absurd (by rw [hj]; exact nI_le (Nat.le_refl _) (by omega)) h31
    | succ k ih =>
      intro j w hj hle hw
      have hjn : j < n := by omega
      have hmn : ¬ (nI (i + q)) ≤ nI j := nI_ge (by omega) (by omega)
      refine xiload_4 C dX4_wordAt_26 ?_
      refine xiload_1 C dX4_wordAt_28 ?_
      refine xiload_2 C dX4_wordAt_29 ?_
      refine xiadd C dX4_wordAt_30 ?_
      refine xtop (w := .int (nI (i + q))) (congrArg Value.int (nI_add i q)) ?_
      refine xicmp_ge C (tgt := 64) dX4_wordAt_31 (by decide) (fun h31 => ?_) (fun h31 => ?_)
      · skip
        exact absurd h31 hmn
      · skip
        refine xaload_0 C dX4_wordAt_34 ?_
        refine xiload_4 C dX4_wordAt_35 ?_
        refine xcallVi0 C m_X4_isEscape k_X4_26 (c_X4_isEscape l G tc a b n ec hn (nI j)) dX4_wordAt_37 0 rfl [0, 1] rfl rfl rfl (by decide) rfl (Nat.le_of_ble_eq_true rfl) ⟨by decide, by decide⟩ ?_
        rw [isEs_nI hjn hn]
        refine xif_eq C (tgt := 45) dX4_wordAt_40 (by decide) (fun h40 => ?_) (fun h40 => ?_)
        · skip
          have h40 := bI0 h40
          have h40 := of_decide_eq_false h40
          refine xiload_3 C dX4_wordAt_45 ?_
          refine xbipush C (8) dX4_wordAt_46 (by decide) ?_
          refine xishl C dX4_wordAt_48 ?_
          refine xaload_0 C dX4_wordAt_49 ?_
          refine xget C 0 f_X4_9 dX4_wordAt_50 rfl rfl ?_
          refine xiload_4 C dX4_wordAt_53 ?_
          refine xialdN C (j) 1 dX4_wordAt_55 rfl (by omega) (rfl) (by decide) ?_
          refine xior C dX4_wordAt_56 ?_
          refine xistore_3 C dX4_wordAt_57 rfl (by decide) ?_
          refine xiinc_4 C (nI (j + 1)) dX4_wordAt_58 (nI_1 j) rfl (by decide) ?_
          refine xgoto C (tgt := 26) dX4_wordAt_61 (by decide) ?_
          exact ih (j + 1) _ (by omega) hle (by rw [← hw, wgo, if_neg h40])
        · skip
          have h40 := bI1 h40
          have h40 := of_decide_eq_true h40
          refine xiconst C (0) dX4_wordAt_43 (by decide) ?_
          exact xiret C dX4_wordAt_44 (by rw [← hw, wgo, if_pos h40]) (rfl)
  refine xiload_1 C dX4_wordAt_0 ?_
  refine xif_lt C (tgt := 19) dX4_wordAt_1 (by decide) (fun h1 => ?_) (fun h1 => ?_)
  · skip
    exact absurd h1 (nI_pos (by omega))
  · skip
    refine xiload_2 C dX4_wordAt_4 ?_
    refine xiconst C (1) dX4_wordAt_5 (by decide) ?_
    refine xicmp_lt C (tgt := 19) dX4_wordAt_6 (by decide) (fun h6 => ?_) (fun h6 => ?_)
    · skip
      exact absurd h6 (by rw [show (1 : Int32) = nI 1 from rfl]; exact nI_nlt hq (by omega))
    · skip
      refine xiload_2 C dX4_wordAt_9 ?_
      refine xaload_0 C dX4_wordAt_10 ?_
      refine xget C 0 f_X4_15 dX4_wordAt_11 rfl rfl ?_
      refine xiload_1 C dX4_wordAt_14 ?_
      refine xisub C dX4_wordAt_15 ?_
      refine xtop (w := .int (nI (n - i))) (congrArg Value.int (pk_sub hi)) ?_
      refine xicmp_le C (tgt := 21) dX4_wordAt_16 (by decide) (fun h16 => ?_) (fun h16 => ?_)
      · skip
        have h16 := (nI_leI (by omega) (by omega)).mp h16
        refine xiconst C (0) dX4_wordAt_21 (by decide) ?_
        refine xistore_3 C dX4_wordAt_22 rfl (by decide) ?_
        refine xiload_1 C dX4_wordAt_23 ?_
        refine xistore_4 C dX4_wordAt_24 rfl (by decide) ?_
        exact loop q i 0 rfl (by omega) (by rw [wAt, if_pos h16])
      · skip
        have h16 := fun h => h16 ((nI_leI (by omega) (by omega)).mpr h)
        refine xiconst C (0) dX4_wordAt_19 (by decide) ?_
        exact xiret C dX4_wordAt_20 (by rw [wAt, if_neg h16]) (rfl)
end
section
set_option maxHeartbeats 4000000 in
set_option maxRecDepth 100000 in
theorem c_X5_holdsKind (l : Launch) (G : va_G) (tc : Nat → ClassId) (q x : Int32) : kI l yX5_holdsKind (xw yX5_holdsKind cX5_holdsKind 2 (some .boolean)) 0 G tc [.int q, .int x] ([]) (bI (hk q x)) ([]) := by
  refine kI_of [some (.int q), some (.int x)] 0 (by decide) (Nat.le_of_ble_eq_true rfl) rfl ?_
  intro p e s m args below meth c A C
  refine xiload_0 C dX5_holdsKind_0 ?_
  refine xiload_1 C dX5_holdsKind_1 ?_
  refine xishr C dX5_holdsKind_2 ?_
  refine xiconst C (1) dX5_holdsKind_3 (by decide) ?_
  refine xiand C dX5_holdsKind_4 ?_
  refine xiconst C (1) dX5_holdsKind_5 (by decide) ?_
  refine xicmp_ne C (tgt := 13) dX5_holdsKind_6 (by decide) (fun h6 => ?_) (fun h6 => ?_)
  · skip
    refine xiconst C (0) dX5_holdsKind_13 (by decide) ?_
    exact xzret C dX5_holdsKind_14 (by first | rfl | exact bI_nar _) (by simp [bI, hk, *]) (rfl)
  · skip
    refine xiconst C (1) dX5_holdsKind_9 (by decide) ?_
    refine xgoto C (tgt := 14) dX5_holdsKind_10 (by decide) ?_
    exact xzret C dX5_holdsKind_14 (by first | rfl | exact bI_nar _) (by simp [bI, hk, *]) (rfl)
set_option maxHeartbeats 4000000 in
set_option maxRecDepth 100000 in
theorem c_X2_isComplete (l : Launch) (G : va_G) (tc : Nat → ClassId) (a : Nat → Nat) (ko kc ki : Nat → Int32) (kr ku : Int32) (x : Int32) : kI l yX2_isComplete (xw yX2_isComplete cX2_isComplete 2 (some .boolean)) 0 G tc [.ref (a 0), .int x] (wK tc a ko kc ki kr ku) (bI (cpl ko kc x)) (wK tc a ko kc ki kr ku) := by
  refine kI_of [some (.ref (a 0)), some (.int x)] 0 (by decide) (Nat.le_of_ble_eq_true rfl) rfl ?_
  intro p e s m args below meth c A C
  refine xiload_1 C dX2_isComplete_0 ?_
  refine xif_lt C (tgt := 32) dX2_isComplete_1 (by decide) (fun h1 => ?_) (fun h1 => ?_)
  · skip
    refine xiconst C (0) dX2_isComplete_32 (by decide) ?_
    exact xzret C dX2_isComplete_33 (by first | rfl | exact bI_nar _) (by simp [bI, cpl, *]) (rfl)
  · skip
    refine xiload_1 C dX2_isComplete_4 ?_
    refine xbipush C (6) dX2_isComplete_5 (by decide) ?_
    refine xicmp_ge C (tgt := 32) dX2_isComplete_7 (by decide) (fun h7 => ?_) (fun h7 => ?_)
    · skip
      refine xiconst C (0) dX2_isComplete_32 (by decide) ?_
      exact xzret C dX2_isComplete_33 (by first | rfl | exact bI_nar _) (by simp [bI, cpl, *]) (rfl)
    · skip
      refine xaload_0 C dX2_isComplete_10 ?_
      refine xget C 0 f_X2_9 dX2_isComplete_11 rfl rfl ?_
      refine xiload_1 C dX2_isComplete_14 ?_
      refine xiald C 1 dX2_isComplete_15 rfl (in6 h1 h7) ?_
      refine xif_eq C (tgt := 32) dX2_isComplete_16 (by decide) (fun h16 => ?_) (fun h16 => ?_)
      · skip
        refine xiconst C (0) dX2_isComplete_32 (by decide) ?_
        exact xzret C dX2_isComplete_33 (by first | rfl | exact bI_nar _) (by simp [bI, cpl, *]) (rfl)
      · skip
        refine xaload_0 C dX2_isComplete_19 ?_
        refine xget C 0 f_X2_15 dX2_isComplete_20 rfl rfl ?_
        refine xiload_1 C dX2_isComplete_23 ?_
        refine xiald C 2 dX2_isComplete_24 rfl (in6 h1 h7) ?_
        refine xif_eq C (tgt := 32) dX2_isComplete_25 (by decide) (fun h25 => ?_) (fun h25 => ?_)
        · skip
          refine xiconst C (0) dX2_isComplete_32 (by decide) ?_
          exact xzret C dX2_isComplete_33 (by first | rfl | exact bI_nar _) (by simp [bI, cpl, *]) (rfl)
        · skip
          refine xiconst C (1) dX2_isComplete_28 (by decide) ?_
          refine xgoto C (tgt := 33) dX2_isComplete_29 (by decide) ?_
          exact xzret C dX2_isComplete_33 (by first | rfl | exact bI_nar _) (by simp [bI, cpl, *]) (rfl)
set_option maxHeartbeats 4000000 in
set_option maxRecDepth 100000 in
theorem c_X2_isClosedBy (l : Launch) (G : va_G) (tc : Nat → ClassId) (a : Nat → Nat) (ko kc ki : Nat → Int32) (kr ku : Int32) (x w : Int32) : kI l yX2_isClosedBy (xw yX2_isClosedBy cX2_isClosedBy 3 (some .boolean)) 1 G tc [.ref (a 0), .int x, .int w] (wK tc a ko kc ki kr ku) (bI (clb ko kc x w)) (wK tc a ko kc ki kr ku) := by
  refine kI_of [some (.ref (a 0)), some (.int x), some (.int w)] 0 (by decide) (Nat.le_of_ble_eq_true rfl) rfl ?_
  intro p e s m args below meth c A C
  refine xaload_0 C dX2_isClosedBy_0 ?_
  refine xiload_1 C dX2_isClosedBy_1 ?_
  refine xcallVi0 C m_X2_isComplete k_X2_28 (c_X2_isComplete l G tc a ko kc ki kr ku x) dX2_isClosedBy_2 0 rfl [0, 1, 2, 3] rfl rfl rfl (by decide) rfl (Nat.le_of_ble_eq_true rfl) ⟨by decide, by decide⟩ ?_
  refine xif_eq C (tgt := 22) dX2_isClosedBy_5 (by decide) (fun h5 => ?_) (fun h5 => ?_)
  · skip
    have h5 := bI0 h5
    refine xiconst C (0) dX2_isClosedBy_22 (by decide) ?_
    exact xzret C dX2_isClosedBy_23 (by first | rfl | exact bI_nar _) (by simp [bI, clb, *]) (rfl)
  · skip
    have h5 := bI1 h5
    refine xaload_0 C dX2_isClosedBy_8 ?_
    refine xget C 0 f_X2_15 dX2_isClosedBy_9 rfl rfl ?_
    refine xiload_1 C dX2_isClosedBy_12 ?_
    refine xiald C 2 dX2_isClosedBy_13 rfl (cpl_in h5) ?_
    refine xiload_2 C dX2_isClosedBy_14 ?_
    refine xicmp_ne C (tgt := 22) dX2_isClosedBy_15 (by decide) (fun h15 => ?_) (fun h15 => ?_)
    · skip
      refine xiconst C (0) dX2_isClosedBy_22 (by decide) ?_
      exact xzret C dX2_isClosedBy_23 (by first | rfl | exact bI_nar _) (by simp [bI, clb, *]) (rfl)
    · skip
      refine xiconst C (1) dX2_isClosedBy_18 (by decide) ?_
      refine xgoto C (tgt := 23) dX2_isClosedBy_19 (by decide) ?_
      exact xzret C dX2_isClosedBy_23 (by first | rfl | exact bI_nar _) (by simp [bI, clb, *]) (rfl)
set_option maxHeartbeats 4000000 in
set_option maxRecDepth 100000 in
theorem c_X2_kindsWithO (l : Launch) (G : va_G) (tc : Nat → ClassId) (a : Nat → Nat) (ko kc ki : Nat → Int32) (kr ku : Int32) (w : Int32) : kI l yX2_kindsWith (xw yX2_kindsWith cX2_kindsWith 5 (some .int)) 1 G tc [.ref (a 0), .ref (a 1), .int w] (wK tc a ko kc ki kr ku) (kw ko kc ko w) (wK tc a ko kc ki kr ku) := by
  refine kI_of [some (.ref (a 0)), some (.ref (a 1)), some (.int w), none, none] 2 (by decide) (Nat.le_of_ble_eq_true rfl) rfl ?_
  intro p e s m args below meth c A C
  have loop : ∀ (n k : Nat) (z : Int32), k + n = 6 → kwG ko kc ko w n k z = kw ko kc ko w → xAT p l e (xR 1 0 0) s m args below meth c (xQi below args s G A (kw ko kc ko w) (wK tc a ko kc ki kr ku)) G A 5 0 0 (wK tc a ko kc ki kr ku) [some (.ref (a 0)), some (.ref (a 1)), some (.int w), some (.int z), some (.int (nI k))] 5 [] := by
    intro n
    induction n with
    | zero =>
      intro k z hk hz
      have hk : k = 6 := hk
      subst hk
      refine xiload_4 C dX2_kindsWith_5 ?_
      refine xbipush C (6) dX2_kindsWith_7 (by decide) ?_
      refine xicmp_ge C (tgt := 49) dX2_kindsWith_9 (by decide) (fun h9 => ?_) (fun h9 => ?_)
      · skip
        refine xiload_3 C dX2_kindsWith_49 ?_
        exact xiret C dX2_kindsWith_50 (hz) (rfl)
      · skip
        exact absurd (Int32.le_refl _) h9
    | succ n ih =>
      intro k z hk hz
      have hk6 : k < 6 := by omega
      refine xiload_4 C dX2_kindsWith_5 ?_
      refine xbipush C (6) dX2_kindsWith_7 (by decide) ?_
      refine xicmp_ge C (tgt := 49) dX2_kindsWith_9 (by decide) (fun h9 => ?_) (fun h9 => ?_)
      · skip
        exact absurd h9 (nI_ge hk6 (by decide))
      · skip
        refine xiload_4 C dX2_kindsWith_12 ?_
        refine xaload_1 C dX2_kindsWith_14 ?_
        refine xialen C 1 dX2_kindsWith_15 rfl ?_
        refine xicmp_ge C (tgt := 49) dX2_kindsWith_16 (by decide) (fun h16 => ?_) (fun h16 => ?_)
        · skip
          exact absurd h16 (nI_ge hk6 (by decide))
        · skip
          refine xaload_1 C dX2_kindsWith_19 ?_
          refine xiload_4 C dX2_kindsWith_20 ?_
          refine xialdN C (k) 1 dX2_kindsWith_22 rfl (hk6) (rfl) (by decide) ?_
          refine xiload_2 C dX2_kindsWith_23 ?_
          refine xicmp_ne C (tgt := 43) dX2_kindsWith_24 (by decide) (fun h24 => ?_) (fun h24 => ?_)
          · skip
            refine xiinc_4 C (nI (k + 1)) dX2_kindsWith_43 (nI_1 k) rfl (by decide) ?_
            refine xgoto C (tgt := 5) dX2_kindsWith_46 (by decide) ?_
            exact ih (k + 1) _ (by omega) (by rw [← hz, kwG, if_neg (by simp [h24])])
          · skip
            refine xaload_0 C dX2_kindsWith_27 ?_
            refine xiload_4 C dX2_kindsWith_28 ?_
            refine xcallVi0 C m_X2_isComplete k_X2_28 (c_X2_isComplete l G tc a ko kc ki kr ku (nI k)) dX2_kindsWith_30 0 rfl [0, 1, 2, 3] rfl rfl rfl (by decide) rfl (Nat.le_of_ble_eq_true rfl) ⟨by decide, by decide⟩ ?_
            refine xif_eq C (tgt := 43) dX2_kindsWith_33 (by decide) (fun h33 => ?_) (fun h33 => ?_)
            · skip
              have h33 := bI0 h33
              refine xiinc_4 C (nI (k + 1)) dX2_kindsWith_43 (nI_1 k) rfl (by decide) ?_
              refine xgoto C (tgt := 5) dX2_kindsWith_46 (by decide) ?_
              exact ih (k + 1) _ (by omega) (by rw [← hz, kwG, if_neg (by simp [h33])])
            · skip
              have h33 := bI1 h33
              refine xiload_3 C dX2_kindsWith_36 ?_
              refine xiconst C (1) dX2_kindsWith_37 (by decide) ?_
              refine xiload_4 C dX2_kindsWith_38 ?_
              refine xishl C dX2_kindsWith_40 ?_
              refine xior C dX2_kindsWith_41 ?_
              refine xistore_3 C dX2_kindsWith_42 rfl (by decide) ?_
              refine xiinc_4 C (nI (k + 1)) dX2_kindsWith_43 (nI_1 k) rfl (by decide) ?_
              refine xgoto C (tgt := 5) dX2_kindsWith_46 (by decide) ?_
              exact ih (k + 1) _ (by omega) (by rw [← hz, kwG, if_pos (by simp [h24, h33])])
  refine xiconst C (0) dX2_kindsWith_0 (by decide) ?_
  refine xistore_3 C dX2_kindsWith_1 rfl (by decide) ?_
  refine xiconst C (0) dX2_kindsWith_2 (by decide) ?_
  refine xistore_4 C dX2_kindsWith_3 rfl (by decide) ?_
  exact loop 6 0 0 rfl rfl
set_option maxHeartbeats 4000000 in
set_option maxRecDepth 100000 in
theorem c_X2_kindsWithC (l : Launch) (G : va_G) (tc : Nat → ClassId) (a : Nat → Nat) (ko kc ki : Nat → Int32) (kr ku : Int32) (w : Int32) : kI l yX2_kindsWith (xw yX2_kindsWith cX2_kindsWith 5 (some .int)) 1 G tc [.ref (a 0), .ref (a 2), .int w] (wK tc a ko kc ki kr ku) (kw ko kc kc w) (wK tc a ko kc ki kr ku) := by
  refine kI_of [some (.ref (a 0)), some (.ref (a 2)), some (.int w), none, none] 2 (by decide) (Nat.le_of_ble_eq_true rfl) rfl ?_
  intro p e s m args below meth c A C
  have loop : ∀ (n k : Nat) (z : Int32), k + n = 6 → kwG ko kc kc w n k z = kw ko kc kc w → xAT p l e (xR 1 0 0) s m args below meth c (xQi below args s G A (kw ko kc kc w) (wK tc a ko kc ki kr ku)) G A 5 0 0 (wK tc a ko kc ki kr ku) [some (.ref (a 0)), some (.ref (a 2)), some (.int w), some (.int z), some (.int (nI k))] 5 [] := by
    intro n
    induction n with
    | zero =>
      intro k z hk hz
      have hk : k = 6 := hk
      subst hk
      refine xiload_4 C dX2_kindsWith_5 ?_
      refine xbipush C (6) dX2_kindsWith_7 (by decide) ?_
      refine xicmp_ge C (tgt := 49) dX2_kindsWith_9 (by decide) (fun h9 => ?_) (fun h9 => ?_)
      · skip
        refine xiload_3 C dX2_kindsWith_49 ?_
        exact xiret C dX2_kindsWith_50 (hz) (rfl)
      · skip
        exact absurd (Int32.le_refl _) h9
    | succ n ih =>
      intro k z hk hz
      have hk6 : k < 6 := by omega
      refine xiload_4 C dX2_kindsWith_5 ?_
      refine xbipush C (6) dX2_kindsWith_7 (by decide) ?_
      refine xicmp_ge C (tgt := 49) dX2_kindsWith_9 (by decide) (fun h9 => ?_) (fun h9 => ?_)
      · skip
        exact absurd h9 (nI_ge hk6 (by decide))
      · skip
        refine xiload_4 C dX2_kindsWith_12 ?_
        refine xaload_1 C dX2_kindsWith_14 ?_
        refine xialen C 2 dX2_kindsWith_15 rfl ?_
        refine xicmp_ge C (tgt := 49) dX2_kindsWith_16 (by decide) (fun h16 => ?_) (fun h16 => ?_)
        · skip
          exact absurd h16 (nI_ge hk6 (by decide))
        · skip
          refine xaload_1 C dX2_kindsWith_19 ?_
          refine xiload_4 C dX2_kindsWith_20 ?_
          refine xialdN C (k) 2 dX2_kindsWith_22 rfl (hk6) (rfl) (by decide) ?_
          refine xiload_2 C dX2_kindsWith_23 ?_
          refine xicmp_ne C (tgt := 43) dX2_kindsWith_24 (by decide) (fun h24 => ?_) (fun h24 => ?_)
          · skip
            refine xiinc_4 C (nI (k + 1)) dX2_kindsWith_43 (nI_1 k) rfl (by decide) ?_
            refine xgoto C (tgt := 5) dX2_kindsWith_46 (by decide) ?_
            exact ih (k + 1) _ (by omega) (by rw [← hz, kwG, if_neg (by simp [h24])])
          · skip
            refine xaload_0 C dX2_kindsWith_27 ?_
            refine xiload_4 C dX2_kindsWith_28 ?_
            refine xcallVi0 C m_X2_isComplete k_X2_28 (c_X2_isComplete l G tc a ko kc ki kr ku (nI k)) dX2_kindsWith_30 0 rfl [0, 1, 2, 3] rfl rfl rfl (by decide) rfl (Nat.le_of_ble_eq_true rfl) ⟨by decide, by decide⟩ ?_
            refine xif_eq C (tgt := 43) dX2_kindsWith_33 (by decide) (fun h33 => ?_) (fun h33 => ?_)
            · skip
              have h33 := bI0 h33
              refine xiinc_4 C (nI (k + 1)) dX2_kindsWith_43 (nI_1 k) rfl (by decide) ?_
              refine xgoto C (tgt := 5) dX2_kindsWith_46 (by decide) ?_
              exact ih (k + 1) _ (by omega) (by rw [← hz, kwG, if_neg (by simp [h33])])
            · skip
              have h33 := bI1 h33
              refine xiload_3 C dX2_kindsWith_36 ?_
              refine xiconst C (1) dX2_kindsWith_37 (by decide) ?_
              refine xiload_4 C dX2_kindsWith_38 ?_
              refine xishl C dX2_kindsWith_40 ?_
              refine xior C dX2_kindsWith_41 ?_
              refine xistore_3 C dX2_kindsWith_42 rfl (by decide) ?_
              refine xiinc_4 C (nI (k + 1)) dX2_kindsWith_43 (nI_1 k) rfl (by decide) ?_
              refine xgoto C (tgt := 5) dX2_kindsWith_46 (by decide) ?_
              exact ih (k + 1) _ (by omega) (by rw [← hz, kwG, if_pos (by simp [h24, h33])])
  refine xiconst C (0) dX2_kindsWith_0 (by decide) ?_
  refine xistore_3 C dX2_kindsWith_1 rfl (by decide) ?_
  refine xiconst C (0) dX2_kindsWith_2 (by decide) ?_
  refine xistore_4 C dX2_kindsWith_3 rfl (by decide) ?_
  exact loop 6 0 0 rfl rfl
set_option maxHeartbeats 4000000 in
set_option maxRecDepth 100000 in
theorem c_X2_openedBy (l : Launch) (G : va_G) (tc : Nat → ClassId) (a : Nat → Nat) (ko kc ki : Nat → Int32) (kr ku : Int32) (w : Int32) : kI l yX2_openedBy (xw yX2_openedBy cX2_openedBy 2 (some .int)) 2 G tc [.ref (a 0), .int w] (wK tc a ko kc ki kr ku) (kw ko kc ko w) (wK tc a ko kc ki kr ku) := by
  refine kI_of [some (.ref (a 0)), some (.int w)] 0 (by decide) (Nat.le_of_ble_eq_true rfl) rfl ?_
  intro p e s m args below meth c A C
  refine xaload_0 C dX2_openedBy_0 ?_
  refine xaload_0 C dX2_openedBy_1 ?_
  refine xget C 0 f_X2_9 dX2_openedBy_2 rfl rfl ?_
  refine xiload_1 C dX2_openedBy_5 ?_
  refine xcallVi0 C m_X2_kindsWith k_X2_32 (c_X2_kindsWithO l G tc a ko kc ki kr ku w) dX2_openedBy_6 0 rfl [0, 1, 2, 3] rfl rfl rfl (by decide) rfl (Nat.le_of_ble_eq_true rfl) ⟨by decide, by decide⟩ ?_
  exact xiret C dX2_openedBy_9 (by first | rfl | (simp [*]; done)) (rfl)
set_option maxHeartbeats 4000000 in
set_option maxRecDepth 100000 in
theorem c_X2_closedBy (l : Launch) (G : va_G) (tc : Nat → ClassId) (a : Nat → Nat) (ko kc ki : Nat → Int32) (kr ku : Int32) (w : Int32) : kI l yX2_closedBy (xw yX2_closedBy cX2_closedBy 2 (some .int)) 2 G tc [.ref (a 0), .int w] (wK tc a ko kc ki kr ku) (kw ko kc kc w) (wK tc a ko kc ki kr ku) := by
  refine kI_of [some (.ref (a 0)), some (.int w)] 0 (by decide) (Nat.le_of_ble_eq_true rfl) rfl ?_
  intro p e s m args below meth c A C
  refine xaload_0 C dX2_closedBy_0 ?_
  refine xaload_0 C dX2_closedBy_1 ?_
  refine xget C 0 f_X2_15 dX2_closedBy_2 rfl rfl ?_
  refine xiload_1 C dX2_closedBy_5 ?_
  refine xcallVi0 C m_X2_kindsWith k_X2_32 (c_X2_kindsWithC l G tc a ko kc ki kr ku w) dX2_closedBy_6 0 rfl [0, 1, 2, 3] rfl rfl rfl (by decide) rfl (Nat.le_of_ble_eq_true rfl) ⟨by decide, by decide⟩ ?_
  exact xiret C dX2_closedBy_9 (by first | rfl | (simp [*]; done)) (rfl)
set_option maxHeartbeats 4000000 in
set_option maxRecDepth 100000 in
theorem c_X2_allowedIn (l : Launch) (G : va_G) (tc : Nat → ClassId) (a : Nat → Nat) (ko kc ki : Nat → Int32) (kr ku : Int32) (x : Int32) : kI l yX2_allowedIn (xw yX2_allowedIn cX2_allowedIn 2 (some .int)) 1 G tc [.ref (a 0), .int x] (wK tc a ko kc ki kr ku) (alw ki kr ku x) (wK tc a ko kc ki kr ku) := by
  refine kI_of [some (.ref (a 0)), some (.int x)] 0 (by decide) (Nat.le_of_ble_eq_true rfl) rfl ?_
  intro p e s m args below meth c A C
  refine xiload_1 C dX2_allowedIn_0 ?_
  refine xbipush C (6) dX2_allowedIn_1 (by decide) ?_
  refine xicmp_ne C (tgt := 11) dX2_allowedIn_3 (by decide) (fun h3 => ?_) (fun h3 => ?_)
  · skip
    refine xiload_1 C dX2_allowedIn_11 ?_
    refine xif_lt C (tgt := 32) dX2_allowedIn_12 (by decide) (fun h12 => ?_) (fun h12 => ?_)
    · skip
      refine xiconst C (0) dX2_allowedIn_32 (by decide) ?_
      exact xiret C dX2_allowedIn_33 (by simp [alw, *]) (rfl)
    · skip
      refine xiload_1 C dX2_allowedIn_15 ?_
      refine xbipush C (6) dX2_allowedIn_16 (by decide) ?_
      refine xicmp_ge C (tgt := 32) dX2_allowedIn_18 (by decide) (fun h18 => ?_) (fun h18 => ?_)
      · skip
        refine xiconst C (0) dX2_allowedIn_32 (by decide) ?_
        exact xiret C dX2_allowedIn_33 (by simp [alw, *]) (rfl)
      · skip
        refine xaload_0 C dX2_allowedIn_21 ?_
        refine xget C 0 f_X2_21 dX2_allowedIn_22 rfl rfl ?_
        refine xiload_1 C dX2_allowedIn_25 ?_
        refine xcallNi0 C m_X5_holdsKind C.E.2.2.1 (c_X5_holdsKind l G tc kr x) dX2_allowedIn_26 ([] : List Nat) rfl rfl rfl (by decide) rfl (Nat.le_of_ble_eq_true rfl) ⟨by decide, by decide⟩ ?_
        refine xif_eq C (tgt := 34) dX2_allowedIn_29 (by decide) (fun h29 => ?_) (fun h29 => ?_)
        · skip
          have h29 := bI0 h29
          refine xaload_0 C dX2_allowedIn_34 ?_
          refine xget C 0 f_X2_18 dX2_allowedIn_35 rfl rfl ?_
          refine xiload_1 C dX2_allowedIn_38 ?_
          refine xiald C 3 dX2_allowedIn_39 rfl (in6 h12 h18) ?_
          exact xiret C dX2_allowedIn_40 (by simp [alw, *]) (rfl)
        · skip
          have h29 := bI1 h29
          refine xiconst C (0) dX2_allowedIn_32 (by decide) ?_
          exact xiret C dX2_allowedIn_33 (by simp [alw, *]) (rfl)
  · skip
    refine xaload_0 C dX2_allowedIn_6 ?_
    refine xget C 0 f_X2_25 dX2_allowedIn_7 rfl rfl ?_
    exact xiret C dX2_allowedIn_10 (by simp [alw, *]) (rfl)
end
section
set_option maxHeartbeats 4000000 in
set_option maxRecDepth 100000 in
theorem c_X1_forget (l : Launch) (G : va_G) (tc : Nat → ClassId) (a : Nat → Nat) (ik ia ie it ip id io : Nat → Int32) (im iq il : Nat) (ir : Bool) : kV l yX1_forget (xw yX1_forget cX1_forget 1 none) 0 G tc [.ref (a 0)] (wI tc a ik ia ie it ip id io im iq il ir) (wI tc a (ik) (ia) (ie) (it) (ip) (id) (io) (im) (iq) (il) (false)) := by
  refine kV_of [some (.ref (a 0))] 0 (by decide) (Nat.le_of_ble_eq_true rfl) rfl ?_
  intro p e s m args below meth c A C
  refine xaload_0 C dX1_forget_0 ?_
  refine xiconst C (0) dX1_forget_1 (by decide) ?_
  refine xput C 0 (wI tc a (ik) (ia) (ie) (it) (ip) (id) (io) (im) (iq) (il) (false)) fw_X1_43 dX1_forget_2 rfl (Nat.le_of_ble_eq_true rfl) rfl rfl rfl ?_
  exact xvret C dX1_forget_5 (rfl)
set_option maxHeartbeats 4000000 in
set_option maxRecDepth 100000 in
theorem c_X1_startReading (l : Launch) (G : va_G) (tc : Nat → ClassId) (a : Nat → Nat) (ik ia ie it ip id io : Nat → Int32) (im iq il : Nat) (ir : Bool) : kV l yX1_startReading (xw yX1_startReading cX1_startReading 1 none) 0 G tc [.ref (a 0)] (wI tc a ik ia ie it ip id io im iq il ir) (wI tc a (ik) (ia) (ie) (it) (ip) (id) (io) (0) (0) (0) (true)) := by
  refine kV_of [some (.ref (a 0))] 0 (by decide) (Nat.le_of_ble_eq_true rfl) rfl ?_
  intro p e s m args below meth c A C
  refine xaload_0 C dX1_startReading_0 ?_
  refine xiconst C (0) dX1_startReading_1 (by decide) ?_
  refine xput C 0 (wI tc a (ik) (ia) (ie) (it) (ip) (id) (io) (0) (iq) (il) (ir)) fw_X1_33 dX1_startReading_2 rfl (Nat.le_of_ble_eq_true rfl) rfl rfl rfl ?_
  refine xaload_0 C dX1_startReading_5 ?_
  refine xiconst C (0) dX1_startReading_6 (by decide) ?_
  refine xput C 0 (wI tc a (ik) (ia) (ie) (it) (ip) (id) (io) (0) (0) (il) (ir)) fw_X1_37 dX1_startReading_7 rfl (Nat.le_of_ble_eq_true rfl) rfl rfl rfl ?_
  refine xaload_0 C dX1_startReading_10 ?_
  refine xiconst C (0) dX1_startReading_11 (by decide) ?_
  refine xput C 0 (wI tc a (ik) (ia) (ie) (it) (ip) (id) (io) (0) (0) (0) (ir)) fw_X1_40 dX1_startReading_12 rfl (Nat.le_of_ble_eq_true rfl) rfl rfl rfl ?_
  refine xaload_0 C dX1_startReading_15 ?_
  refine xiconst C (1) dX1_startReading_16 (by decide) ?_
  refine xput C 0 (wI tc a (ik) (ia) (ie) (it) (ip) (id) (io) (0) (0) (0) (true)) fw_X1_43 dX1_startReading_17 rfl (Nat.le_of_ble_eq_true rfl) rfl rfl rfl ?_
  exact xvret C dX1_startReading_20 (rfl)
set_option maxHeartbeats 4000000 in
set_option maxRecDepth 100000 in
theorem c_X1_openIsland (l : Launch) (G : va_G) (tc : Nat → ClassId) (a : Nat → Nat) (ik ia ie it ip id io : Nat → Int32) (im iq il : Nat) (ir : Bool) (hq : iq ≤ 48) (j : Nat) (hj : j < 1000) : kI l yX1_openIsland (xw yX1_openIsland cX1_openIsland 3 (some .int)) 0 G tc [.ref (a 0), .int (nI j)] (wI tc a ik ia ie it ip id io im iq il ir) (opI io iq j) (wI tc a ik ia ie it ip id io im iq il ir) := by
  refine kI_of [some (.ref (a 0)), some (.int (nI j)), none] 1 (by decide) (Nat.le_of_ble_eq_true rfl) rfl ?_
  intro p e s m args below meth c A C
  refine xaload_0 C dX1_openIsland_0 ?_
  refine xget C 0 f_X1_37 dX1_openIsland_1 rfl rfl ?_
  refine xiconst C (1) dX1_openIsland_4 (by decide) ?_
  refine xisub C dX1_openIsland_5 ?_
  refine xiload_1 C dX1_openIsland_6 ?_
  refine xisub C dX1_openIsland_7 ?_
  by_cases hc : j + 1 ≤ iq
  · rw [opI_row hc]
    refine xistore_2 C dX1_openIsland_8 rfl (by decide) ?_
    refine xiload_2 C dX1_openIsland_9 ?_
    refine xif_lt C (tgt := 19) dX1_openIsland_10 (by decide) (fun h10 => ?_) (fun h10 => ?_)
    · skip
      exact absurd h10 (nI_pos (by omega))
    · skip
      refine xiload_2 C dX1_openIsland_13 ?_
      refine xbipush C (48) dX1_openIsland_14 (by decide) ?_
      refine xicmp_lt C (tgt := 23) dX1_openIsland_16 (by decide) (fun h16 => ?_) (fun h16 => ?_)
      · skip
        refine xaload_0 C dX1_openIsland_23 ?_
        refine xget C 0 f_X1_30 dX1_openIsland_24 rfl rfl ?_
        refine xiload_2 C dX1_openIsland_27 ?_
        refine xialdN C (iq - 1 - j) 7 dX1_openIsland_28 rfl (by omega) (rfl) (by decide) ?_
        exact xiret C dX1_openIsland_29 (by rw [opI, if_pos hc]) (rfl)
      · skip
        exact absurd (show nI (iq - 1 - j) < nI 48 from nI_lt (by omega) (by decide)) h16
  · have hng := opI_neg hc hj
    refine xistore_2 C dX1_openIsland_8 rfl (by decide) ?_
    refine xiload_2 C dX1_openIsland_9 ?_
    refine xif_lt C (tgt := 19) dX1_openIsland_10 (by decide) (fun h10 => ?_) (fun h10 => ?_)
    · skip
      refine xiconst C (-1) dX1_openIsland_19 (by decide) ?_
      refine xgoto C (tgt := 29) dX1_openIsland_20 (by decide) ?_
      exact xiret C dX1_openIsland_29 (by rw [opI, if_neg hc]) (rfl)
    · skip
      exact absurd hng h10
set_option maxHeartbeats 4000000 in
set_option maxRecDepth 100000 in
theorem c_X1_begin (l : Launch) (G : va_G) (tc : Nat → ClassId) (a : Nat → Nat) (ik ia ie it ip id io : Nat → Int32) (im iq il : Nat) (ir : Bool) (hm : im < 48) (hq : iq < 48) (x y : Int32) : kV l yX1_begin (xw yX1_begin cX1_begin 3 none) 1 G tc [.ref (a 0), .int x, .int y] (wI tc a ik ia ie it ip id io im iq il ir) (wI tc a (upd ik im x) (upd ia im y) (ie) (it) (upd ip im (opI io iq 0)) (upd id im (nI iq)) (upd io iq (nI im)) (im + 1) (iq + 1) (il) (ir)) := by
  refine kV_of [some (.ref (a 0)), some (.int x), some (.int y)] 0 (by decide) (Nat.le_of_ble_eq_true rfl) rfl ?_
  intro p e s m args below meth c A C
  refine xaload_0 C dX1_begin_0 ?_
  refine xget C 0 f_X1_33 dX1_begin_1 rfl rfl ?_
  refine xbipush C (48) dX1_begin_4 (by decide) ?_
  refine xicmp_ge C (tgt := 18) dX1_begin_6 (by decide) (fun h6 => ?_) (fun h6 => ?_)
  · skip
    exact absurd h6 (nI_ge hm (by decide))
  · skip
    refine xaload_0 C dX1_begin_9 ?_
    refine xget C 0 f_X1_37 dX1_begin_10 rfl rfl ?_
    refine xbipush C (48) dX1_begin_13 (by decide) ?_
    refine xicmp_lt C (tgt := 19) dX1_begin_15 (by decide) (fun h15 => ?_) (fun h15 => ?_)
    · skip
      refine xaload_0 C dX1_begin_19 ?_
      refine xget C 0 f_X1_9 dX1_begin_20 rfl rfl ?_
      refine xaload_0 C dX1_begin_23 ?_
      refine xget C 0 f_X1_33 dX1_begin_24 rfl rfl ?_
      refine xiload_1 C dX1_begin_27 ?_
      refine xiastN C (im) 1 (wI tc a (upd ik im x) (ia) (ie) (it) (ip) (id) (io) (im) (iq) (il) (ir)) dX1_begin_28 rfl (hm) (rfl) (by decide) rfl ?_
      refine xaload_0 C dX1_begin_29 ?_
      refine xget C 0 f_X1_15 dX1_begin_30 rfl rfl ?_
      refine xaload_0 C dX1_begin_33 ?_
      refine xget C 0 f_X1_33 dX1_begin_34 rfl rfl ?_
      refine xiload_2 C dX1_begin_37 ?_
      refine xiastN C (im) 2 (wI tc a (upd ik im x) (upd ia im y) (ie) (it) (ip) (id) (io) (im) (iq) (il) (ir)) dX1_begin_38 rfl (hm) (rfl) (by decide) rfl ?_
      refine xaload_0 C dX1_begin_39 ?_
      refine xget C 0 f_X1_24 dX1_begin_40 rfl rfl ?_
      refine xaload_0 C dX1_begin_43 ?_
      refine xget C 0 f_X1_33 dX1_begin_44 rfl rfl ?_
      refine xaload_0 C dX1_begin_47 ?_
      refine xiconst C (nI 0) dX1_begin_48 (by decide) ?_
      refine xcallVi0 C m_X1_openIsland k_X1_47 (c_X1_openIsland l G tc a (upd ik im x) (upd ia im y) ie it ip id io im iq il ir (by omega) 0 (by decide)) dX1_begin_49 0 rfl [0, 1, 2, 3, 4, 5, 6, 7] rfl rfl rfl (by decide) rfl (Nat.le_of_ble_eq_true rfl) ⟨by decide, by decide⟩ ?_
      refine xiastN C (im) 5 (wI tc a (upd ik im x) (upd ia im y) (ie) (it) (upd ip im (opI io iq 0)) (id) (io) (im) (iq) (il) (ir)) dX1_begin_52 rfl (hm) (rfl) (by decide) rfl ?_
      refine xaload_0 C dX1_begin_53 ?_
      refine xget C 0 f_X1_27 dX1_begin_54 rfl rfl ?_
      refine xaload_0 C dX1_begin_57 ?_
      refine xget C 0 f_X1_33 dX1_begin_58 rfl rfl ?_
      refine xaload_0 C dX1_begin_61 ?_
      refine xget C 0 f_X1_37 dX1_begin_62 rfl rfl ?_
      refine xiastN C (im) 6 (wI tc a (upd ik im x) (upd ia im y) (ie) (it) (upd ip im (opI io iq 0)) (upd id im (nI iq)) (io) (im) (iq) (il) (ir)) dX1_begin_65 rfl (hm) (rfl) (by decide) rfl ?_
      refine xaload_0 C dX1_begin_66 ?_
      refine xget C 0 f_X1_30 dX1_begin_67 rfl rfl ?_
      refine xaload_0 C dX1_begin_70 ?_
      refine xget C 0 f_X1_37 dX1_begin_71 rfl rfl ?_
      refine xaload_0 C dX1_begin_74 ?_
      refine xget C 0 f_X1_33 dX1_begin_75 rfl rfl ?_
      refine xiastN C (iq) 7 (wI tc a (upd ik im x) (upd ia im y) (ie) (it) (upd ip im (opI io iq 0)) (upd id im (nI iq)) (upd io iq (nI im)) (im) (iq) (il) (ir)) dX1_begin_78 rfl (hq) (rfl) (by decide) rfl ?_
      refine xaload_0 C dX1_begin_79 ?_
      refine xdup C dX1_begin_80 rfl ?_
      refine xget C 0 f_X1_37 dX1_begin_81 rfl rfl ?_
      refine xiconst C (1) dX1_begin_84 (by decide) ?_
      refine xiadd C dX1_begin_85 ?_
      refine xtop (w := .int (nI (iq + 1))) (congrArg Value.int (nI_1 iq)) ?_
      refine xput C 0 (wI tc a (upd ik im x) (upd ia im y) (ie) (it) (upd ip im (opI io iq 0)) (upd id im (nI iq)) (upd io iq (nI im)) (im) (iq + 1) (il) (ir)) fw_X1_37 dX1_begin_86 rfl (Nat.le_of_ble_eq_true rfl) rfl rfl rfl ?_
      refine xaload_0 C dX1_begin_89 ?_
      refine xdup C dX1_begin_90 rfl ?_
      refine xget C 0 f_X1_33 dX1_begin_91 rfl rfl ?_
      refine xiconst C (1) dX1_begin_94 (by decide) ?_
      refine xiadd C dX1_begin_95 ?_
      refine xtop (w := .int (nI (im + 1))) (congrArg Value.int (nI_1 im)) ?_
      refine xput C 0 (wI tc a (upd ik im x) (upd ia im y) (ie) (it) (upd ip im (opI io iq 0)) (upd id im (nI iq)) (upd io iq (nI im)) (im + 1) (iq + 1) (il) (ir)) fw_X1_33 dX1_begin_96 rfl (Nat.le_of_ble_eq_true rfl) rfl rfl rfl ?_
      exact xvret C dX1_begin_99 (rfl)
    · skip
      exact absurd (nI_lt hq (by decide)) h15
set_option maxHeartbeats 4000000 in
set_option maxRecDepth 100000 in
theorem c_X1_finish (l : Launch) (G : va_G) (tc : Nat → ClassId) (a : Nat → Nat) (ik ia ie it ip id io : Nat → Int32) (im iq il : Nat) (ir : Bool) (hq : iq + 1 ≤ 48) (j : Nat) (hj : j < 48) (hio : io iq = nI j) (x y : Int32) : kV l yX1_finish (xw yX1_finish cX1_finish 4 none) 1 G tc [.ref (a 0), .int x, .int y] (wI tc a (ik) (ia) (ie) (it) (ip) (id) (io) (im) (iq + 1) (il) (ir)) (wI tc a (ik) (ia) (upd ie j x) (upd it j y) (ip) (id) (io) (im) (iq) (il) (ir)) := by
  refine kV_of [some (.ref (a 0)), some (.int x), some (.int y), none] 1 (by decide) (Nat.le_of_ble_eq_true rfl) rfl ?_
  intro p e s m args below meth c A C
  refine xaload_0 C dX1_finish_0 ?_
  refine xiconst C (nI 0) dX1_finish_1 (by decide) ?_
  refine xcallVi0 C m_X1_openIsland k_X1_47 (c_X1_openIsland l G tc a ik ia ie it ip id io im (iq + 1) il ir hq 0 (by decide)) dX1_finish_2 0 rfl [0, 1, 2, 3, 4, 5, 6, 7] rfl rfl rfl (by decide) rfl (Nat.le_of_ble_eq_true rfl) ⟨by decide, by decide⟩ ?_
  rw [show opI io (iq + 1) 0 = nI j from hio]
  refine xistore_3 C dX1_finish_5 rfl (by decide) ?_
  refine xiload_3 C dX1_finish_6 ?_
  refine xiconst C (-1) dX1_finish_7 (by decide) ?_
  refine xicmp_eq C (tgt := 35) dX1_finish_8 (by decide) (fun h8 => ?_) (fun h8 => ?_)
  · skip
    exact absurd h8 (nI_m1 (by omega))
  · skip
    refine xaload_0 C dX1_finish_11 ?_
    refine xget C 0 f_X1_18 dX1_finish_12 rfl rfl ?_
    refine xiload_3 C dX1_finish_15 ?_
    refine xiload_1 C dX1_finish_16 ?_
    refine xiastN C (j) 3 (wI tc a (ik) (ia) (upd ie j x) (it) (ip) (id) (io) (im) (iq + 1) (il) (ir)) dX1_finish_17 rfl (hj) (rfl) (by decide) rfl ?_
    refine xaload_0 C dX1_finish_18 ?_
    refine xget C 0 f_X1_21 dX1_finish_19 rfl rfl ?_
    refine xiload_3 C dX1_finish_22 ?_
    refine xiload_2 C dX1_finish_23 ?_
    refine xiastN C (j) 4 (wI tc a (ik) (ia) (upd ie j x) (upd it j y) (ip) (id) (io) (im) (iq + 1) (il) (ir)) dX1_finish_24 rfl (hj) (rfl) (by decide) rfl ?_
    refine xaload_0 C dX1_finish_25 ?_
    refine xdup C dX1_finish_26 rfl ?_
    refine xget C 0 f_X1_37 dX1_finish_27 rfl rfl ?_
    refine xiconst C (1) dX1_finish_30 (by decide) ?_
    refine xisub C dX1_finish_31 ?_
    refine xtop (w := .int (nI iq)) (congrArg Value.int (nI_pred iq)) ?_
    refine xput C 0 (wI tc a (ik) (ia) (upd ie j x) (upd it j y) (ip) (id) (io) (im) (iq) (il) (ir)) fw_X1_37 dX1_finish_32 rfl (Nat.le_of_ble_eq_true rfl) rfl rfl rfl ?_
    exact xvret C dX1_finish_35 (rfl)
set_option maxHeartbeats 4000000 in
set_option maxRecDepth 100000 in
theorem c_X1_openKind (l : Launch) (G : va_G) (tc : Nat → ClassId) (a : Nat → Nat) (ik ia ie it ip id io : Nat → Int32) (im iq il : Nat) (ir : Bool) (hq : iq ≤ 48) (hm : im ≤ 48) (hio : opOk io iq im) (j : Nat) (hj : j < 1000) : kI l yX1_openKind (xw yX1_openKind cX1_openKind 3 (some .int)) 1 G tc [.ref (a 0), .int (nI j)] (wI tc a ik ia ie it ip id io im iq il ir) (okd ik io iq j) (wI tc a ik ia ie it ip id io im iq il ir) := by
  refine kI_of [some (.ref (a 0)), some (.int (nI j)), none] 1 (by decide) (Nat.le_of_ble_eq_true rfl) rfl ?_
  intro p e s m args below meth c A C
  refine xaload_0 C dX1_openKind_0 ?_
  refine xiload_1 C dX1_openKind_1 ?_
  refine xcallVi0 C m_X1_openIsland k_X1_47 (c_X1_openIsland l G tc a ik ia ie it ip id io im iq il ir hq j hj) dX1_openKind_2 0 rfl [0, 1, 2, 3, 4, 5, 6, 7] rfl rfl rfl (by decide) rfl (Nat.le_of_ble_eq_true rfl) ⟨by decide, by decide⟩ ?_
  by_cases hc : j + 1 ≤ iq
  · rw [show opI io iq j = io (iq - 1 - j) from if_pos hc]
    obtain ⟨t, ht0, ht⟩ := hio (iq - 1 - j) (by omega)
    have htl : t < 48 := by omega
    refine xistore_2 C dX1_openKind_5 rfl (by decide) ?_
    refine xiload_2 C dX1_openKind_6 ?_
    refine xiconst C (-1) dX1_openKind_7 (by decide) ?_
    refine xicmp_ne C (tgt := 16) dX1_openKind_8 (by decide) (fun h8 => ?_) (fun h8 => ?_)
    · skip
      refine xaload_0 C dX1_openKind_16 ?_
      refine xget C 0 f_X1_9 dX1_openKind_17 rfl rfl ?_
      refine xiload_2 C dX1_openKind_20 ?_
      refine xialdN C (t) 1 dX1_openKind_21 rfl (htl) (ht) (by decide) ?_
      exact xiret C dX1_openKind_22 (by rw [okd, if_pos hc, show (io (iq - 1 - j)).toNatClampNeg = t by rw [ht]; exact nI_clamp (by omega)]) (rfl)
    · skip
      exact absurd (ht.symm.trans h8) (nI_m1 (by omega))
  · rw [show opI io iq j = -1 from if_neg hc]
    refine xistore_2 C dX1_openKind_5 rfl (by decide) ?_
    refine xiload_2 C dX1_openKind_6 ?_
    refine xiconst C (-1) dX1_openKind_7 (by decide) ?_
    refine xicmp_ne C (tgt := 16) dX1_openKind_8 (by decide) (fun h8 => ?_) (fun h8 => ?_)
    · skip
      exact absurd rfl h8
    · skip
      refine xbipush C (6) dX1_openKind_11 (by decide) ?_
      refine xgoto C (tgt := 22) dX1_openKind_13 (by decide) ?_
      exact xiret C dX1_openKind_22 (by rw [okd, if_neg hc]) (rfl)
set_option maxHeartbeats 4000000 in
set_option maxRecDepth 100000 in
theorem c_X1_innermostKind (l : Launch) (G : va_G) (tc : Nat → ClassId) (a : Nat → Nat) (ik ia ie it ip id io : Nat → Int32) (im iq il : Nat) (ir : Bool) (hq : iq ≤ 48) (hm : im ≤ 48) (hio : opOk io iq im) : kI l yX1_innermostKind (xw yX1_innermostKind cX1_innermostKind 1 (some .int)) 2 G tc [.ref (a 0)] (wI tc a ik ia ie it ip id io im iq il ir) (okd ik io iq 0) (wI tc a ik ia ie it ip id io im iq il ir) := by
  refine kI_of [some (.ref (a 0))] 0 (by decide) (Nat.le_of_ble_eq_true rfl) rfl ?_
  intro p e s m args below meth c A C
  refine xaload_0 C dX1_innermostKind_0 ?_
  refine xiconst C (nI 0) dX1_innermostKind_1 (by decide) ?_
  refine xcallVi0 C m_X1_openKind k_X1_51 (c_X1_openKind l G tc a ik ia ie it ip id io im iq il ir hq hm hio 0 (by decide)) dX1_innermostKind_2 0 rfl [0, 1, 2, 3, 4, 5, 6, 7] rfl rfl rfl (by decide) rfl (Nat.le_of_ble_eq_true rfl) ⟨by decide, by decide⟩ ?_
  exact xiret C dX1_innermostKind_5 (by first | rfl | (simp [*]; done)) (rfl)
set_option maxHeartbeats 4000000 in
set_option maxRecDepth 100000 in
theorem c_X1_bytesOfChildren (l : Launch) (G : va_G) (tc : Nat → ClassId) (a : Nat → Nat) (ik ia ie it ip id io : Nat → Int32) (im iq il : Nat) (ir : Bool) (hm : im ≤ 48) (x : Int32) : kI l yX1_bytesOfChildren (xw yX1_bytesOfChildren cX1_bytesOfChildren 4 (some .int)) 0 G tc [.ref (a 0), .int x] (wI tc a ik ia ie it ip id io im iq il ir) (bocG ip ie ia x im 0 0) (wI tc a ik ia ie it ip id io im iq il ir) := by
  refine kI_of [some (.ref (a 0)), some (.int x), none, none] 2 (by decide) (Nat.le_of_ble_eq_true rfl) rfl ?_
  intro p e s m args below meth c A C
  have loop : ∀ (n k : Nat) (z : Int32), k + n = im → bocG ip ie ia x n k z = bocG ip ie ia x im 0 0 → xAT p l e (xR 0 0 0) s m args below meth c (xQi below args s G A (bocG ip ie ia x im 0 0) (wI tc a ik ia ie it ip id io im iq il ir)) G A 4 0 0 (wI tc a ik ia ie it ip id io im iq il ir) [some (.ref (a 0)), some (.int x), some (.int z), some (.int (nI k))] 4 [] := by
    intro n
    induction n with
    | zero =>
      intro k z hk hz
      have hk : k = im := hk
      subst hk
      refine xiload_3 C dX1_bytesOfChildren_4 ?_
      refine xaload_0 C dX1_bytesOfChildren_5 ?_
      refine xget C 0 f_X1_33 dX1_bytesOfChildren_6 rfl rfl ?_
      refine xicmp_ge C (tgt := 44) dX1_bytesOfChildren_9 (by decide) (fun h9 => ?_) (fun h9 => ?_)
      · skip
        refine xiload_2 C dX1_bytesOfChildren_44 ?_
        exact xiret C dX1_bytesOfChildren_45 (hz) (rfl)
      · skip
        exact absurd (Int32.le_refl _) h9
    | succ n ih =>
      intro k z hk hz
      have hkm : k < im := by omega
      refine xiload_3 C dX1_bytesOfChildren_4 ?_
      refine xaload_0 C dX1_bytesOfChildren_5 ?_
      refine xget C 0 f_X1_33 dX1_bytesOfChildren_6 rfl rfl ?_
      refine xicmp_ge C (tgt := 44) dX1_bytesOfChildren_9 (by decide) (fun h9 => ?_) (fun h9 => ?_)
      · skip
        exact absurd h9 (nI_ge hkm (by omega))
      · skip
        refine xaload_0 C dX1_bytesOfChildren_12 ?_
        refine xget C 0 f_X1_24 dX1_bytesOfChildren_13 rfl rfl ?_
        refine xiload_3 C dX1_bytesOfChildren_16 ?_
        refine xialdN C (k) 5 dX1_bytesOfChildren_17 rfl (by omega) (rfl) (by decide) ?_
        refine xiload_1 C dX1_bytesOfChildren_18 ?_
        refine xicmp_ne C (tgt := 38) dX1_bytesOfChildren_19 (by decide) (fun h19 => ?_) (fun h19 => ?_)
        · skip
          refine xiinc_3 C (nI (k + 1)) dX1_bytesOfChildren_38 (nI_1 k) rfl (by decide) ?_
          refine xgoto C (tgt := 4) dX1_bytesOfChildren_41 (by decide) ?_
          exact ih (k + 1) _ (by omega) (by rw [← hz, bocG, if_neg h19])
        · skip
          refine xiload_2 C dX1_bytesOfChildren_22 ?_
          refine xaload_0 C dX1_bytesOfChildren_23 ?_
          refine xget C 0 f_X1_18 dX1_bytesOfChildren_24 rfl rfl ?_
          refine xiload_3 C dX1_bytesOfChildren_27 ?_
          refine xialdN C (k) 3 dX1_bytesOfChildren_28 rfl (by omega) (rfl) (by decide) ?_
          refine xaload_0 C dX1_bytesOfChildren_29 ?_
          refine xget C 0 f_X1_15 dX1_bytesOfChildren_30 rfl rfl ?_
          refine xiload_3 C dX1_bytesOfChildren_33 ?_
          refine xialdN C (k) 2 dX1_bytesOfChildren_34 rfl (by omega) (rfl) (by decide) ?_
          refine xisub C dX1_bytesOfChildren_35 ?_
          refine xiadd C dX1_bytesOfChildren_36 ?_
          refine xistore_2 C dX1_bytesOfChildren_37 rfl (by decide) ?_
          refine xiinc_3 C (nI (k + 1)) dX1_bytesOfChildren_38 (nI_1 k) rfl (by decide) ?_
          refine xgoto C (tgt := 4) dX1_bytesOfChildren_41 (by decide) ?_
          exact ih (k + 1) _ (by omega) (by rw [← hz, bocG, if_pos h19])
  refine xiconst C (0) dX1_bytesOfChildren_0 (by decide) ?_
  refine xistore_2 C dX1_bytesOfChildren_1 rfl (by decide) ?_
  refine xiconst C (0) dX1_bytesOfChildren_2 (by decide) ?_
  refine xistore_3 C dX1_bytesOfChildren_3 rfl (by decide) ?_
  exact loop im 0 0 (by omega) rfl
set_option maxHeartbeats 4000000 in
set_option maxRecDepth 100000 in
theorem c_X1_innermostAround (l : Launch) (G : va_G) (tc : Nat → ClassId) (a : Nat → Nat) (ik ia ie it ip id io : Nat → Int32) (im iq il : Nat) (ir : Bool) (hm : im ≤ 48) (x : Int32) : kI l yX1_innermostAround (xw yX1_innermostAround cX1_innermostAround 3 (some .int)) 0 G tc [.ref (a 0), .int x] (wI tc a ik ia ie it ip id io im iq il ir) (iaG ia ie x im) (wI tc a ik ia ie it ip id io im iq il ir) := by
  refine kI_of [some (.ref (a 0)), some (.int x), none] 1 (by decide) (Nat.le_of_ble_eq_true rfl) rfl ?_
  intro p e s m args below meth c A C
  have loop : ∀ (n : Nat), n ≤ im → iaG ia ie x n = iaG ia ie x im → xAT p l e (xR 0 0 0) s m args below meth c (xQi below args s G A (iaG ia ie x im) (wI tc a ik ia ie it ip id io im iq il ir)) G A 3 0 0 (wI tc a ik ia ie it ip id io im iq il ir) [some (.ref (a 0)), some (.int x), some (.int (nI n - 1))] 7 [] := by
    intro n
    induction n with
    | zero =>
      intro hk hz
      refine xiload_2 C dX1_innermostAround_7 ?_
      refine xif_lt C (tgt := 39) dX1_innermostAround_8 (by decide) (fun h8 => ?_) (fun h8 => ?_)
      · skip
        refine xiconst C (-1) dX1_innermostAround_39 (by decide) ?_
        exact xiret C dX1_innermostAround_40 (hz) (rfl)
      · skip
        exact absurd (by decide) h8
    | succ n ih =>
      intro hk hz
      rw [nI_pred]
      refine xiload_2 C dX1_innermostAround_7 ?_
      refine xif_lt C (tgt := 39) dX1_innermostAround_8 (by decide) (fun h8 => ?_) (fun h8 => ?_)
      · skip
        exact absurd h8 (nI_pos (by omega))
      · skip
        refine xaload_0 C dX1_innermostAround_11 ?_
        refine xget C 0 f_X1_15 dX1_innermostAround_12 rfl rfl ?_
        refine xiload_2 C dX1_innermostAround_15 ?_
        refine xialdN C (n) 2 dX1_innermostAround_16 rfl (by omega) (rfl) (by decide) ?_
        refine xiload_1 C dX1_innermostAround_17 ?_
        refine xicmp_gt C (tgt := 33) dX1_innermostAround_18 (by decide) (fun h18 => ?_) (fun h18 => ?_)
        · skip
          refine xiinc_2 C (nI n - 1) dX1_innermostAround_33 (i32_m1 _) rfl (by decide) ?_
          refine xgoto C (tgt := 7) dX1_innermostAround_36 (by decide) ?_
          exact ih (by omega) (by rw [← hz, iaG, if_neg (by simp [h18])])
        · skip
          refine xiload_1 C dX1_innermostAround_21 ?_
          refine xaload_0 C dX1_innermostAround_22 ?_
          refine xget C 0 f_X1_18 dX1_innermostAround_23 rfl rfl ?_
          refine xiload_2 C dX1_innermostAround_26 ?_
          refine xialdN C (n) 3 dX1_innermostAround_27 rfl (by omega) (rfl) (by decide) ?_
          refine xicmp_ge C (tgt := 33) dX1_innermostAround_28 (by decide) (fun h28 => ?_) (fun h28 => ?_)
          · skip
            refine xiinc_2 C (nI n - 1) dX1_innermostAround_33 (i32_m1 _) rfl (by decide) ?_
            refine xgoto C (tgt := 7) dX1_innermostAround_36 (by decide) ?_
            exact ih (by omega) (by rw [← hz, iaG, if_neg (by simp [h18, h28])])
          · skip
            refine xiload_2 C dX1_innermostAround_31 ?_
            exact xiret C dX1_innermostAround_32 (by rw [← hz, iaG, if_pos (by simp [h18, h28])]) (rfl)
  refine xaload_0 C dX1_innermostAround_0 ?_
  refine xget C 0 f_X1_33 dX1_innermostAround_1 rfl rfl ?_
  refine xiconst C (1) dX1_innermostAround_4 (by decide) ?_
  refine xisub C dX1_innermostAround_5 ?_
  refine xistore_2 C dX1_innermostAround_6 rfl (by decide) ?_
  exact loop im (Nat.le_refl _) rfl
end
