section
-- ===== PART A: goes FIRST, ahead of the names: the tables' words, and 'selects' of the private methods out of them =====
/-- a private method of a class that the tables say can be made, by its rows of tables_1 -/
def lw_okq (q : MethodName × Nat) : Prop := (q.1.cls ≠ "java/lang/invoke/MethodHandle" ∧ q.1.cls ≠ "java/lang/invoke/VarHandle") ∧ Cond.instantiable q.1.cls q.2 ∈ tables_1 ∧ Cond.privateMethod q.1 ∈ tables_1 ∧ Cond.instanceMethod q.1 ∈ tables_1
theorem lw_p0 : lw_okq (⟨"ShellPeel", "refused", "(ZI)Z"⟩, 7) := ⟨⟨by decide +kernel, by decide +kernel⟩, List.mem_of_getElem? (i := 20) (by decide +kernel), List.mem_of_getElem? (i := 247) (by decide +kernel), List.mem_of_getElem? (i := 248) (by decide +kernel)⟩
theorem lw_p1 : lw_okq (⟨"ShellPeel$Tape", "readLine", "()Z"⟩, 13) := ⟨⟨by decide +kernel, by decide +kernel⟩, List.mem_of_getElem? (i := 28) (by decide +kernel), List.mem_of_getElem? (i := 261) (by decide +kernel), List.mem_of_getElem? (i := 262) (by decide +kernel)⟩
theorem lw_p2 : lw_okq (⟨"ShellPeel$Tape", "step", "()V"⟩, 13) := ⟨⟨by decide +kernel, by decide +kernel⟩, List.mem_of_getElem? (i := 28) (by decide +kernel), List.mem_of_getElem? (i := 265) (by decide +kernel), List.mem_of_getElem? (i := 266) (by decide +kernel)⟩
theorem lw_p3 : lw_okq (⟨"ShellPeel$Tape", "passLetters", "()I"⟩, 13) := ⟨⟨by decide +kernel, by decide +kernel⟩, List.mem_of_getElem? (i := 28) (by decide +kernel), List.mem_of_getElem? (i := 272) (by decide +kernel), List.mem_of_getElem? (i := 273) (by decide +kernel)⟩
theorem lw_p4 : lw_okq (⟨"ShellPeel$Tape", "passDigits", "()I"⟩, 13) := ⟨⟨by decide +kernel, by decide +kernel⟩, List.mem_of_getElem? (i := 28) (by decide +kernel), List.mem_of_getElem? (i := 279) (by decide +kernel), List.mem_of_getElem? (i := 280) (by decide +kernel)⟩
theorem lw_p5 : lw_okq (⟨"ShellPeel$Tape", "wordIs", "(Ljava/lang/String;)Z"⟩, 13) := ⟨⟨by decide +kernel, by decide +kernel⟩, List.mem_of_getElem? (i := 28) (by decide +kernel), List.mem_of_getElem? (i := 284) (by decide +kernel), List.mem_of_getElem? (i := 285) (by decide +kernel)⟩
theorem lw_p6 : lw_okq (⟨"ShellPeel$Tape", "readHead", "()Z"⟩, 13) := ⟨⟨by decide +kernel, by decide +kernel⟩, List.mem_of_getElem? (i := 28) (by decide +kernel), List.mem_of_getElem? (i := 336) (by decide +kernel), List.mem_of_getElem? (i := 337) (by decide +kernel)⟩
theorem lw_p7 : lw_okq (⟨"ShellPeel$Tape", "failed", "(I)Z"⟩, 13) := ⟨⟨by decide +kernel, by decide +kernel⟩, List.mem_of_getElem? (i := 28) (by decide +kernel), List.mem_of_getElem? (i := 340) (by decide +kernel), List.mem_of_getElem? (i := 341) (by decide +kernel)⟩
theorem lw_p8 : lw_okq (⟨"ShellPeel$Tape", "meets", "(Ljava/lang/String;)Z"⟩, 13) := ⟨⟨by decide +kernel, by decide +kernel⟩, List.mem_of_getElem? (i := 28) (by decide +kernel), List.mem_of_getElem? (i := 345) (by decide +kernel), List.mem_of_getElem? (i := 346) (by decide +kernel)⟩
theorem lw_p9 : lw_okq (⟨"ShellPeel$Tape", "meetsWhole", "(I)Z"⟩, 13) := ⟨⟨by decide +kernel, by decide +kernel⟩, List.mem_of_getElem? (i := 28) (by decide +kernel), List.mem_of_getElem? (i := 349) (by decide +kernel), List.mem_of_getElem? (i := 350) (by decide +kernel)⟩
theorem lw_p10 : lw_okq (⟨"ShellPeel$Tape", "readFacet", "()Z"⟩, 13) := ⟨⟨by decide +kernel, by decide +kernel⟩, List.mem_of_getElem? (i := 28) (by decide +kernel), List.mem_of_getElem? (i := 355) (by decide +kernel), List.mem_of_getElem? (i := 356) (by decide +kernel)⟩
theorem lw_p11 : lw_okq (⟨"ShellPeel$Tape", "wordSet", "()I"⟩, 13) := ⟨⟨by decide +kernel, by decide +kernel⟩, List.mem_of_getElem? (i := 28) (by decide +kernel), List.mem_of_getElem? (i := 359) (by decide +kernel), List.mem_of_getElem? (i := 360) (by decide +kernel)⟩
theorem lw_p12 : lw_okq (⟨"ShellPeel", "renew", "()V"⟩, 7) := ⟨⟨by decide +kernel, by decide +kernel⟩, List.mem_of_getElem? (i := 20) (by decide +kernel), List.mem_of_getElem? (i := 372) (by decide +kernel), List.mem_of_getElem? (i := 373) (by decide +kernel)⟩
theorem lw_p13 : lw_okq (⟨"ShellPeel$Facets", "recountHaving", "()V"⟩, 7) := ⟨⟨by decide +kernel, by decide +kernel⟩, List.mem_of_getElem? (i := 82) (by decide +kernel), List.mem_of_getElem? (i := 380) (by decide +kernel), List.mem_of_getElem? (i := 381) (by decide +kernel)⟩
theorem lw_p14 : lw_okq (⟨"ShellPeel$Facets", "recountLying", "()V"⟩, 7) := ⟨⟨by decide +kernel, by decide +kernel⟩, List.mem_of_getElem? (i := 82) (by decide +kernel), List.mem_of_getElem? (i := 384) (by decide +kernel), List.mem_of_getElem? (i := 385) (by decide +kernel)⟩
theorem lw_p15 : lw_okq (⟨"ShellPeel$Facets", "recountAcross", "()V"⟩, 7) := ⟨⟨by decide +kernel, by decide +kernel⟩, List.mem_of_getElem? (i := 82) (by decide +kernel), List.mem_of_getElem? (i := 392) (by decide +kernel), List.mem_of_getElem? (i := 393) (by decide +kernel)⟩
def lw_privs_1 : List (MethodName × Nat) := [(⟨"ShellPeel", "refused", "(ZI)Z"⟩, 7), (⟨"ShellPeel$Tape", "readLine", "()Z"⟩, 13), (⟨"ShellPeel$Tape", "step", "()V"⟩, 13), (⟨"ShellPeel$Tape", "passLetters", "()I"⟩, 13), (⟨"ShellPeel$Tape", "passDigits", "()I"⟩, 13), (⟨"ShellPeel$Tape", "wordIs", "(Ljava/lang/String;)Z"⟩, 13), (⟨"ShellPeel$Tape", "readHead", "()Z"⟩, 13), (⟨"ShellPeel$Tape", "failed", "(I)Z"⟩, 13), (⟨"ShellPeel$Tape", "meets", "(Ljava/lang/String;)Z"⟩, 13), (⟨"ShellPeel$Tape", "meetsWhole", "(I)Z"⟩, 13), (⟨"ShellPeel$Tape", "readFacet", "()Z"⟩, 13), (⟨"ShellPeel$Tape", "wordSet", "()I"⟩, 13), (⟨"ShellPeel", "renew", "()V"⟩, 7), (⟨"ShellPeel$Facets", "recountHaving", "()V"⟩, 7), (⟨"ShellPeel$Facets", "recountLying", "()V"⟩, 7), (⟨"ShellPeel$Facets", "recountAcross", "()V"⟩, 7)]
theorem lw_r1 : ∀ q ∈ lw_privs_1, lw_okq q := List.forall_mem_cons.mpr ⟨lw_p0, List.forall_mem_cons.mpr ⟨lw_p1, List.forall_mem_cons.mpr ⟨lw_p2, List.forall_mem_cons.mpr ⟨lw_p3, List.forall_mem_cons.mpr ⟨lw_p4, List.forall_mem_cons.mpr ⟨lw_p5, List.forall_mem_cons.mpr ⟨lw_p6, List.forall_mem_cons.mpr ⟨lw_p7, List.forall_mem_cons.mpr ⟨lw_p8, List.forall_mem_cons.mpr ⟨lw_p9, List.forall_mem_cons.mpr ⟨lw_p10, List.forall_mem_cons.mpr ⟨lw_p11, List.forall_mem_cons.mpr ⟨lw_p12, List.forall_mem_cons.mpr ⟨lw_p13, List.forall_mem_cons.mpr ⟨lw_p14, List.forall_mem_cons.mpr ⟨lw_p15, fun _ h => absurd h List.not_mem_nil⟩⟩⟩⟩⟩⟩⟩⟩⟩⟩⟩⟩⟩⟩⟩⟩
theorem lw_p16 : lw_okq (⟨"ShellPeel", "isEmpty", "()Z"⟩, 7) := ⟨⟨by decide +kernel, by decide +kernel⟩, List.mem_of_getElem? (i := 20) (by decide +kernel), List.mem_of_getElem? (i := 409) (by decide +kernel), List.mem_of_getElem? (i := 410) (by decide +kernel)⟩
theorem lw_p17 : lw_okq (⟨"ShellPeel", "refusesSet", "(I)Z"⟩, 7) := ⟨⟨by decide +kernel, by decide +kernel⟩, List.mem_of_getElem? (i := 20) (by decide +kernel), List.mem_of_getElem? (i := 454) (by decide +kernel), List.mem_of_getElem? (i := 455) (by decide +kernel)⟩
theorem lw_p18 : lw_okq (⟨"ShellPeel", "refusesEmpty", "()Z"⟩, 7) := ⟨⟨by decide +kernel, by decide +kernel⟩, List.mem_of_getElem? (i := 20) (by decide +kernel), List.mem_of_getElem? (i := 458) (by decide +kernel), List.mem_of_getElem? (i := 459) (by decide +kernel)⟩
theorem lw_p19 : lw_okq (⟨"ShellPeel", "refusesUpTo", "(II)Z"⟩, 7) := ⟨⟨by decide +kernel, by decide +kernel⟩, List.mem_of_getElem? (i := 20) (by decide +kernel), List.mem_of_getElem? (i := 478) (by decide +kernel), List.mem_of_getElem? (i := 479) (by decide +kernel)⟩
theorem lw_p20 : lw_okq (⟨"ShellPeel$Halves", "clear", "()V"⟩, 6) := ⟨⟨by decide +kernel, by decide +kernel⟩, List.mem_of_getElem? (i := 137) (by decide +kernel), List.mem_of_getElem? (i := 519) (by decide +kernel), List.mem_of_getElem? (i := 520) (by decide +kernel)⟩
theorem lw_p21 : lw_okq (⟨"ShellPeel$Halves", "rowOf", "(I)J"⟩, 6) := ⟨⟨by decide +kernel, by decide +kernel⟩, List.mem_of_getElem? (i := 137) (by decide +kernel), List.mem_of_getElem? (i := 523) (by decide +kernel), List.mem_of_getElem? (i := 524) (by decide +kernel)⟩
theorem lw_p22 : lw_okq (⟨"ShellPeel$Halves", "settle", "(JI)Z"⟩, 6) := ⟨⟨by decide +kernel, by decide +kernel⟩, List.mem_of_getElem? (i := 137) (by decide +kernel), List.mem_of_getElem? (i := 527) (by decide +kernel), List.mem_of_getElem? (i := 528) (by decide +kernel)⟩
theorem lw_p23 : lw_okq (⟨"ShellPeel$Halves", "countOf", "(I)I"⟩, 6) := ⟨⟨by decide +kernel, by decide +kernel⟩, List.mem_of_getElem? (i := 137) (by decide +kernel), List.mem_of_getElem? (i := 539) (by decide +kernel), List.mem_of_getElem? (i := 540) (by decide +kernel)⟩
theorem lw_p24 : lw_okq (⟨"ShellPeel", "refusesPlace", "(I)Z"⟩, 7) := ⟨⟨by decide +kernel, by decide +kernel⟩, List.mem_of_getElem? (i := 20) (by decide +kernel), List.mem_of_getElem? (i := 578) (by decide +kernel), List.mem_of_getElem? (i := 579) (by decide +kernel)⟩
theorem lw_p25 : lw_okq (⟨"ShellPeel$Row", "isSpanning", "(LShellPeel$Facets;I)Z"⟩, 1) := ⟨⟨by decide +kernel, by decide +kernel⟩, List.mem_of_getElem? (i := 126) (by decide +kernel), List.mem_of_getElem? (i := 641) (by decide +kernel), List.mem_of_getElem? (i := 642) (by decide +kernel)⟩
theorem lw_p26 : lw_okq (⟨"ShellPeel$Row", "isLeap", "(LShellPeel$Facets;II)Z"⟩, 1) := ⟨⟨by decide +kernel, by decide +kernel⟩, List.mem_of_getElem? (i := 126) (by decide +kernel), List.mem_of_getElem? (i := 710) (by decide +kernel), List.mem_of_getElem? (i := 711) (by decide +kernel)⟩
theorem lw_p27 : lw_okq (⟨"ShellPeel$Row", "leapOver", "(LShellPeel$Facets;II)I"⟩, 1) := ⟨⟨by decide +kernel, by decide +kernel⟩, List.mem_of_getElem? (i := 126) (by decide +kernel), List.mem_of_getElem? (i := 714) (by decide +kernel), List.mem_of_getElem? (i := 715) (by decide +kernel)⟩
theorem lw_p28 : lw_okq (⟨"ShellPeel$Row", "isLeast", "(LShellPeel$Facets;II)Z"⟩, 1) := ⟨⟨by decide +kernel, by decide +kernel⟩, List.mem_of_getElem? (i := 126) (by decide +kernel), List.mem_of_getElem? (i := 718) (by decide +kernel), List.mem_of_getElem? (i := 719) (by decide +kernel)⟩
theorem lw_p29 : lw_okq (⟨"ShellPeel", "allOrders", "()LShellPeel$Orders;"⟩, 7) := ⟨⟨by decide +kernel, by decide +kernel⟩, List.mem_of_getElem? (i := 20) (by decide +kernel), List.mem_of_getElem? (i := 742) (by decide +kernel), List.mem_of_getElem? (i := 743) (by decide +kernel)⟩
theorem lw_p30 : lw_okq (⟨"ShellPeel$Orders", "fillWays", "(LShellPeel$Facets;)V"⟩, 4) := ⟨⟨by decide +kernel, by decide +kernel⟩, List.mem_of_getElem? (i := 170) (by decide +kernel), List.mem_of_getElem? (i := 750) (by decide +kernel), List.mem_of_getElem? (i := 751) (by decide +kernel)⟩
theorem lw_p31 : lw_okq (⟨"ShellPeel$Orders", "pushOn", "(LShellPeel$Facets;I)V"⟩, 4) := ⟨⟨by decide +kernel, by decide +kernel⟩, List.mem_of_getElem? (i := 170) (by decide +kernel), List.mem_of_getElem? (i := 755) (by decide +kernel), List.mem_of_getElem? (i := 756) (by decide +kernel)⟩
def lw_privs_2 : List (MethodName × Nat) := [(⟨"ShellPeel", "isEmpty", "()Z"⟩, 7), (⟨"ShellPeel", "refusesSet", "(I)Z"⟩, 7), (⟨"ShellPeel", "refusesEmpty", "()Z"⟩, 7), (⟨"ShellPeel", "refusesUpTo", "(II)Z"⟩, 7), (⟨"ShellPeel$Halves", "clear", "()V"⟩, 6), (⟨"ShellPeel$Halves", "rowOf", "(I)J"⟩, 6), (⟨"ShellPeel$Halves", "settle", "(JI)Z"⟩, 6), (⟨"ShellPeel$Halves", "countOf", "(I)I"⟩, 6), (⟨"ShellPeel", "refusesPlace", "(I)Z"⟩, 7), (⟨"ShellPeel$Row", "isSpanning", "(LShellPeel$Facets;I)Z"⟩, 1), (⟨"ShellPeel$Row", "isLeap", "(LShellPeel$Facets;II)Z"⟩, 1), (⟨"ShellPeel$Row", "leapOver", "(LShellPeel$Facets;II)I"⟩, 1), (⟨"ShellPeel$Row", "isLeast", "(LShellPeel$Facets;II)Z"⟩, 1), (⟨"ShellPeel", "allOrders", "()LShellPeel$Orders;"⟩, 7), (⟨"ShellPeel$Orders", "fillWays", "(LShellPeel$Facets;)V"⟩, 4), (⟨"ShellPeel$Orders", "pushOn", "(LShellPeel$Facets;I)V"⟩, 4)]
theorem lw_r2 : ∀ q ∈ lw_privs_2, lw_okq q := List.forall_mem_cons.mpr ⟨lw_p16, List.forall_mem_cons.mpr ⟨lw_p17, List.forall_mem_cons.mpr ⟨lw_p18, List.forall_mem_cons.mpr ⟨lw_p19, List.forall_mem_cons.mpr ⟨lw_p20, List.forall_mem_cons.mpr ⟨lw_p21, List.forall_mem_cons.mpr ⟨lw_p22, List.forall_mem_cons.mpr ⟨lw_p23, List.forall_mem_cons.mpr ⟨lw_p24, List.forall_mem_cons.mpr ⟨lw_p25, List.forall_mem_cons.mpr ⟨lw_p26, List.forall_mem_cons.mpr ⟨lw_p27, List.forall_mem_cons.mpr ⟨lw_p28, List.forall_mem_cons.mpr ⟨lw_p29, List.forall_mem_cons.mpr ⟨lw_p30, List.forall_mem_cons.mpr ⟨lw_p31, fun _ h => absurd h List.not_mem_nil⟩⟩⟩⟩⟩⟩⟩⟩⟩⟩⟩⟩⟩⟩⟩⟩
theorem lw_p32 : lw_okq (⟨"ShellPeel$Orders", "fillOnward", "(LShellPeel$Facets;)V"⟩, 4) := ⟨⟨by decide +kernel, by decide +kernel⟩, List.mem_of_getElem? (i := 170) (by decide +kernel), List.mem_of_getElem? (i := 760) (by decide +kernel), List.mem_of_getElem? (i := 761) (by decide +kernel)⟩
theorem lw_p33 : lw_okq (⟨"ShellPeel$Orders", "sumOnward", "(LShellPeel$Facets;I)I"⟩, 4) := ⟨⟨by decide +kernel, by decide +kernel⟩, List.mem_of_getElem? (i := 170) (by decide +kernel), List.mem_of_getElem? (i := 764) (by decide +kernel), List.mem_of_getElem? (i := 765) (by decide +kernel)⟩
theorem lw_p34 : lw_okq (⟨"ShellPeel$Orders", "leastOnward", "(LShellPeel$Facets;I)I"⟩, 4) := ⟨⟨by decide +kernel, by decide +kernel⟩, List.mem_of_getElem? (i := 170) (by decide +kernel), List.mem_of_getElem? (i := 776) (by decide +kernel), List.mem_of_getElem? (i := 777) (by decide +kernel)⟩
theorem lw_p35 : lw_okq (⟨"ShellPeel", "refusesFace", "(I)Z"⟩, 7) := ⟨⟨by decide +kernel, by decide +kernel⟩, List.mem_of_getElem? (i := 20) (by decide +kernel), List.mem_of_getElem? (i := 824) (by decide +kernel), List.mem_of_getElem? (i := 825) (by decide +kernel)⟩
theorem lw_p36 : lw_okq (⟨"ShellPeel", "allSheddings", "()LShellPeel$Shedding;"⟩, 7) := ⟨⟨by decide +kernel, by decide +kernel⟩, List.mem_of_getElem? (i := 20) (by decide +kernel), List.mem_of_getElem? (i := 859) (by decide +kernel), List.mem_of_getElem? (i := 860) (by decide +kernel)⟩
theorem lw_p37 : lw_okq (⟨"ShellPeel$Shedding", "falls", "(LShellPeel$Facets;II)Z"⟩, 3) := ⟨⟨by decide +kernel, by decide +kernel⟩, List.mem_of_getElem? (i := 192) (by decide +kernel), List.mem_of_getElem? (i := 867) (by decide +kernel), List.mem_of_getElem? (i := 868) (by decide +kernel)⟩
theorem lw_p38 : lw_okq (⟨"ShellPeel$Shedding", "leastPoint", "(LShellPeel$Facets;II)I"⟩, 3) := ⟨⟨by decide +kernel, by decide +kernel⟩, List.mem_of_getElem? (i := 192) (by decide +kernel), List.mem_of_getElem? (i := 872) (by decide +kernel), List.mem_of_getElem? (i := 873) (by decide +kernel)⟩
theorem lw_p39 : lw_okq (⟨"ShellPeel", "takeAway", "(I)V"⟩, 7) := ⟨⟨by decide +kernel, by decide +kernel⟩, List.mem_of_getElem? (i := 20) (by decide +kernel), List.mem_of_getElem? (i := 911) (by decide +kernel), List.mem_of_getElem? (i := 912) (by decide +kernel)⟩
theorem lw_p40 : lw_okq (⟨"java/lang/Throwable", "fillInStackTrace", "(I)Ljava/lang/Throwable;"⟩, 6) := ⟨⟨by decide +kernel, by decide +kernel⟩, List.mem_of_getElem? (i := 1008) (by decide +kernel), List.mem_of_getElem? (i := 1006) (by decide +kernel), List.mem_of_getElem? (i := 1007) (by decide +kernel)⟩
theorem lw_p41 : lw_okq (⟨"ShellPeelModel", "laysWord", "(I)V"⟩, 34) := ⟨⟨by decide +kernel, by decide +kernel⟩, List.mem_of_getElem? (i := 1037) (by decide +kernel), List.mem_of_getElem? (i := 1154) (by decide +kernel), List.mem_of_getElem? (i := 1155) (by decide +kernel)⟩
theorem lw_p42 : lw_okq (⟨"ShellPeelModel", "isRefused", "(I)Z"⟩, 34) := ⟨⟨by decide +kernel, by decide +kernel⟩, List.mem_of_getElem? (i := 1037) (by decide +kernel), List.mem_of_getElem? (i := 1165) (by decide +kernel), List.mem_of_getElem? (i := 1166) (by decide +kernel)⟩
theorem lw_p43 : lw_okq (⟨"ShellPeelModel", "readAll", "(I)Z"⟩, 34) := ⟨⟨by decide +kernel, by decide +kernel⟩, List.mem_of_getElem? (i := 1037) (by decide +kernel), List.mem_of_getElem? (i := 1169) (by decide +kernel), List.mem_of_getElem? (i := 1170) (by decide +kernel)⟩
theorem lw_p44 : lw_okq (⟨"ShellPeelModel", "goesOn", "()V"⟩, 34) := ⟨⟨by decide +kernel, by decide +kernel⟩, List.mem_of_getElem? (i := 1037) (by decide +kernel), List.mem_of_getElem? (i := 1173) (by decide +kernel), List.mem_of_getElem? (i := 1174) (by decide +kernel)⟩
theorem lw_p45 : lw_okq (⟨"ShellPeelModel", "see", "(I)I"⟩, 34) := ⟨⟨by decide +kernel, by decide +kernel⟩, List.mem_of_getElem? (i := 1037) (by decide +kernel), List.mem_of_getElem? (i := 1177) (by decide +kernel), List.mem_of_getElem? (i := 1178) (by decide +kernel)⟩
theorem lw_p46 : lw_okq (⟨"ShellPeelModel", "readLine", "()Z"⟩, 34) := ⟨⟨by decide +kernel, by decide +kernel⟩, List.mem_of_getElem? (i := 1037) (by decide +kernel), List.mem_of_getElem? (i := 1181) (by decide +kernel), List.mem_of_getElem? (i := 1182) (by decide +kernel)⟩
theorem lw_p47 : lw_okq (⟨"ShellPeelModel", "isWord", "(Ljava/lang/String;)Z"⟩, 34) := ⟨⟨by decide +kernel, by decide +kernel⟩, List.mem_of_getElem? (i := 1037) (by decide +kernel), List.mem_of_getElem? (i := 1186) (by decide +kernel), List.mem_of_getElem? (i := 1187) (by decide +kernel)⟩
def lw_privs_3 : List (MethodName × Nat) := [(⟨"ShellPeel$Orders", "fillOnward", "(LShellPeel$Facets;)V"⟩, 4), (⟨"ShellPeel$Orders", "sumOnward", "(LShellPeel$Facets;I)I"⟩, 4), (⟨"ShellPeel$Orders", "leastOnward", "(LShellPeel$Facets;I)I"⟩, 4), (⟨"ShellPeel", "refusesFace", "(I)Z"⟩, 7), (⟨"ShellPeel", "allSheddings", "()LShellPeel$Shedding;"⟩, 7), (⟨"ShellPeel$Shedding", "falls", "(LShellPeel$Facets;II)Z"⟩, 3), (⟨"ShellPeel$Shedding", "leastPoint", "(LShellPeel$Facets;II)I"⟩, 3), (⟨"ShellPeel", "takeAway", "(I)V"⟩, 7), (⟨"java/lang/Throwable", "fillInStackTrace", "(I)Ljava/lang/Throwable;"⟩, 6), (⟨"ShellPeelModel", "laysWord", "(I)V"⟩, 34), (⟨"ShellPeelModel", "isRefused", "(I)Z"⟩, 34), (⟨"ShellPeelModel", "readAll", "(I)Z"⟩, 34), (⟨"ShellPeelModel", "goesOn", "()V"⟩, 34), (⟨"ShellPeelModel", "see", "(I)I"⟩, 34), (⟨"ShellPeelModel", "readLine", "()Z"⟩, 34), (⟨"ShellPeelModel", "isWord", "(Ljava/lang/String;)Z"⟩, 34)]
theorem lw_r3 : ∀ q ∈ lw_privs_3, lw_okq q := List.forall_mem_cons.mpr ⟨lw_p32, List.forall_mem_cons.mpr ⟨lw_p33, List.forall_mem_cons.mpr ⟨lw_p34, List.forall_mem_cons.mpr ⟨lw_p35, List.forall_mem_cons.mpr ⟨lw_p36, List.forall_mem_cons.mpr ⟨lw_p37, List.forall_mem_cons.mpr ⟨lw_p38, List.forall_mem_cons.mpr ⟨lw_p39, List.forall_mem_cons.mpr ⟨lw_p40, List.forall_mem_cons.mpr ⟨lw_p41, List.forall_mem_cons.mpr ⟨lw_p42, List.forall_mem_cons.mpr ⟨lw_p43, List.forall_mem_cons.mpr ⟨lw_p44, List.forall_mem_cons.mpr ⟨lw_p45, List.forall_mem_cons.mpr ⟨lw_p46, List.forall_mem_cons.mpr ⟨lw_p47, fun _ h => absurd h List.not_mem_nil⟩⟩⟩⟩⟩⟩⟩⟩⟩⟩⟩⟩⟩⟩⟩⟩
theorem lw_p48 : lw_okq (⟨"ShellPeelModel", "readComplex", "()Z"⟩, 34) := ⟨⟨by decide +kernel, by decide +kernel⟩, List.mem_of_getElem? (i := 1037) (by decide +kernel), List.mem_of_getElem? (i := 1192) (by decide +kernel), List.mem_of_getElem? (i := 1193) (by decide +kernel)⟩
theorem lw_p49 : lw_okq (⟨"ShellPeelModel", "errs", "(I)Z"⟩, 34) := ⟨⟨by decide +kernel, by decide +kernel⟩, List.mem_of_getElem? (i := 1037) (by decide +kernel), List.mem_of_getElem? (i := 1196) (by decide +kernel), List.mem_of_getElem? (i := 1197) (by decide +kernel)⟩
theorem lw_p50 : lw_okq (⟨"ShellPeelModel", "after", "(Ljava/lang/String;II)I"⟩, 34) := ⟨⟨by decide +kernel, by decide +kernel⟩, List.mem_of_getElem? (i := 1037) (by decide +kernel), List.mem_of_getElem? (i := 1201) (by decide +kernel), List.mem_of_getElem? (i := 1202) (by decide +kernel)⟩
theorem lw_p51 : lw_okq (⟨"ShellPeelModel", "readFacet", "()Z"⟩, 34) := ⟨⟨by decide +kernel, by decide +kernel⟩, List.mem_of_getElem? (i := 1037) (by decide +kernel), List.mem_of_getElem? (i := 1207) (by decide +kernel), List.mem_of_getElem? (i := 1208) (by decide +kernel)⟩
theorem lw_p52 : lw_okq (⟨"ShellPeelModel", "pointsOf", "()I"⟩, 34) := ⟨⟨by decide +kernel, by decide +kernel⟩, List.mem_of_getElem? (i := 1037) (by decide +kernel), List.mem_of_getElem? (i := 1211) (by decide +kernel), List.mem_of_getElem? (i := 1212) (by decide +kernel)⟩
theorem lw_p53 : lw_okq (⟨"ShellPeelModel", "no", "(I)I"⟩, 34) := ⟨⟨by decide +kernel, by decide +kernel⟩, List.mem_of_getElem? (i := 1037) (by decide +kernel), List.mem_of_getElem? (i := 1221) (by decide +kernel), List.mem_of_getElem? (i := 1222) (by decide +kernel)⟩
theorem lw_p54 : lw_okq (⟨"ShellPeelModel", "isAsked", "(Z)Z"⟩, 34) := ⟨⟨by decide +kernel, by decide +kernel⟩, List.mem_of_getElem? (i := 1037) (by decide +kernel), List.mem_of_getElem? (i := 1237) (by decide +kernel), List.mem_of_getElem? (i := 1238) (by decide +kernel)⟩
theorem lw_p55 : lw_okq (⟨"ShellPeelModel", "laysOwn", "()V"⟩, 34) := ⟨⟨by decide +kernel, by decide +kernel⟩, List.mem_of_getElem? (i := 1037) (by decide +kernel), List.mem_of_getElem? (i := 1244) (by decide +kernel), List.mem_of_getElem? (i := 1245) (by decide +kernel)⟩
theorem lw_p56 : lw_okq (⟨"ShellPeelModel", "laysFaces", "([II)V"⟩, 34) := ⟨⟨by decide +kernel, by decide +kernel⟩, List.mem_of_getElem? (i := 1037) (by decide +kernel), List.mem_of_getElem? (i := 1248) (by decide +kernel), List.mem_of_getElem? (i := 1249) (by decide +kernel)⟩
theorem lw_p57 : lw_okq (⟨"ShellPeelModel", "laysMissing", "()V"⟩, 34) := ⟨⟨by decide +kernel, by decide +kernel⟩, List.mem_of_getElem? (i := 1037) (by decide +kernel), List.mem_of_getElem? (i := 1255) (by decide +kernel), List.mem_of_getElem? (i := 1256) (by decide +kernel)⟩
theorem lw_p58 : lw_okq (⟨"ShellPeelModel", "allPoints", "()I"⟩, 34) := ⟨⟨by decide +kernel, by decide +kernel⟩, List.mem_of_getElem? (i := 1037) (by decide +kernel), List.mem_of_getElem? (i := 1259) (by decide +kernel), List.mem_of_getElem? (i := 1260) (by decide +kernel)⟩
theorem lw_p59 : lw_okq (⟨"ShellPeelModel", "isMissing", "(I)Z"⟩, 34) := ⟨⟨by decide +kernel, by decide +kernel⟩, List.mem_of_getElem? (i := 1037) (by decide +kernel), List.mem_of_getElem? (i := 1263) (by decide +kernel), List.mem_of_getElem? (i := 1264) (by decide +kernel)⟩
theorem lw_p60 : lw_okq (⟨"ShellPeelModel", "sumOfFaces", "(Z)I"⟩, 34) := ⟨⟨by decide +kernel, by decide +kernel⟩, List.mem_of_getElem? (i := 1037) (by decide +kernel), List.mem_of_getElem? (i := 1267) (by decide +kernel), List.mem_of_getElem? (i := 1268) (by decide +kernel)⟩
theorem lw_p61 : lw_okq (⟨"ShellPeelModel", "pointsIn", "(Z)I"⟩, 34) := ⟨⟨by decide +kernel, by decide +kernel⟩, List.mem_of_getElem? (i := 1037) (by decide +kernel), List.mem_of_getElem? (i := 1271) (by decide +kernel), List.mem_of_getElem? (i := 1272) (by decide +kernel)⟩
theorem lw_p62 : lw_okq (⟨"ShellPeelModel", "isFacet", "(I)Z"⟩, 34) := ⟨⟨by decide +kernel, by decide +kernel⟩, List.mem_of_getElem? (i := 1037) (by decide +kernel), List.mem_of_getElem? (i := 1279) (by decide +kernel), List.mem_of_getElem? (i := 1280) (by decide +kernel)⟩
theorem lw_p63 : lw_okq (⟨"ShellPeelModel", "isSet", "(I)Z"⟩, 34) := ⟨⟨by decide +kernel, by decide +kernel⟩, List.mem_of_getElem? (i := 1037) (by decide +kernel), List.mem_of_getElem? (i := 1287) (by decide +kernel), List.mem_of_getElem? (i := 1288) (by decide +kernel)⟩
def lw_privs_4 : List (MethodName × Nat) := [(⟨"ShellPeelModel", "readComplex", "()Z"⟩, 34), (⟨"ShellPeelModel", "errs", "(I)Z"⟩, 34), (⟨"ShellPeelModel", "after", "(Ljava/lang/String;II)I"⟩, 34), (⟨"ShellPeelModel", "readFacet", "()Z"⟩, 34), (⟨"ShellPeelModel", "pointsOf", "()I"⟩, 34), (⟨"ShellPeelModel", "no", "(I)I"⟩, 34), (⟨"ShellPeelModel", "isAsked", "(Z)Z"⟩, 34), (⟨"ShellPeelModel", "laysOwn", "()V"⟩, 34), (⟨"ShellPeelModel", "laysFaces", "([II)V"⟩, 34), (⟨"ShellPeelModel", "laysMissing", "()V"⟩, 34), (⟨"ShellPeelModel", "allPoints", "()I"⟩, 34), (⟨"ShellPeelModel", "isMissing", "(I)Z"⟩, 34), (⟨"ShellPeelModel", "sumOfFaces", "(Z)I"⟩, 34), (⟨"ShellPeelModel", "pointsIn", "(Z)I"⟩, 34), (⟨"ShellPeelModel", "isFacet", "(I)Z"⟩, 34), (⟨"ShellPeelModel", "isSet", "(I)Z"⟩, 34)]
theorem lw_r4 : ∀ q ∈ lw_privs_4, lw_okq q := List.forall_mem_cons.mpr ⟨lw_p48, List.forall_mem_cons.mpr ⟨lw_p49, List.forall_mem_cons.mpr ⟨lw_p50, List.forall_mem_cons.mpr ⟨lw_p51, List.forall_mem_cons.mpr ⟨lw_p52, List.forall_mem_cons.mpr ⟨lw_p53, List.forall_mem_cons.mpr ⟨lw_p54, List.forall_mem_cons.mpr ⟨lw_p55, List.forall_mem_cons.mpr ⟨lw_p56, List.forall_mem_cons.mpr ⟨lw_p57, List.forall_mem_cons.mpr ⟨lw_p58, List.forall_mem_cons.mpr ⟨lw_p59, List.forall_mem_cons.mpr ⟨lw_p60, List.forall_mem_cons.mpr ⟨lw_p61, List.forall_mem_cons.mpr ⟨lw_p62, List.forall_mem_cons.mpr ⟨lw_p63, fun _ h => absurd h List.not_mem_nil⟩⟩⟩⟩⟩⟩⟩⟩⟩⟩⟩⟩⟩⟩⟩⟩
theorem lw_p64 : lw_okq (⟨"ShellPeelModel", "withinOf", "(I)I"⟩, 34) := ⟨⟨by decide +kernel, by decide +kernel⟩, List.mem_of_getElem? (i := 1037) (by decide +kernel), List.mem_of_getElem? (i := 1294) (by decide +kernel), List.mem_of_getElem? (i := 1295) (by decide +kernel)⟩
theorem lw_p65 : lw_okq (⟨"ShellPeelModel", "isSized", "(I)Z"⟩, 34) := ⟨⟨by decide +kernel, by decide +kernel⟩, List.mem_of_getElem? (i := 1037) (by decide +kernel), List.mem_of_getElem? (i := 1306) (by decide +kernel), List.mem_of_getElem? (i := 1307) (by decide +kernel)⟩
theorem lw_p66 : lw_okq (⟨"ShellPeelModel", "facesOf", "(I)I"⟩, 34) := ⟨⟨by decide +kernel, by decide +kernel⟩, List.mem_of_getElem? (i := 1037) (by decide +kernel), List.mem_of_getElem? (i := 1310) (by decide +kernel), List.mem_of_getElem? (i := 1311) (by decide +kernel)⟩
theorem lw_p67 : lw_okq (⟨"ShellPeelModel", "rankOf", "(I)I"⟩, 34) := ⟨⟨by decide +kernel, by decide +kernel⟩, List.mem_of_getElem? (i := 1037) (by decide +kernel), List.mem_of_getElem? (i := 1330) (by decide +kernel), List.mem_of_getElem? (i := 1331) (by decide +kernel)⟩
theorem lw_p68 : lw_okq (⟨"ShellPeelModel", "rankOfRows", "(I)I"⟩, 34) := ⟨⟨by decide +kernel, by decide +kernel⟩, List.mem_of_getElem? (i := 1037) (by decide +kernel), List.mem_of_getElem? (i := 1334) (by decide +kernel), List.mem_of_getElem? (i := 1335) (by decide +kernel)⟩
theorem lw_p69 : lw_okq (⟨"ShellPeelModel", "roundOf", "(I)I"⟩, 34) := ⟨⟨by decide +kernel, by decide +kernel⟩, List.mem_of_getElem? (i := 1037) (by decide +kernel), List.mem_of_getElem? (i := 1342) (by decide +kernel), List.mem_of_getElem? (i := 1343) (by decide +kernel)⟩
theorem lw_p70 : lw_okq (⟨"ShellPeelModel", "nearTo", "(I)I"⟩, 34) := ⟨⟨by decide +kernel, by decide +kernel⟩, List.mem_of_getElem? (i := 1037) (by decide +kernel), List.mem_of_getElem? (i := 1358) (by decide +kernel), List.mem_of_getElem? (i := 1359) (by decide +kernel)⟩
theorem lw_p71 : lw_okq (⟨"ShellPeelModel", "areNear", "(II)Z"⟩, 34) := ⟨⟨by decide +kernel, by decide +kernel⟩, List.mem_of_getElem? (i := 1037) (by decide +kernel), List.mem_of_getElem? (i := 1362) (by decide +kernel), List.mem_of_getElem? (i := 1363) (by decide +kernel)⟩
theorem lw_p72 : lw_okq (⟨"ShellPeelModel", "joinsAt", "(I)Z"⟩, 34) := ⟨⟨by decide +kernel, by decide +kernel⟩, List.mem_of_getElem? (i := 1037) (by decide +kernel), List.mem_of_getElem? (i := 1378) (by decide +kernel), List.mem_of_getElem? (i := 1379) (by decide +kernel)⟩
theorem lw_p73 : lw_okq (⟨"ShellPeelModel", "ahead", "(I)I"⟩, 34) := ⟨⟨by decide +kernel, by decide +kernel⟩, List.mem_of_getElem? (i := 1037) (by decide +kernel), List.mem_of_getElem? (i := 1382) (by decide +kernel), List.mem_of_getElem? (i := 1383) (by decide +kernel)⟩
theorem lw_p74 : lw_okq (⟨"ShellPeelModel", "restrictionAt", "(I)I"⟩, 34) := ⟨⟨by decide +kernel, by decide +kernel⟩, List.mem_of_getElem? (i := 1037) (by decide +kernel), List.mem_of_getElem? (i := 1393) (by decide +kernel), List.mem_of_getElem? (i := 1394) (by decide +kernel)⟩
theorem lw_p75 : lw_okq (⟨"ShellPeelModel", "goodMany", "()I"⟩, 34) := ⟨⟨by decide +kernel, by decide +kernel⟩, List.mem_of_getElem? (i := 1037) (by decide +kernel), List.mem_of_getElem? (i := 1401) (by decide +kernel), List.mem_of_getElem? (i := 1402) (by decide +kernel)⟩
theorem lw_p76 : lw_okq (⟨"ShellPeelModel", "spanningAt", "(I)I"⟩, 34) := ⟨⟨by decide +kernel, by decide +kernel⟩, List.mem_of_getElem? (i := 1037) (by decide +kernel), List.mem_of_getElem? (i := 1413) (by decide +kernel), List.mem_of_getElem? (i := 1414) (by decide +kernel)⟩
theorem lw_p77 : lw_okq (⟨"ShellPeelModel", "isSpanning", "(I)Z"⟩, 34) := ⟨⟨by decide +kernel, by decide +kernel⟩, List.mem_of_getElem? (i := 1037) (by decide +kernel), List.mem_of_getElem? (i := 1417) (by decide +kernel), List.mem_of_getElem? (i := 1418) (by decide +kernel)⟩
theorem lw_p78 : lw_okq (⟨"ShellPeelModel", "solves", "(II)I"⟩, 34) := ⟨⟨by decide +kernel, by decide +kernel⟩, List.mem_of_getElem? (i := 1037) (by decide +kernel), List.mem_of_getElem? (i := 1425) (by decide +kernel), List.mem_of_getElem? (i := 1426) (by decide +kernel)⟩
theorem lw_p79 : lw_okq (⟨"ShellPeelModel", "cellOf", "(I)I"⟩, 34) := ⟨⟨by decide +kernel, by decide +kernel⟩, List.mem_of_getElem? (i := 1037) (by decide +kernel), List.mem_of_getElem? (i := 1438) (by decide +kernel), List.mem_of_getElem? (i := 1439) (by decide +kernel)⟩
def lw_privs_5 : List (MethodName × Nat) := [(⟨"ShellPeelModel", "withinOf", "(I)I"⟩, 34), (⟨"ShellPeelModel", "isSized", "(I)Z"⟩, 34), (⟨"ShellPeelModel", "facesOf", "(I)I"⟩, 34), (⟨"ShellPeelModel", "rankOf", "(I)I"⟩, 34), (⟨"ShellPeelModel", "rankOfRows", "(I)I"⟩, 34), (⟨"ShellPeelModel", "roundOf", "(I)I"⟩, 34), (⟨"ShellPeelModel", "nearTo", "(I)I"⟩, 34), (⟨"ShellPeelModel", "areNear", "(II)Z"⟩, 34), (⟨"ShellPeelModel", "joinsAt", "(I)Z"⟩, 34), (⟨"ShellPeelModel", "ahead", "(I)I"⟩, 34), (⟨"ShellPeelModel", "restrictionAt", "(I)I"⟩, 34), (⟨"ShellPeelModel", "goodMany", "()I"⟩, 34), (⟨"ShellPeelModel", "spanningAt", "(I)I"⟩, 34), (⟨"ShellPeelModel", "isSpanning", "(I)Z"⟩, 34), (⟨"ShellPeelModel", "solves", "(II)I"⟩, 34), (⟨"ShellPeelModel", "cellOf", "(I)I"⟩, 34)]
theorem lw_r5 : ∀ q ∈ lw_privs_5, lw_okq q := List.forall_mem_cons.mpr ⟨lw_p64, List.forall_mem_cons.mpr ⟨lw_p65, List.forall_mem_cons.mpr ⟨lw_p66, List.forall_mem_cons.mpr ⟨lw_p67, List.forall_mem_cons.mpr ⟨lw_p68, List.forall_mem_cons.mpr ⟨lw_p69, List.forall_mem_cons.mpr ⟨lw_p70, List.forall_mem_cons.mpr ⟨lw_p71, List.forall_mem_cons.mpr ⟨lw_p72, List.forall_mem_cons.mpr ⟨lw_p73, List.forall_mem_cons.mpr ⟨lw_p74, List.forall_mem_cons.mpr ⟨lw_p75, List.forall_mem_cons.mpr ⟨lw_p76, List.forall_mem_cons.mpr ⟨lw_p77, List.forall_mem_cons.mpr ⟨lw_p78, List.forall_mem_cons.mpr ⟨lw_p79, fun _ h => absurd h List.not_mem_nil⟩⟩⟩⟩⟩⟩⟩⟩⟩⟩⟩⟩⟩⟩⟩⟩
theorem lw_p80 : lw_okq (⟨"ShellPeelModel", "betweenOf", "(I)I"⟩, 34) := ⟨⟨by decide +kernel, by decide +kernel⟩, List.mem_of_getElem? (i := 1037) (by decide +kernel), List.mem_of_getElem? (i := 1450) (by decide +kernel), List.mem_of_getElem? (i := 1451) (by decide +kernel)⟩
theorem lw_p81 : lw_okq (⟨"ShellPeelModel", "changes", "(I)V"⟩, 34) := ⟨⟨by decide +kernel, by decide +kernel⟩, List.mem_of_getElem? (i := 1037) (by decide +kernel), List.mem_of_getElem? (i := 1466) (by decide +kernel), List.mem_of_getElem? (i := 1467) (by decide +kernel)⟩
theorem lw_p82 : lw_okq (⟨"ShellPeelModel", "isLeastLeap", "(II)Z"⟩, 34) := ⟨⟨by decide +kernel, by decide +kernel⟩, List.mem_of_getElem? (i := 1037) (by decide +kernel), List.mem_of_getElem? (i := 1474) (by decide +kernel), List.mem_of_getElem? (i := 1475) (by decide +kernel)⟩
theorem lw_p83 : lw_okq (⟨"ShellPeelModel", "isLeap", "(II)Z"⟩, 34) := ⟨⟨by decide +kernel, by decide +kernel⟩, List.mem_of_getElem? (i := 1037) (by decide +kernel), List.mem_of_getElem? (i := 1478) (by decide +kernel), List.mem_of_getElem? (i := 1479) (by decide +kernel)⟩
theorem lw_p84 : lw_okq (⟨"ShellPeelModel", "isLaid", "()Z"⟩, 34) := ⟨⟨by decide +kernel, by decide +kernel⟩, List.mem_of_getElem? (i := 1037) (by decide +kernel), List.mem_of_getElem? (i := 1494) (by decide +kernel), List.mem_of_getElem? (i := 1495) (by decide +kernel)⟩
theorem lw_p85 : lw_okq (⟨"ShellPeelModel", "laysWays", "([II)V"⟩, 34) := ⟨⟨by decide +kernel, by decide +kernel⟩, List.mem_of_getElem? (i := 1037) (by decide +kernel), List.mem_of_getElem? (i := 1498) (by decide +kernel), List.mem_of_getElem? (i := 1499) (by decide +kernel)⟩
theorem lw_p86 : lw_okq (⟨"ShellPeelModel", "laysLeast", "()V"⟩, 34) := ⟨⟨by decide +kernel, by decide +kernel⟩, List.mem_of_getElem? (i := 1037) (by decide +kernel), List.mem_of_getElem? (i := 1506) (by decide +kernel), List.mem_of_getElem? (i := 1507) (by decide +kernel)⟩
theorem lw_p87 : lw_okq (⟨"ShellPeelModel", "canGo", "(I)I"⟩, 34) := ⟨⟨by decide +kernel, by decide +kernel⟩, List.mem_of_getElem? (i := 1037) (by decide +kernel), List.mem_of_getElem? (i := 1527) (by decide +kernel), List.mem_of_getElem? (i := 1528) (by decide +kernel)⟩
theorem lw_p88 : lw_okq (⟨"ShellPeelModel", "linkWhy", "(I)I"⟩, 34) := ⟨⟨by decide +kernel, by decide +kernel⟩, List.mem_of_getElem? (i := 1037) (by decide +kernel), List.mem_of_getElem? (i := 1536) (by decide +kernel), List.mem_of_getElem? (i := 1537) (by decide +kernel)⟩
theorem lw_p89 : lw_okq (⟨"ShellPeelModel", "laysLink", "(I)V"⟩, 34) := ⟨⟨by decide +kernel, by decide +kernel⟩, List.mem_of_getElem? (i := 1037) (by decide +kernel), List.mem_of_getElem? (i := 1544) (by decide +kernel), List.mem_of_getElem? (i := 1545) (by decide +kernel)⟩
theorem lw_p90 : lw_okq (⟨"ShellPeelModel", "isEvenLink", "(I)Z"⟩, 34) := ⟨⟨by decide +kernel, by decide +kernel⟩, List.mem_of_getElem? (i := 1037) (by decide +kernel), List.mem_of_getElem? (i := 1556) (by decide +kernel), List.mem_of_getElem? (i := 1557) (by decide +kernel)⟩
theorem lw_p91 : lw_okq (⟨"ShellPeelModel", "allFacets", "()I"⟩, 34) := ⟨⟨by decide +kernel, by decide +kernel⟩, List.mem_of_getElem? (i := 1037) (by decide +kernel), List.mem_of_getElem? (i := 1568) (by decide +kernel), List.mem_of_getElem? (i := 1569) (by decide +kernel)⟩
theorem lw_p92 : lw_okq (⟨"ShellPeelModel", "fallsOf", "(II)Z"⟩, 34) := ⟨⟨by decide +kernel, by decide +kernel⟩, List.mem_of_getElem? (i := 1037) (by decide +kernel), List.mem_of_getElem? (i := 1572) (by decide +kernel), List.mem_of_getElem? (i := 1573) (by decide +kernel)⟩
theorem lw_p93 : lw_okq (⟨"ShellPeelModel", "canShed", "(III)Z"⟩, 34) := ⟨⟨by decide +kernel, by decide +kernel⟩, List.mem_of_getElem? (i := 1037) (by decide +kernel), List.mem_of_getElem? (i := 1576) (by decide +kernel), List.mem_of_getElem? (i := 1577) (by decide +kernel)⟩
theorem lw_p94 : lw_okq (⟨"ShellPeelModel", "bothFall", "(III)Z"⟩, 34) := ⟨⟨by decide +kernel, by decide +kernel⟩, List.mem_of_getElem? (i := 1037) (by decide +kernel), List.mem_of_getElem? (i := 1580) (by decide +kernel), List.mem_of_getElem? (i := 1581) (by decide +kernel)⟩
theorem lw_p95 : lw_okq (⟨"ShellPeelModel", "withPoint", "(II)I"⟩, 34) := ⟨⟨by decide +kernel, by decide +kernel⟩, List.mem_of_getElem? (i := 1037) (by decide +kernel), List.mem_of_getElem? (i := 1584) (by decide +kernel), List.mem_of_getElem? (i := 1585) (by decide +kernel)⟩
def lw_privs_6 : List (MethodName × Nat) := [(⟨"ShellPeelModel", "betweenOf", "(I)I"⟩, 34), (⟨"ShellPeelModel", "changes", "(I)V"⟩, 34), (⟨"ShellPeelModel", "isLeastLeap", "(II)Z"⟩, 34), (⟨"ShellPeelModel", "isLeap", "(II)Z"⟩, 34), (⟨"ShellPeelModel", "isLaid", "()Z"⟩, 34), (⟨"ShellPeelModel", "laysWays", "([II)V"⟩, 34), (⟨"ShellPeelModel", "laysLeast", "()V"⟩, 34), (⟨"ShellPeelModel", "canGo", "(I)I"⟩, 34), (⟨"ShellPeelModel", "linkWhy", "(I)I"⟩, 34), (⟨"ShellPeelModel", "laysLink", "(I)V"⟩, 34), (⟨"ShellPeelModel", "isEvenLink", "(I)Z"⟩, 34), (⟨"ShellPeelModel", "allFacets", "()I"⟩, 34), (⟨"ShellPeelModel", "fallsOf", "(II)Z"⟩, 34), (⟨"ShellPeelModel", "canShed", "(III)Z"⟩, 34), (⟨"ShellPeelModel", "bothFall", "(III)Z"⟩, 34), (⟨"ShellPeelModel", "withPoint", "(II)I"⟩, 34)]
theorem lw_r6 : ∀ q ∈ lw_privs_6, lw_okq q := List.forall_mem_cons.mpr ⟨lw_p80, List.forall_mem_cons.mpr ⟨lw_p81, List.forall_mem_cons.mpr ⟨lw_p82, List.forall_mem_cons.mpr ⟨lw_p83, List.forall_mem_cons.mpr ⟨lw_p84, List.forall_mem_cons.mpr ⟨lw_p85, List.forall_mem_cons.mpr ⟨lw_p86, List.forall_mem_cons.mpr ⟨lw_p87, List.forall_mem_cons.mpr ⟨lw_p88, List.forall_mem_cons.mpr ⟨lw_p89, List.forall_mem_cons.mpr ⟨lw_p90, List.forall_mem_cons.mpr ⟨lw_p91, List.forall_mem_cons.mpr ⟨lw_p92, List.forall_mem_cons.mpr ⟨lw_p93, List.forall_mem_cons.mpr ⟨lw_p94, List.forall_mem_cons.mpr ⟨lw_p95, fun _ h => absurd h List.not_mem_nil⟩⟩⟩⟩⟩⟩⟩⟩⟩⟩⟩⟩⟩⟩⟩⟩
theorem lw_p96 : lw_okq (⟨"ShellPeelModel", "goes", "(I)V"⟩, 34) := ⟨⟨by decide +kernel, by decide +kernel⟩, List.mem_of_getElem? (i := 1037) (by decide +kernel), List.mem_of_getElem? (i := 1604) (by decide +kernel), List.mem_of_getElem? (i := 1605) (by decide +kernel)⟩
def lw_privs_7 : List (MethodName × Nat) := [(⟨"ShellPeelModel", "goes", "(I)V"⟩, 34)]
theorem lw_r7 : ∀ q ∈ lw_privs_7, lw_okq q := List.forall_mem_cons.mpr ⟨lw_p96, fun _ h => absurd h List.not_mem_nil⟩
def lw_privs : List (MethodName × Nat) := lw_privs_1 ++ (lw_privs_2 ++ (lw_privs_3 ++ (lw_privs_4 ++ (lw_privs_5 ++ (lw_privs_6 ++ (lw_privs_7))))))
def lw_tbl : List Cond := k2_sels lw_privs ++ tables_1
theorem lw_privs_ok : ∀ q ∈ lw_privs, lw_okq q := by
  show ∀ q ∈ lw_privs_1 ++ (lw_privs_2 ++ (lw_privs_3 ++ (lw_privs_4 ++ (lw_privs_5 ++ (lw_privs_6 ++ (lw_privs_7)))))), lw_okq q
  exact List.forall_mem_append.mpr ⟨lw_r1, List.forall_mem_append.mpr ⟨lw_r2, List.forall_mem_append.mpr ⟨lw_r3, List.forall_mem_append.mpr ⟨lw_r4, List.forall_mem_append.mpr ⟨lw_r5, List.forall_mem_append.mpr ⟨lw_r6, lw_r7⟩⟩⟩⟩⟩⟩
/-- the streams that the claim lets the run draw from -/
abbrev lw_cs : List Choice := [Jvm.Choice.named "NaN.bits"]
theorem lw_bits : nanBits ∈ lw_cs := by first | decide | exact List.mem_cons_self | simp [lw_cs, nanBits]
end
section
def RX0 : String := "ShellPeel$Facets"
def TX0 : u_T := fun k => match k with
  | 0 => ("ShellPeel$Facets", "points", "I", false)
  | 1 => ("ShellPeel$Facets", "size", "I", false)
  | 2 => ("ShellPeel$Facets", "count", "I", false)
  | 3 => ("ShellPeel$Facets", "sets", "[I", true)
  | 4 => ("ShellPeel$Facets", "having", "[I", true)
  | 5 => ("ShellPeel$Facets", "lying", "[I", true)
  | _ => ("ShellPeel$Facets", "across", "[I", true)
def tyX0 : Nat → FieldType := fun k => match k with
  | 0 => .int
  | 1 => .int
  | 2 => .int
  | 3 => .array .int
  | 4 => .array .int
  | 5 => .array .int
  | _ => .array .int
abbrev wsX00 : List Cond := u_ws RX0 TX0 7
theorem nmX0 : ∀ a, a < 7 → ∀ b, b < 7 → a ≠ b → (TX0 a).2.1 ≠ (TX0 b).2.1 := by decide +kernel
theorem tyX0_ok : ∀ k, k < 7 → parseFieldDescriptor (TX0 k).2.2.1 = some (tyX0 k) := by decide +kernel
abbrev cX0_init : ByteArray := prog_2_method_1_code
def yX0_init : MethodName := ⟨RX0, "<init>", "()V"⟩
abbrev cX0_choose : ByteArray := prog_2_method_2_code
def yX0_choose : MethodName := ⟨RX0, "choose", "(II)I"⟩
abbrev cX0_take : ByteArray := prog_2_method_3_code
def yX0_take : MethodName := ⟨RX0, "take", "(LShellPeel$Tape;)V"⟩
abbrev cX0_append : ByteArray := prog_2_method_4_code
def yX0_append : MethodName := ⟨RX0, "append", "(I)V"⟩
abbrev cX0_remove : ByteArray := prog_2_method_5_code
def yX0_remove : MethodName := ⟨RX0, "remove", "(I)V"⟩
abbrev cX0_rename : ByteArray := prog_2_method_6_code
def yX0_rename : MethodName := ⟨RX0, "rename", "(II)I"⟩
abbrev cX0_recount : ByteArray := prog_2_method_7_code
def yX0_recount : MethodName := ⟨RX0, "recount", "()V"⟩
abbrev cX0_recountHaving : ByteArray := prog_2_method_8_code
def yX0_recountHaving : MethodName := ⟨RX0, "recountHaving", "()V"⟩
abbrev cX0_recountLying : ByteArray := prog_2_method_9_code
def yX0_recountLying : MethodName := ⟨RX0, "recountLying", "()V"⟩
abbrev cX0_recountAcross : ByteArray := prog_2_method_10_code
def yX0_recountAcross : MethodName := ⟨RX0, "recountAcross", "()V"⟩
abbrev cX0_everyPoint : ByteArray := prog_2_method_11_code
def yX0_everyPoint : MethodName := ⟨RX0, "everyPoint", "()I"⟩
abbrev cX0_everyFacet : ByteArray := prog_2_method_12_code
def yX0_everyFacet : MethodName := ⟨RX0, "everyFacet", "()I"⟩
abbrev cX0_isPoint : ByteArray := prog_2_method_13_code
def yX0_isPoint : MethodName := ⟨RX0, "isPoint", "(I)Z"⟩
abbrev cX0_isFacet : ByteArray := prog_2_method_14_code
def yX0_isFacet : MethodName := ⟨RX0, "isFacet", "(I)Z"⟩
abbrev cX0_isSet : ByteArray := prog_2_method_15_code
def yX0_isSet : MethodName := ⟨RX0, "isSet", "(I)Z"⟩
abbrev cX0_isFace : ByteArray := prog_2_method_16_code
def yX0_isFace : MethodName := ⟨RX0, "isFace", "(I)Z"⟩
abbrev cX0_numberOf : ByteArray := prog_2_method_17_code
def yX0_numberOf : MethodName := ⟨RX0, "numberOf", "(I)I"⟩
abbrev cX0_countFaces : ByteArray := prog_2_method_18_code
def yX0_countFaces : MethodName := ⟨RX0, "countFaces", "()I"⟩
abbrev cX0_countSized : ByteArray := prog_2_method_19_code
def yX0_countSized : MethodName := ⟨RX0, "countSized", "(I)I"⟩
abbrev cX0_usedPoints : ByteArray := prog_2_method_20_code
def yX0_usedPoints : MethodName := ⟨RX0, "usedPoints", "()I"⟩
abbrev cX0_commonPoints : ByteArray := prog_2_method_21_code
def yX0_commonPoints : MethodName := ⟨RX0, "commonPoints", "()I"⟩
abbrev cX0_isMissing : ByteArray := prog_2_method_22_code
def yX0_isMissing : MethodName := ⟨RX0, "isMissing", "(I)Z"⟩
abbrev cX0_countMissing : ByteArray := prog_2_method_23_code
def yX0_countMissing : MethodName := ⟨RX0, "countMissing", "()I"⟩
abbrev cX0_nthMissing : ByteArray := prog_2_method_24_code
def yX0_nthMissing : MethodName := ⟨RX0, "nthMissing", "(I)I"⟩
abbrev cX0_neighbours : ByteArray := prog_2_method_25_code
def yX0_neighbours : MethodName := ⟨RX0, "neighbours", "(I)I"⟩
abbrev cX0_steps : ByteArray := prog_2_method_26_code
def yX0_steps : MethodName := ⟨RX0, "steps", "(II)I"⟩
abbrev cX0_restriction : ByteArray := prog_2_method_27_code
def yX0_restriction : MethodName := ⟨RX0, "restriction", "(II)I"⟩
abbrev cX0_fits : ByteArray := prog_2_method_28_code
def yX0_fits : MethodName := ⟨RX0, "fits", "(II)Z"⟩
abbrev cX0_loose : ByteArray := prog_2_method_29_code
def yX0_loose : MethodName := ⟨RX0, "loose", "(I)I"⟩
abbrev cX0_peelByDraws : ByteArray := prog_2_method_30_code
def yX0_peelByDraws : MethodName := ⟨RX0, "peelByDraws", "(I)I"⟩
abbrev cX0_nthBit : ByteArray := prog_2_method_31_code
def yX0_nthBit : MethodName := ⟨RX0, "nthBit", "(II)I"⟩
abbrev cX0_canLose : ByteArray := prog_2_method_32_code
def yX0_canLose : MethodName := ⟨RX0, "canLose", "(II)Z"⟩
def RX1 : String := "ShellPeel$Halves"
def TX1 : u_T := fun k => match k with
  | 0 => ("ShellPeel$Halves", "column", "[I", true)
  | 1 => ("ShellPeel$Halves", "in", "[Z", true)
  | 2 => ("ShellPeel$Halves", "limit", "I", false)
  | 3 => ("ShellPeel$Halves", "heads", "[J", true)
  | 4 => ("ShellPeel$Halves", "sums", "[I", true)
  | _ => ("ShellPeel$Halves", "sum", "I", false)
def tyX1 : Nat → FieldType := fun k => match k with
  | 0 => .array .int
  | 1 => .array .boolean
  | 2 => .int
  | 3 => .array .long
  | 4 => .array .int
  | _ => .int
abbrev wsX10 : List Cond := u_ws RX1 TX1 6
theorem nmX1 : ∀ a, a < 6 → ∀ b, b < 6 → a ≠ b → (TX1 a).2.1 ≠ (TX1 b).2.1 := by decide +kernel
theorem tyX1_ok : ∀ k, k < 6 → parseFieldDescriptor (TX1 k).2.2.1 = some (tyX1 k) := by decide +kernel
abbrev cX1_init : ByteArray := prog_3_method_1_code
def yX1_init : MethodName := ⟨RX1, "<init>", "()V"⟩
abbrev cX1_takeFaces : ByteArray := prog_3_method_2_code
def yX1_takeFaces : MethodName := ⟨RX1, "takeFaces", "(LShellPeel$Facets;)V"⟩
abbrev cX1_takeLink : ByteArray := prog_3_method_3_code
def yX1_takeLink : MethodName := ⟨RX1, "takeLink", "(LShellPeel$Facets;I)V"⟩
abbrev cX1_takeDual : ByteArray := prog_3_method_4_code
def yX1_takeDual : MethodName := ⟨RX1, "takeDual", "(LShellPeel$Facets;)V"⟩
abbrev cX1_clear : ByteArray := prog_3_method_5_code
def yX1_clear : MethodName := ⟨RX1, "clear", "()V"⟩
abbrev cX1_rowOf : ByteArray := prog_3_method_6_code
def yX1_rowOf : MethodName := ⟨RX1, "rowOf", "(I)J"⟩
abbrev cX1_settle : ByteArray := prog_3_method_7_code
def yX1_settle : MethodName := ⟨RX1, "settle", "(JI)Z"⟩
abbrev cX1_rankOf : ByteArray := prog_3_method_8_code
def yX1_rankOf : MethodName := ⟨RX1, "rankOf", "(I)I"⟩
abbrev cX1_countOf : ByteArray := prog_3_method_9_code
def yX1_countOf : MethodName := ⟨RX1, "countOf", "(I)I"⟩
abbrev cX1_roundOf : ByteArray := prog_3_method_10_code
def yX1_roundOf : MethodName := ⟨RX1, "roundOf", "(I)I"⟩
abbrev cX1_isFlatLink : ByteArray := prog_3_method_11_code
def yX1_isFlatLink : MethodName := ⟨RX1, "isFlatLink", "(LShellPeel$Facets;I)Z"⟩
abbrev cX1_cycleOf : ByteArray := prog_3_method_12_code
def yX1_cycleOf : MethodName := ⟨RX1, "cycleOf", "(LShellPeel$Facets;II)I"⟩
def RX2 : String := "ShellPeel$Orders"
def TX2 : u_T := fun k => match k with
  | 0 => ("ShellPeel$Orders", "known", "Z", false)
  | 1 => ("ShellPeel$Orders", "ways", "[I", true)
  | 2 => ("ShellPeel$Orders", "ready", "[I", true)
  | _ => ("ShellPeel$Orders", "onward", "[I", true)
def tyX2 : Nat → FieldType := fun k => match k with
  | 0 => .boolean
  | 1 => .array .int
  | 2 => .array .int
  | _ => .array .int
abbrev wsX20 : List Cond := u_ws RX2 TX2 4
theorem nmX2 : ∀ a, a < 4 → ∀ b, b < 4 → a ≠ b → (TX2 a).2.1 ≠ (TX2 b).2.1 := by decide +kernel
theorem tyX2_ok : ∀ k, k < 4 → parseFieldDescriptor (TX2 k).2.2.1 = some (tyX2 k) := by decide +kernel
abbrev cX2_init : ByteArray := prog_4_method_1_code
def yX2_init : MethodName := ⟨RX2, "<init>", "()V"⟩
abbrev cX2_fill : ByteArray := prog_4_method_2_code
def yX2_fill : MethodName := ⟨RX2, "fill", "(LShellPeel$Facets;)V"⟩
abbrev cX2_fillWays : ByteArray := prog_4_method_3_code
def yX2_fillWays : MethodName := ⟨RX2, "fillWays", "(LShellPeel$Facets;)V"⟩
abbrev cX2_pushOn : ByteArray := prog_4_method_4_code
def yX2_pushOn : MethodName := ⟨RX2, "pushOn", "(LShellPeel$Facets;I)V"⟩
abbrev cX2_fillOnward : ByteArray := prog_4_method_5_code
def yX2_fillOnward : MethodName := ⟨RX2, "fillOnward", "(LShellPeel$Facets;)V"⟩
abbrev cX2_sumOnward : ByteArray := prog_4_method_6_code
def yX2_sumOnward : MethodName := ⟨RX2, "sumOnward", "(LShellPeel$Facets;I)I"⟩
abbrev cX2_leastAt : ByteArray := prog_4_method_7_code
def yX2_leastAt : MethodName := ⟨RX2, "leastAt", "(LShellPeel$Facets;I)I"⟩
abbrev cX2_leastOnward : ByteArray := prog_4_method_8_code
def yX2_leastOnward : MethodName := ⟨RX2, "leastOnward", "(LShellPeel$Facets;I)I"⟩
abbrev cX2_lastOnes : ByteArray := prog_4_method_9_code
def yX2_lastOnes : MethodName := ⟨RX2, "lastOnes", "(LShellPeel$Facets;)I"⟩
abbrev cX2_deadEnd : ByteArray := prog_4_method_10_code
def yX2_deadEnd : MethodName := ⟨RX2, "deadEnd", "(LShellPeel$Facets;)I"⟩
abbrev cX2_largestBad : ByteArray := prog_4_method_11_code
def yX2_largestBad : MethodName := ⟨RX2, "largestBad", "(LShellPeel$Facets;)I"⟩
def RX3 : String := "ShellPeel$Row"
def TX3 : u_T := fun k => match k with
  | _ => ("ShellPeel$Row", "at", "[I", true)
def tyX3 : Nat → FieldType := fun k => match k with
  | _ => .array .int
abbrev wsX30 : List Cond := u_ws RX3 TX3 1
theorem nmX3 : ∀ a, a < 1 → ∀ b, b < 1 → a ≠ b → (TX3 a).2.1 ≠ (TX3 b).2.1 := by decide +kernel
theorem tyX3_ok : ∀ k, k < 1 → parseFieldDescriptor (TX3 k).2.2.1 = some (tyX3 k) := by decide +kernel
abbrev cX3_init : ByteArray := prog_5_method_1_code
def yX3_init : MethodName := ⟨RX3, "<init>", "()V"⟩
abbrev cX3_reset : ByteArray := prog_5_method_2_code
def yX3_reset : MethodName := ⟨RX3, "reset", "()V"⟩
abbrev cX3_append : ByteArray := prog_5_method_3_code
def yX3_append : MethodName := ⟨RX3, "append", "(I)V"⟩
abbrev cX3_remove : ByteArray := prog_5_method_4_code
def yX3_remove : MethodName := ⟨RX3, "remove", "(II)V"⟩
abbrev cX3_exchange : ByteArray := prog_5_method_5_code
def yX3_exchange : MethodName := ⟨RX3, "exchange", "(I)V"⟩
abbrev cX3_carry : ByteArray := prog_5_method_6_code
def yX3_carry : MethodName := ⟨RX3, "carry", "(II)V"⟩
abbrev cX3_isPlace : ByteArray := prog_5_method_7_code
def yX3_isPlace : MethodName := ⟨RX3, "isPlace", "(LShellPeel$Facets;I)Z"⟩
abbrev cX3_ahead : ByteArray := prog_5_method_8_code
def yX3_ahead : MethodName := ⟨RX3, "ahead", "(I)I"⟩
abbrev cX3_fitsAt : ByteArray := prog_5_method_9_code
def yX3_fitsAt : MethodName := ⟨RX3, "fitsAt", "(LShellPeel$Facets;I)Z"⟩
abbrev cX3_restriction : ByteArray := prog_5_method_10_code
def yX3_restriction : MethodName := ⟨RX3, "restriction", "(LShellPeel$Facets;I)I"⟩
abbrev cX3_goodStart : ByteArray := prog_5_method_11_code
def yX3_goodStart : MethodName := ⟨RX3, "goodStart", "(LShellPeel$Facets;)I"⟩
abbrev cX3_nthBreak : ByteArray := prog_5_method_12_code
def yX3_nthBreak : MethodName := ⟨RX3, "nthBreak", "(LShellPeel$Facets;I)I"⟩
abbrev cX3_countRestrictions : ByteArray := prog_5_method_13_code
def yX3_countRestrictions : MethodName := ⟨RX3, "countRestrictions", "(LShellPeel$Facets;I)I"⟩
abbrev cX3_isSpanning : ByteArray := prog_5_method_14_code
def yX3_isSpanning : MethodName := ⟨RX3, "isSpanning", "(LShellPeel$Facets;I)Z"⟩
abbrev cX3_nthSpanning : ByteArray := prog_5_method_15_code
def yX3_nthSpanning : MethodName := ⟨RX3, "nthSpanning", "(LShellPeel$Facets;I)I"⟩
abbrev cX3_spanningFacets : ByteArray := prog_5_method_16_code
def yX3_spanningFacets : MethodName := ⟨RX3, "spanningFacets", "(LShellPeel$Facets;)I"⟩
abbrev cX3_firstWith : ByteArray := prog_5_method_17_code
def yX3_firstWith : MethodName := ⟨RX3, "firstWith", "(LShellPeel$Facets;I)I"⟩
abbrev cX3_countBetween : ByteArray := prog_5_method_18_code
def yX3_countBetween : MethodName := ⟨RX3, "countBetween", "(LShellPeel$Facets;I)I"⟩
abbrev cX3_leapOver : ByteArray := prog_5_method_19_code
def yX3_leapOver : MethodName := ⟨RX3, "leapOver", "(LShellPeel$Facets;II)I"⟩
abbrev cX3_isLeast : ByteArray := prog_5_method_20_code
def yX3_isLeast : MethodName := ⟨RX3, "isLeast", "(LShellPeel$Facets;II)Z"⟩
abbrev cX3_isLeap : ByteArray := prog_5_method_21_code
def yX3_isLeap : MethodName := ⟨RX3, "isLeap", "(LShellPeel$Facets;II)Z"⟩
abbrev cX3_nthLeap : ByteArray := prog_5_method_22_code
def yX3_nthLeap : MethodName := ⟨RX3, "nthLeap", "(LShellPeel$Facets;II)I"⟩
abbrev cX3_countLeaps : ByteArray := prog_5_method_23_code
def yX3_countLeaps : MethodName := ⟨RX3, "countLeaps", "(LShellPeel$Facets;I)I"⟩
abbrev cX3_hasSingleLeaps : ByteArray := prog_5_method_24_code
def yX3_hasSingleLeaps : MethodName := ⟨RX3, "hasSingleLeaps", "(LShellPeel$Facets;I)Z"⟩
def RX4 : String := "ShellPeel$Shedding"
def TX4 : u_T := fun k => match k with
  | 0 => ("ShellPeel$Shedding", "known", "Z", false)
  | 1 => ("ShellPeel$Shedding", "seen", "[I", true)
  | _ => ("ShellPeel$Shedding", "falling", "[I", true)
def tyX4 : Nat → FieldType := fun k => match k with
  | 0 => .boolean
  | 1 => .array .int
  | _ => .array .int
abbrev wsX40 : List Cond := u_ws RX4 TX4 3
theorem nmX4 : ∀ a, a < 3 → ∀ b, b < 3 → a ≠ b → (TX4 a).2.1 ≠ (TX4 b).2.1 := by decide +kernel
theorem tyX4_ok : ∀ k, k < 3 → parseFieldDescriptor (TX4 k).2.2.1 = some (tyX4 k) := by decide +kernel
abbrev cX4_init : ByteArray := prog_6_method_1_code
def yX4_init : MethodName := ⟨RX4, "<init>", "()V"⟩
abbrev cX4_begin : ByteArray := prog_6_method_2_code
def yX4_begin : MethodName := ⟨RX4, "begin", "()V"⟩
abbrev cX4_falls : ByteArray := prog_6_method_3_code
def yX4_falls : MethodName := ⟨RX4, "falls", "(LShellPeel$Facets;II)Z"⟩
abbrev cX4_leastPoint : ByteArray := prog_6_method_4_code
def yX4_leastPoint : MethodName := ⟨RX4, "leastPoint", "(LShellPeel$Facets;II)I"⟩
def RX5 : String := "ShellPeel$Tape"
def TX5 : u_T := fun k => match k with
  | 0 => ("ShellPeel$Tape", "bytes", "[I", true)
  | 1 => ("ShellPeel$Tape", "filled", "I", false)
  | 2 => ("ShellPeel$Tape", "fault", "I", false)
  | 3 => ("ShellPeel$Tape", "place", "I", false)
  | 4 => ("ShellPeel$Tape", "sets", "[I", true)
  | 5 => ("ShellPeel$Tape", "points", "I", false)
  | 6 => ("ShellPeel$Tape", "size", "I", false)
  | 7 => ("ShellPeel$Tape", "count", "I", false)
  | 8 => ("ShellPeel$Tape", "end", "I", false)
  | 9 => ("ShellPeel$Tape", "kind", "I", false)
  | 10 => ("ShellPeel$Tape", "start", "I", false)
  | 11 => ("ShellPeel$Tape", "next", "I", false)
  | _ => ("ShellPeel$Tape", "whole", "I", false)
def tyX5 : Nat → FieldType := fun k => match k with
  | 0 => .array .int
  | 1 => .int
  | 2 => .int
  | 3 => .int
  | 4 => .array .int
  | 5 => .int
  | 6 => .int
  | 7 => .int
  | 8 => .int
  | 9 => .int
  | 10 => .int
  | 11 => .int
  | _ => .int
abbrev wsX50 : List Cond := u_ws RX5 TX5 13
theorem nmX5 : ∀ a, a < 13 → ∀ b, b < 13 → a ≠ b → (TX5 a).2.1 ≠ (TX5 b).2.1 := by decide +kernel
theorem tyX5_ok : ∀ k, k < 13 → parseFieldDescriptor (TX5 k).2.2.1 = some (tyX5 k) := by decide +kernel
abbrev cX5_init : ByteArray := prog_7_method_1_code
def yX5_init : MethodName := ⟨RX5, "<init>", "()V"⟩
abbrev cX5_hasRoom : ByteArray := prog_7_method_2_code
def yX5_hasRoom : MethodName := ⟨RX5, "hasRoom", "()Z"⟩
abbrev cX5_takeFour : ByteArray := prog_7_method_3_code
def yX5_takeFour : MethodName := ⟨RX5, "takeFour", "(I)V"⟩
abbrev cX5_readAll : ByteArray := prog_7_method_4_code
def yX5_readAll : MethodName := ⟨RX5, "readAll", "(I)Z"⟩
abbrev cX5_failed : ByteArray := prog_7_method_5_code
def yX5_failed : MethodName := ⟨RX5, "failed", "(I)Z"⟩
abbrev cX5_readLine : ByteArray := prog_7_method_6_code
def yX5_readLine : MethodName := ⟨RX5, "readLine", "()Z"⟩
abbrev cX5_readHead : ByteArray := prog_7_method_7_code
def yX5_readHead : MethodName := ⟨RX5, "readHead", "()Z"⟩
abbrev cX5_readFacet : ByteArray := prog_7_method_8_code
def yX5_readFacet : MethodName := ⟨RX5, "readFacet", "()Z"⟩
abbrev cX5_meets : ByteArray := prog_7_method_9_code
def yX5_meets : MethodName := ⟨RX5, "meets", "(Ljava/lang/String;)Z"⟩
abbrev cX5_meetsWhole : ByteArray := prog_7_method_10_code
def yX5_meetsWhole : MethodName := ⟨RX5, "meetsWhole", "(I)Z"⟩
abbrev cX5_wordSet : ByteArray := prog_7_method_11_code
def yX5_wordSet : MethodName := ⟨RX5, "wordSet", "()I"⟩
abbrev cX5_wordIs : ByteArray := prog_7_method_12_code
def yX5_wordIs : MethodName := ⟨RX5, "wordIs", "(Ljava/lang/String;)Z"⟩
abbrev cX5_step : ByteArray := prog_7_method_13_code
def yX5_step : MethodName := ⟨RX5, "step", "()V"⟩
abbrev cX5_passLetters : ByteArray := prog_7_method_14_code
def yX5_passLetters : MethodName := ⟨RX5, "passLetters", "()I"⟩
abbrev cX5_passDigits : ByteArray := prog_7_method_15_code
def yX5_passDigits : MethodName := ⟨RX5, "passDigits", "()I"⟩
abbrev cX5_isLetter : ByteArray := prog_7_method_16_code
def yX5_isLetter : MethodName := ⟨RX5, "isLetter", "(I)Z"⟩
abbrev cX5_isDigit : ByteArray := prog_7_method_17_code
def yX5_isDigit : MethodName := ⟨RX5, "isDigit", "(I)Z"⟩
def RX6 : String := "ShellPeel"
def TX6 : u_T := fun k => match k with
  | 0 => ("ShellPeel", "tape", "LShellPeel$Tape;", true)
  | 1 => ("ShellPeel", "facets", "LShellPeel$Facets;", true)
  | 2 => ("ShellPeel", "row", "LShellPeel$Row;", true)
  | 3 => ("ShellPeel", "halves", "LShellPeel$Halves;", true)
  | 4 => ("ShellPeel", "orders", "LShellPeel$Orders;", true)
  | 5 => ("ShellPeel", "shedding", "LShellPeel$Shedding;", true)
  | _ => ("ShellPeel", "trouble", "I", false)
def tyX6 : Nat → FieldType := fun k => match k with
  | 0 => .object "ShellPeel$Tape"
  | 1 => .object "ShellPeel$Facets"
  | 2 => .object "ShellPeel$Row"
  | 3 => .object "ShellPeel$Halves"
  | 4 => .object "ShellPeel$Orders"
  | 5 => .object "ShellPeel$Shedding"
  | _ => .int
abbrev wsX60 : List Cond := u_ws RX6 TX6 7
theorem nmX6 : ∀ a, a < 7 → ∀ b, b < 7 → a ≠ b → (TX6 a).2.1 ≠ (TX6 b).2.1 := by decide +kernel
theorem tyX6_ok : ∀ k, k < 7 → parseFieldDescriptor (TX6 k).2.2.1 = some (tyX6 k) := by decide +kernel
abbrev cX6_init : ByteArray := prog_1_method_1_code
def yX6_init : MethodName := ⟨RX6, "<init>", "()V"⟩
abbrev cX6_feed : ByteArray := prog_1_method_2_code
def yX6_feed : MethodName := ⟨RX6, "feed", "(IIIII)I"⟩
abbrev cX6_complex : ByteArray := prog_1_method_3_code
def yX6_complex : MethodName := ⟨RX6, "complex", "(I)I"⟩
abbrev cX6_fault : ByteArray := prog_1_method_4_code
def yX6_fault : MethodName := ⟨RX6, "fault", "()I"⟩
abbrev cX6_where : ByteArray := prog_1_method_5_code
def yX6_where : MethodName := ⟨RX6, "where", "()I"⟩
abbrev cX6_about : ByteArray := prog_1_method_6_code
def yX6_about : MethodName := ⟨RX6, "about", "(I)I"⟩
abbrev cX6_facet : ByteArray := prog_1_method_7_code
def yX6_facet : MethodName := ⟨RX6, "facet", "(I)I"⟩
abbrev cX6_within : ByteArray := prog_1_method_8_code
def yX6_within : MethodName := ⟨RX6, "within", "(I)I"⟩
abbrev cX6_missing : ByteArray := prog_1_method_9_code
def yX6_missing : MethodName := ⟨RX6, "missing", "(I)I"⟩
abbrev cX6_faces : ByteArray := prog_1_method_10_code
def yX6_faces : MethodName := ⟨RX6, "faces", "(I)I"⟩
abbrev cX6_h : ByteArray := prog_1_method_11_code
def yX6_h : MethodName := ⟨RX6, "h", "(I)I"⟩
abbrev cX6_euler : ByteArray := prog_1_method_12_code
def yX6_euler : MethodName := ⟨RX6, "euler", "()I"⟩
abbrev cX6_rank : ByteArray := prog_1_method_13_code
def yX6_rank : MethodName := ⟨RX6, "rank", "(I)I"⟩
abbrev cX6_round : ByteArray := prog_1_method_14_code
def yX6_round : MethodName := ⟨RX6, "round", "(I)I"⟩
abbrev cX6_dual : ByteArray := prog_1_method_15_code
def yX6_dual : MethodName := ⟨RX6, "dual", "(I)I"⟩
abbrev cX6_dualRound : ByteArray := prog_1_method_16_code
def yX6_dualRound : MethodName := ⟨RX6, "dualRound", "(I)I"⟩
abbrev cX6_near : ByteArray := prog_1_method_17_code
def yX6_near : MethodName := ⟨RX6, "near", "(I)I"⟩
abbrev cX6_apart : ByteArray := prog_1_method_18_code
def yX6_apart : MethodName := ⟨RX6, "apart", "(II)I"⟩
abbrev cX6_ordered : ByteArray := prog_1_method_19_code
def yX6_ordered : MethodName := ⟨RX6, "ordered", "(I)I"⟩
abbrev cX6_joins : ByteArray := prog_1_method_20_code
def yX6_joins : MethodName := ⟨RX6, "joins", "(I)I"⟩
abbrev cX6_restricted : ByteArray := prog_1_method_21_code
def yX6_restricted : MethodName := ⟨RX6, "restricted", "(I)I"⟩
abbrev cX6_good : ByteArray := prog_1_method_22_code
def yX6_good : MethodName := ⟨RX6, "good", "()I"⟩
abbrev cX6_sized : ByteArray := prog_1_method_23_code
def yX6_sized : MethodName := ⟨RX6, "sized", "(I)I"⟩
abbrev cX6_spanning : ByteArray := prog_1_method_24_code
def yX6_spanning : MethodName := ⟨RX6, "spanning", "(I)I"⟩
abbrev cX6_cycle : ByteArray := prog_1_method_25_code
def yX6_cycle : MethodName := ⟨RX6, "cycle", "(I)I"⟩
abbrev cX6_mean : ByteArray := prog_1_method_26_code
def yX6_mean : MethodName := ⟨RX6, "mean", "()D"⟩
abbrev cX6_cell : ByteArray := prog_1_method_27_code
def yX6_cell : MethodName := ⟨RX6, "cell", "(I)I"⟩
abbrev cX6_fresh : ByteArray := prog_1_method_28_code
def yX6_fresh : MethodName := ⟨RX6, "fresh", "(I)I"⟩
abbrev cX6_between : ByteArray := prog_1_method_29_code
def yX6_between : MethodName := ⟨RX6, "between", "(I)I"⟩
abbrev cX6_unparted : ByteArray := prog_1_method_30_code
def yX6_unparted : MethodName := ⟨RX6, "unparted", "()I"⟩
abbrev cX6_rebuilt : ByteArray := prog_1_method_31_code
def yX6_rebuilt : MethodName := ⟨RX6, "rebuilt", "(I)I"⟩
abbrev cX6_swaps : ByteArray := prog_1_method_32_code
def yX6_swaps : MethodName := ⟨RX6, "swaps", "()I"⟩
abbrev cX6_leaps : ByteArray := prog_1_method_33_code
def yX6_leaps : MethodName := ⟨RX6, "leaps", "(I)I"⟩
abbrev cX6_leap : ByteArray := prog_1_method_34_code
def yX6_leap : MethodName := ⟨RX6, "leap", "(II)I"⟩
abbrev cX6_linear : ByteArray := prog_1_method_35_code
def yX6_linear : MethodName := ⟨RX6, "linear", "()I"⟩
abbrev cX6_shellings : ByteArray := prog_1_method_36_code
def yX6_shellings : MethodName := ⟨RX6, "shellings", "()I"⟩
abbrev cX6_shelled : ByteArray := prog_1_method_37_code
def yX6_shelled : MethodName := ⟨RX6, "shelled", "(I)I"⟩
abbrev cX6_peelable : ByteArray := prog_1_method_38_code
def yX6_peelable : MethodName := ⟨RX6, "peelable", "()I"⟩
abbrev cX6_goesOn : ByteArray := prog_1_method_39_code
def yX6_goesOn : MethodName := ⟨RX6, "goesOn", "(I)I"⟩
abbrev cX6_stuck : ByteArray := prog_1_method_40_code
def yX6_stuck : MethodName := ⟨RX6, "stuck", "()I"⟩
abbrev cX6_peeled : ByteArray := prog_1_method_41_code
def yX6_peeled : MethodName := ⟨RX6, "peeled", "(I)I"⟩
abbrev cX6_link : ByteArray := prog_1_method_42_code
def yX6_link : MethodName := ⟨RX6, "link", "(I)I"⟩
abbrev cX6_linkRound : ByteArray := prog_1_method_43_code
def yX6_linkRound : MethodName := ⟨RX6, "linkRound", "(II)I"⟩
abbrev cX6_linkShellings : ByteArray := prog_1_method_44_code
def yX6_linkShellings : MethodName := ⟨RX6, "linkShellings", "(I)I"⟩
abbrev cX6_even : ByteArray := prog_1_method_45_code
def yX6_even : MethodName := ⟨RX6, "even", "()I"⟩
abbrev cX6_obstruction : ByteArray := prog_1_method_46_code
def yX6_obstruction : MethodName := ⟨RX6, "obstruction", "()I"⟩
abbrev cX6_fallsApart : ByteArray := prog_1_method_47_code
def yX6_fallsApart : MethodName := ⟨RX6, "fallsApart", "()I"⟩
abbrev cX6_shed : ByteArray := prog_1_method_48_code
def yX6_shed : MethodName := ⟨RX6, "shed", "()I"⟩
abbrev cX6_first : ByteArray := prog_1_method_49_code
def yX6_first : MethodName := ⟨RX6, "first", "()I"⟩
abbrev cX6_add : ByteArray := prog_1_method_50_code
def yX6_add : MethodName := ⟨RX6, "add", "(I)I"⟩
abbrev cX6_drop : ByteArray := prog_1_method_51_code
def yX6_drop : MethodName := ⟨RX6, "drop", "(I)I"⟩
abbrev cX6_peel : ByteArray := prog_1_method_52_code
def yX6_peel : MethodName := ⟨RX6, "peel", "()I"⟩
abbrev cX6_move : ByteArray := prog_1_method_53_code
def yX6_move : MethodName := ⟨RX6, "move", "(II)I"⟩
abbrev cX6_lay : ByteArray := prog_1_method_54_code
def yX6_lay : MethodName := ⟨RX6, "lay", "()I"⟩
abbrev cX6_turn : ByteArray := prog_1_method_55_code
def yX6_turn : MethodName := ⟨RX6, "turn", "(II)I"⟩
abbrev cX6_breaks : ByteArray := prog_1_method_56_code
def yX6_breaks : MethodName := ⟨RX6, "breaks", "(I)I"⟩
abbrev cX6_size : ByteArray := prog_1_method_57_code
def yX6_size : MethodName := ⟨RX6, "size", "()I"⟩
abbrev cX6_trouble : ByteArray := prog_1_method_58_code
def yX6_trouble : MethodName := ⟨RX6, "trouble", "()I"⟩
abbrev cX6_refused : ByteArray := prog_1_method_59_code
def yX6_refused : MethodName := ⟨RX6, "refused", "(ZI)Z"⟩
abbrev cX6_isEmpty : ByteArray := prog_1_method_60_code
def yX6_isEmpty : MethodName := ⟨RX6, "isEmpty", "()Z"⟩
abbrev cX6_refusesEmpty : ByteArray := prog_1_method_61_code
def yX6_refusesEmpty : MethodName := ⟨RX6, "refusesEmpty", "()Z"⟩
abbrev cX6_refusesUpTo : ByteArray := prog_1_method_62_code
def yX6_refusesUpTo : MethodName := ⟨RX6, "refusesUpTo", "(II)Z"⟩
abbrev cX6_refusesSet : ByteArray := prog_1_method_63_code
def yX6_refusesSet : MethodName := ⟨RX6, "refusesSet", "(I)Z"⟩
abbrev cX6_refusesFace : ByteArray := prog_1_method_64_code
def yX6_refusesFace : MethodName := ⟨RX6, "refusesFace", "(I)Z"⟩
abbrev cX6_refusesPlace : ByteArray := prog_1_method_65_code
def yX6_refusesPlace : MethodName := ⟨RX6, "refusesPlace", "(I)Z"⟩
abbrev cX6_renew : ByteArray := prog_1_method_66_code
def yX6_renew : MethodName := ⟨RX6, "renew", "()V"⟩
abbrev cX6_takeAway : ByteArray := prog_1_method_67_code
def yX6_takeAway : MethodName := ⟨RX6, "takeAway", "(I)V"⟩
abbrev cX6_allOrders : ByteArray := prog_1_method_68_code
def yX6_allOrders : MethodName := ⟨RX6, "allOrders", "()LShellPeel$Orders;"⟩
abbrev cX6_allSheddings : ByteArray := prog_1_method_69_code
def yX6_allSheddings : MethodName := ⟨RX6, "allSheddings", "()LShellPeel$Shedding;"⟩
def RX7 : String := "ShellPeelModel"
def TX7 : u_T := fun k => match k with
  | 0 => ("ShellPeelModel", "thrown", "I", false)
  | 1 => ("ShellPeelModel", "trouble", "I", false)
  | 2 => ("ShellPeelModel", "fault", "I", false)
  | 3 => ("ShellPeelModel", "where", "I", false)
  | 4 => ("ShellPeelModel", "tape", "[I", true)
  | 5 => ("ShellPeelModel", "taped", "I", false)
  | 6 => ("ShellPeelModel", "points", "I", false)
  | 7 => ("ShellPeelModel", "size0", "I", false)
  | 8 => ("ShellPeelModel", "facetMany", "I", false)
  | 9 => ("ShellPeelModel", "facets", "[I", true)
  | 10 => ("ShellPeelModel", "order", "[I", true)
  | 11 => ("ShellPeelModel", "isTold", "Z", false)
  | 12 => ("ShellPeelModel", "textLong", "I", false)
  | 13 => ("ShellPeelModel", "place", "I", false)
  | 14 => ("ShellPeelModel", "spot", "I", false)
  | 15 => ("ShellPeelModel", "token", "I", false)
  | 16 => ("ShellPeelModel", "whole", "I", false)
  | 17 => ("ShellPeelModel", "readFault", "I", false)
  | 18 => ("ShellPeelModel", "readPlace", "I", false)
  | 19 => ("ShellPeelModel", "readPoints", "I", false)
  | 20 => ("ShellPeelModel", "readSize", "I", false)
  | 21 => ("ShellPeelModel", "readMany", "I", false)
  | 22 => ("ShellPeelModel", "readFacets", "[I", true)
  | 23 => ("ShellPeelModel", "isFace", "[Z", true)
  | 24 => ("ShellPeelModel", "table", "[J", true)
  | 25 => ("ShellPeelModel", "along", "[I", true)
  | 26 => ("ShellPeelModel", "missed", "[I", true)
  | 27 => ("ShellPeelModel", "missedMany", "I", false)
  | 28 => ("ShellPeelModel", "lines", "[I", true)
  | 29 => ("ShellPeelModel", "waysTo", "[I", true)
  | 30 => ("ShellPeelModel", "waysOn", "[I", true)
  | 31 => ("ShellPeelModel", "leastRow", "[I", true)
  | 32 => ("ShellPeelModel", "linked", "[I", true)
  | _ => ("ShellPeelModel", "linkedMany", "I", false)
def tyX7 : Nat → FieldType := fun k => match k with
  | 0 => .int
  | 1 => .int
  | 2 => .int
  | 3 => .int
  | 4 => .array .int
  | 5 => .int
  | 6 => .int
  | 7 => .int
  | 8 => .int
  | 9 => .array .int
  | 10 => .array .int
  | 11 => .boolean
  | 12 => .int
  | 13 => .int
  | 14 => .int
  | 15 => .int
  | 16 => .int
  | 17 => .int
  | 18 => .int
  | 19 => .int
  | 20 => .int
  | 21 => .int
  | 22 => .array .int
  | 23 => .array .boolean
  | 24 => .array .long
  | 25 => .array .int
  | 26 => .array .int
  | 27 => .int
  | 28 => .array .int
  | 29 => .array .int
  | 30 => .array .int
  | 31 => .array .int
  | 32 => .array .int
  | _ => .int
abbrev wsX70 : List Cond := u_ws RX7 TX7 34
theorem nmX7 : ∀ a, a < 34 → ∀ b, b < 34 → a ≠ b → (TX7 a).2.1 ≠ (TX7 b).2.1 := by decide +kernel
theorem tyX7_ok : ∀ k, k < 34 → parseFieldDescriptor (TX7 k).2.2.1 = some (tyX7 k) := by decide +kernel
abbrev cX7_init : ByteArray := prog_9_method_1_code
def yX7_init : MethodName := ⟨RX7, "<init>", "()V"⟩
abbrev cX7_thrown : ByteArray := prog_9_method_2_code
def yX7_thrown : MethodName := ⟨RX7, "thrown", "()I"⟩
abbrev cX7_in : ByteArray := prog_9_method_3_code
def yX7_in : MethodName := ⟨RX7, "in", "(III)Z"⟩
abbrev cX7_has : ByteArray := prog_9_method_4_code
def yX7_has : MethodName := ⟨RX7, "has", "(II)Z"⟩
abbrev cX7_many : ByteArray := prog_9_method_5_code
def yX7_many : MethodName := ⟨RX7, "many", "(I)I"⟩
abbrev cX7_lies : ByteArray := prog_9_method_6_code
def yX7_lies : MethodName := ⟨RX7, "lies", "(II)Z"⟩
abbrev cX7_no : ByteArray := prog_9_method_7_code
def yX7_no : MethodName := ⟨RX7, "no", "(I)I"⟩
abbrev cX7_isRefused : ByteArray := prog_9_method_8_code
def yX7_isRefused : MethodName := ⟨RX7, "isRefused", "(I)Z"⟩
abbrev cX7_unless : ByteArray := prog_9_method_9_code
def yX7_unless : MethodName := ⟨RX7, "unless", "(Z)I"⟩
abbrev cX7_unless_ : ByteArray := prog_9_method_10_code
def yX7_unless_ : MethodName := ⟨RX7, "unless", "(ZZ)I"⟩
abbrev cX7_feed : ByteArray := prog_9_method_11_code
def yX7_feed : MethodName := ⟨RX7, "feed", "(IIIII)I"⟩
abbrev cX7_laysWord : ByteArray := prog_9_method_12_code
def yX7_laysWord : MethodName := ⟨RX7, "laysWord", "(I)V"⟩
abbrev cX7_see : ByteArray := prog_9_method_13_code
def yX7_see : MethodName := ⟨RX7, "see", "(I)I"⟩
abbrev cX7_goesOn : ByteArray := prog_9_method_14_code
def yX7_goesOn : MethodName := ⟨RX7, "goesOn", "()V"⟩
abbrev cX7_isWord : ByteArray := prog_9_method_15_code
def yX7_isWord : MethodName := ⟨RX7, "isWord", "(Ljava/lang/String;)Z"⟩
abbrev cX7_errs : ByteArray := prog_9_method_16_code
def yX7_errs : MethodName := ⟨RX7, "errs", "(I)Z"⟩
abbrev cX7_after : ByteArray := prog_9_method_17_code
def yX7_after : MethodName := ⟨RX7, "after", "(Ljava/lang/String;II)I"⟩
abbrev cX7_readComplex : ByteArray := prog_9_method_18_code
def yX7_readComplex : MethodName := ⟨RX7, "readComplex", "()Z"⟩
abbrev cX7_pointsOf : ByteArray := prog_9_method_19_code
def yX7_pointsOf : MethodName := ⟨RX7, "pointsOf", "()I"⟩
abbrev cX7_readFacet : ByteArray := prog_9_method_20_code
def yX7_readFacet : MethodName := ⟨RX7, "readFacet", "()Z"⟩
abbrev cX7_readLine : ByteArray := prog_9_method_21_code
def yX7_readLine : MethodName := ⟨RX7, "readLine", "()Z"⟩
abbrev cX7_readAll : ByteArray := prog_9_method_22_code
def yX7_readAll : MethodName := ⟨RX7, "readAll", "(I)Z"⟩
abbrev cX7_complex : ByteArray := prog_9_method_23_code
def yX7_complex : MethodName := ⟨RX7, "complex", "(I)I"⟩
abbrev cX7_fault : ByteArray := prog_9_method_24_code
def yX7_fault : MethodName := ⟨RX7, "fault", "()I"⟩
abbrev cX7_where : ByteArray := prog_9_method_25_code
def yX7_where : MethodName := ⟨RX7, "where", "()I"⟩
abbrev cX7_laysFaces : ByteArray := prog_9_method_26_code
def yX7_laysFaces : MethodName := ⟨RX7, "laysFaces", "([II)V"⟩
abbrev cX7_facesOf : ByteArray := prog_9_method_27_code
def yX7_facesOf : MethodName := ⟨RX7, "facesOf", "(I)I"⟩
abbrev cX7_rankOf : ByteArray := prog_9_method_28_code
def yX7_rankOf : MethodName := ⟨RX7, "rankOf", "(I)I"⟩
abbrev cX7_rankOfRows : ByteArray := prog_9_method_29_code
def yX7_rankOfRows : MethodName := ⟨RX7, "rankOfRows", "(I)I"⟩
abbrev cX7_roundOf : ByteArray := prog_9_method_30_code
def yX7_roundOf : MethodName := ⟨RX7, "roundOf", "(I)I"⟩
abbrev cX7_laysOwn : ByteArray := prog_9_method_31_code
def yX7_laysOwn : MethodName := ⟨RX7, "laysOwn", "()V"⟩
abbrev cX7_isAsked : ByteArray := prog_9_method_32_code
def yX7_isAsked : MethodName := ⟨RX7, "isAsked", "(Z)Z"⟩
abbrev cX7_isSized : ByteArray := prog_9_method_33_code
def yX7_isSized : MethodName := ⟨RX7, "isSized", "(I)Z"⟩
abbrev cX7_allPoints : ByteArray := prog_9_method_34_code
def yX7_allPoints : MethodName := ⟨RX7, "allPoints", "()I"⟩
abbrev cX7_isMissing : ByteArray := prog_9_method_35_code
def yX7_isMissing : MethodName := ⟨RX7, "isMissing", "(I)Z"⟩
abbrev cX7_laysMissing : ByteArray := prog_9_method_36_code
def yX7_laysMissing : MethodName := ⟨RX7, "laysMissing", "()V"⟩
abbrev cX7_sumOfFaces : ByteArray := prog_9_method_37_code
def yX7_sumOfFaces : MethodName := ⟨RX7, "sumOfFaces", "(Z)I"⟩
abbrev cX7_pointsIn : ByteArray := prog_9_method_38_code
def yX7_pointsIn : MethodName := ⟨RX7, "pointsIn", "(Z)I"⟩
abbrev cX7_about : ByteArray := prog_9_method_39_code
def yX7_about : MethodName := ⟨RX7, "about", "(I)I"⟩
abbrev cX7_isFacet : ByteArray := prog_9_method_40_code
def yX7_isFacet : MethodName := ⟨RX7, "isFacet", "(I)Z"⟩
abbrev cX7_facet : ByteArray := prog_9_method_41_code
def yX7_facet : MethodName := ⟨RX7, "facet", "(I)I"⟩
abbrev cX7_withinOf : ByteArray := prog_9_method_42_code
def yX7_withinOf : MethodName := ⟨RX7, "withinOf", "(I)I"⟩
abbrev cX7_isSet : ByteArray := prog_9_method_43_code
def yX7_isSet : MethodName := ⟨RX7, "isSet", "(I)Z"⟩
abbrev cX7_within : ByteArray := prog_9_method_44_code
def yX7_within : MethodName := ⟨RX7, "within", "(I)I"⟩
abbrev cX7_missing : ByteArray := prog_9_method_45_code
def yX7_missing : MethodName := ⟨RX7, "missing", "(I)I"⟩
abbrev cX7_faces : ByteArray := prog_9_method_46_code
def yX7_faces : MethodName := ⟨RX7, "faces", "(I)I"⟩
abbrev cX7_ways : ByteArray := prog_9_method_47_code
def yX7_ways : MethodName := ⟨RX7, "ways", "(II)I"⟩
abbrev cX7_h : ByteArray := prog_9_method_48_code
def yX7_h : MethodName := ⟨RX7, "h", "(I)I"⟩
abbrev cX7_euler : ByteArray := prog_9_method_49_code
def yX7_euler : MethodName := ⟨RX7, "euler", "()I"⟩
abbrev cX7_rank : ByteArray := prog_9_method_50_code
def yX7_rank : MethodName := ⟨RX7, "rank", "(I)I"⟩
abbrev cX7_round : ByteArray := prog_9_method_51_code
def yX7_round : MethodName := ⟨RX7, "round", "(I)I"⟩
abbrev cX7_dual : ByteArray := prog_9_method_52_code
def yX7_dual : MethodName := ⟨RX7, "dual", "(I)I"⟩
abbrev cX7_dualRound : ByteArray := prog_9_method_53_code
def yX7_dualRound : MethodName := ⟨RX7, "dualRound", "(I)I"⟩
abbrev cX7_areNear : ByteArray := prog_9_method_54_code
def yX7_areNear : MethodName := ⟨RX7, "areNear", "(II)Z"⟩
abbrev cX7_nearTo : ByteArray := prog_9_method_55_code
def yX7_nearTo : MethodName := ⟨RX7, "nearTo", "(I)I"⟩
abbrev cX7_near : ByteArray := prog_9_method_56_code
def yX7_near : MethodName := ⟨RX7, "near", "(I)I"⟩
abbrev cX7_apart : ByteArray := prog_9_method_57_code
def yX7_apart : MethodName := ⟨RX7, "apart", "(II)I"⟩
abbrev cX7_joinsSet : ByteArray := prog_9_method_58_code
def yX7_joinsSet : MethodName := ⟨RX7, "joinsSet", "([III)Z"⟩
abbrev cX7_ahead : ByteArray := prog_9_method_59_code
def yX7_ahead : MethodName := ⟨RX7, "ahead", "(I)I"⟩
abbrev cX7_joinsAt : ByteArray := prog_9_method_60_code
def yX7_joinsAt : MethodName := ⟨RX7, "joinsAt", "(I)Z"⟩
abbrev cX7_restrictionAt : ByteArray := prog_9_method_61_code
def yX7_restrictionAt : MethodName := ⟨RX7, "restrictionAt", "(I)I"⟩
abbrev cX7_ordered : ByteArray := prog_9_method_62_code
def yX7_ordered : MethodName := ⟨RX7, "ordered", "(I)I"⟩
abbrev cX7_joins : ByteArray := prog_9_method_63_code
def yX7_joins : MethodName := ⟨RX7, "joins", "(I)I"⟩
abbrev cX7_restricted : ByteArray := prog_9_method_64_code
def yX7_restricted : MethodName := ⟨RX7, "restricted", "(I)I"⟩
abbrev cX7_goodMany : ByteArray := prog_9_method_65_code
def yX7_goodMany : MethodName := ⟨RX7, "goodMany", "()I"⟩
abbrev cX7_good : ByteArray := prog_9_method_66_code
def yX7_good : MethodName := ⟨RX7, "good", "()I"⟩
abbrev cX7_sized : ByteArray := prog_9_method_67_code
def yX7_sized : MethodName := ⟨RX7, "sized", "(I)I"⟩
abbrev cX7_isSpanning : ByteArray := prog_9_method_68_code
def yX7_isSpanning : MethodName := ⟨RX7, "isSpanning", "(I)Z"⟩
abbrev cX7_spanningAt : ByteArray := prog_9_method_69_code
def yX7_spanningAt : MethodName := ⟨RX7, "spanningAt", "(I)I"⟩
abbrev cX7_spanning : ByteArray := prog_9_method_70_code
def yX7_spanning : MethodName := ⟨RX7, "spanning", "(I)I"⟩
abbrev cX7_cycle : ByteArray := prog_9_method_71_code
def yX7_cycle : MethodName := ⟨RX7, "cycle", "(I)I"⟩
abbrev cX7_solves : ByteArray := prog_9_method_72_code
def yX7_solves : MethodName := ⟨RX7, "solves", "(II)I"⟩
abbrev cX7_mean : ByteArray := prog_9_method_73_code
def yX7_mean : MethodName := ⟨RX7, "mean", "()D"⟩
abbrev cX7_cellOf : ByteArray := prog_9_method_74_code
def yX7_cellOf : MethodName := ⟨RX7, "cellOf", "(I)I"⟩
abbrev cX7_cell : ByteArray := prog_9_method_75_code
def yX7_cell : MethodName := ⟨RX7, "cell", "(I)I"⟩
abbrev cX7_fresh : ByteArray := prog_9_method_76_code
def yX7_fresh : MethodName := ⟨RX7, "fresh", "(I)I"⟩
abbrev cX7_betweenOf : ByteArray := prog_9_method_77_code
def yX7_betweenOf : MethodName := ⟨RX7, "betweenOf", "(I)I"⟩
abbrev cX7_between : ByteArray := prog_9_method_78_code
def yX7_between : MethodName := ⟨RX7, "between", "(I)I"⟩
abbrev cX7_unparted : ByteArray := prog_9_method_79_code
def yX7_unparted : MethodName := ⟨RX7, "unparted", "()I"⟩
abbrev cX7_rebuilt : ByteArray := prog_9_method_80_code
def yX7_rebuilt : MethodName := ⟨RX7, "rebuilt", "(I)I"⟩
abbrev cX7_changes : ByteArray := prog_9_method_81_code
def yX7_changes : MethodName := ⟨RX7, "changes", "(I)V"⟩
abbrev cX7_swaps : ByteArray := prog_9_method_82_code
def yX7_swaps : MethodName := ⟨RX7, "swaps", "()I"⟩
abbrev cX7_isLeap : ByteArray := prog_9_method_83_code
def yX7_isLeap : MethodName := ⟨RX7, "isLeap", "(II)Z"⟩
abbrev cX7_isLeastLeap : ByteArray := prog_9_method_84_code
def yX7_isLeastLeap : MethodName := ⟨RX7, "isLeastLeap", "(II)Z"⟩
abbrev cX7_leaps : ByteArray := prog_9_method_85_code
def yX7_leaps : MethodName := ⟨RX7, "leaps", "(I)I"⟩
abbrev cX7_leap : ByteArray := prog_9_method_86_code
def yX7_leap : MethodName := ⟨RX7, "leap", "(II)I"⟩
abbrev cX7_linear : ByteArray := prog_9_method_87_code
def yX7_linear : MethodName := ⟨RX7, "linear", "()I"⟩
abbrev cX7_laysWays : ByteArray := prog_9_method_88_code
def yX7_laysWays : MethodName := ⟨RX7, "laysWays", "([II)V"⟩
abbrev cX7_isLaid : ByteArray := prog_9_method_89_code
def yX7_isLaid : MethodName := ⟨RX7, "isLaid", "()Z"⟩
abbrev cX7_shellings : ByteArray := prog_9_method_90_code
def yX7_shellings : MethodName := ⟨RX7, "shellings", "()I"⟩
abbrev cX7_laysLeast : ByteArray := prog_9_method_91_code
def yX7_laysLeast : MethodName := ⟨RX7, "laysLeast", "()V"⟩
abbrev cX7_shelled : ByteArray := prog_9_method_92_code
def yX7_shelled : MethodName := ⟨RX7, "shelled", "(I)I"⟩
abbrev cX7_peelable : ByteArray := prog_9_method_93_code
def yX7_peelable : MethodName := ⟨RX7, "peelable", "()I"⟩
abbrev cX7_goesOn_ : ByteArray := prog_9_method_94_code
def yX7_goesOn_ : MethodName := ⟨RX7, "goesOn", "(I)I"⟩
abbrev cX7_stuck : ByteArray := prog_9_method_95_code
def yX7_stuck : MethodName := ⟨RX7, "stuck", "()I"⟩
abbrev cX7_peeled : ByteArray := prog_9_method_96_code
def yX7_peeled : MethodName := ⟨RX7, "peeled", "(I)I"⟩
abbrev cX7_canGo : ByteArray := prog_9_method_97_code
def yX7_canGo : MethodName := ⟨RX7, "canGo", "(I)I"⟩
abbrev cX7_laysLink : ByteArray := prog_9_method_98_code
def yX7_laysLink : MethodName := ⟨RX7, "laysLink", "(I)V"⟩
abbrev cX7_linkWhy : ByteArray := prog_9_method_99_code
def yX7_linkWhy : MethodName := ⟨RX7, "linkWhy", "(I)I"⟩
abbrev cX7_link : ByteArray := prog_9_method_100_code
def yX7_link : MethodName := ⟨RX7, "link", "(I)I"⟩
abbrev cX7_linkRound : ByteArray := prog_9_method_101_code
def yX7_linkRound : MethodName := ⟨RX7, "linkRound", "(II)I"⟩
abbrev cX7_linkShellings : ByteArray := prog_9_method_102_code
def yX7_linkShellings : MethodName := ⟨RX7, "linkShellings", "(I)I"⟩
abbrev cX7_isEvenLink : ByteArray := prog_9_method_103_code
def yX7_isEvenLink : MethodName := ⟨RX7, "isEvenLink", "(I)Z"⟩
abbrev cX7_even : ByteArray := prog_9_method_104_code
def yX7_even : MethodName := ⟨RX7, "even", "()I"⟩
abbrev cX7_obstruction : ByteArray := prog_9_method_105_code
def yX7_obstruction : MethodName := ⟨RX7, "obstruction", "()I"⟩
abbrev cX7_canShed : ByteArray := prog_9_method_106_code
def yX7_canShed : MethodName := ⟨RX7, "canShed", "(III)Z"⟩
abbrev cX7_withPoint : ByteArray := prog_9_method_107_code
def yX7_withPoint : MethodName := ⟨RX7, "withPoint", "(II)I"⟩
abbrev cX7_fallsOf : ByteArray := prog_9_method_108_code
def yX7_fallsOf : MethodName := ⟨RX7, "fallsOf", "(II)Z"⟩
abbrev cX7_bothFall : ByteArray := prog_9_method_109_code
def yX7_bothFall : MethodName := ⟨RX7, "bothFall", "(III)Z"⟩
abbrev cX7_allFacets : ByteArray := prog_9_method_110_code
def yX7_allFacets : MethodName := ⟨RX7, "allFacets", "()I"⟩
abbrev cX7_fallsApart : ByteArray := prog_9_method_111_code
def yX7_fallsApart : MethodName := ⟨RX7, "fallsApart", "()I"⟩
abbrev cX7_shed : ByteArray := prog_9_method_112_code
def yX7_shed : MethodName := ⟨RX7, "shed", "()I"⟩
abbrev cX7_first : ByteArray := prog_9_method_113_code
def yX7_first : MethodName := ⟨RX7, "first", "()I"⟩
abbrev cX7_add : ByteArray := prog_9_method_114_code
def yX7_add : MethodName := ⟨RX7, "add", "(I)I"⟩
abbrev cX7_goes : ByteArray := prog_9_method_115_code
def yX7_goes : MethodName := ⟨RX7, "goes", "(I)V"⟩
abbrev cX7_drop : ByteArray := prog_9_method_116_code
def yX7_drop : MethodName := ⟨RX7, "drop", "(I)I"⟩
abbrev cX7_peel : ByteArray := prog_9_method_117_code
def yX7_peel : MethodName := ⟨RX7, "peel", "()I"⟩
abbrev cX7_move : ByteArray := prog_9_method_118_code
def yX7_move : MethodName := ⟨RX7, "move", "(II)I"⟩
abbrev cX7_lay : ByteArray := prog_9_method_119_code
def yX7_lay : MethodName := ⟨RX7, "lay", "()I"⟩
abbrev cX7_turn : ByteArray := prog_9_method_120_code
def yX7_turn : MethodName := ⟨RX7, "turn", "(II)I"⟩
abbrev cX7_breaks : ByteArray := prog_9_method_121_code
def yX7_breaks : MethodName := ⟨RX7, "breaks", "(I)I"⟩
abbrev cX7_size : ByteArray := prog_9_method_122_code
def yX7_size : MethodName := ⟨RX7, "size", "()I"⟩
abbrev cX7_trouble : ByteArray := prog_9_method_123_code
def yX7_trouble : MethodName := ⟨RX7, "trouble", "()I"⟩
def RJx145de : String := "java/io/Serializable"
def TJx145de : u_T := fun k => match k with
  | _ => ("", "", "", false)
def tyJx145de : Nat → FieldType := fun k => match k with
  | _ => .int
abbrev wsJx145de0 : List Cond := u_ws RJx145de TJx145de 0
theorem nmJx145de : ∀ a, a < 0 → ∀ b, b < 0 → a ≠ b → (TJx145de a).2.1 ≠ (TJx145de b).2.1 := by decide +kernel
theorem tyJx145de_ok : ∀ k, k < 0 → parseFieldDescriptor (TJx145de k).2.2.1 = some (tyJx145de k) := by decide +kernel
def RJx9f9b0 : String := "java/lang/CharSequence"
def TJx9f9b0 : u_T := fun k => match k with
  | _ => ("", "", "", false)
def tyJx9f9b0 : Nat → FieldType := fun k => match k with
  | _ => .int
abbrev wsJx9f9b00 : List Cond := u_ws RJx9f9b0 TJx9f9b0 0
theorem nmJx9f9b0 : ∀ a, a < 0 → ∀ b, b < 0 → a ≠ b → (TJx9f9b0 a).2.1 ≠ (TJx9f9b0 b).2.1 := by decide +kernel
theorem tyJx9f9b0_ok : ∀ k, k < 0 → parseFieldDescriptor (TJx9f9b0 k).2.2.1 = some (tyJx9f9b0 k) := by decide +kernel
def RJxb160c : String := "java/lang/Comparable"
def TJxb160c : u_T := fun k => match k with
  | _ => ("", "", "", false)
def tyJxb160c : Nat → FieldType := fun k => match k with
  | _ => .int
abbrev wsJxb160c0 : List Cond := u_ws RJxb160c TJxb160c 0
theorem nmJxb160c : ∀ a, a < 0 → ∀ b, b < 0 → a ≠ b → (TJxb160c a).2.1 ≠ (TJxb160c b).2.1 := by decide +kernel
theorem tyJxb160c_ok : ∀ k, k < 0 → parseFieldDescriptor (TJxb160c k).2.2.1 = some (tyJxb160c k) := by decide +kernel
def RJ6 : String := "java/lang/Integer"
def TJ6 : u_T := fun k => match k with
  | _ => ("", "", "", false)
def tyJ6 : Nat → FieldType := fun k => match k with
  | _ => .int
abbrev wsJ60 : List Cond := u_ws RJ6 TJ6 0
theorem nmJ6 : ∀ a, a < 0 → ∀ b, b < 0 → a ≠ b → (TJ6 a).2.1 ≠ (TJ6 b).2.1 := by decide +kernel
theorem tyJ6_ok : ∀ k, k < 0 → parseFieldDescriptor (TJ6 k).2.2.1 = some (tyJ6 k) := by decide +kernel
abbrev cJ6_bitCount_0f7a4 : ByteArray := prog_14_method_49_code
def yJ6_bitCount_0f7a4 : MethodName := ⟨RJ6, "bitCount", "(I)I"⟩
def RJ9 : String := "java/lang/Math"
def TJ9 : u_T := fun k => match k with
  | _ => ("", "", "", false)
def tyJ9 : Nat → FieldType := fun k => match k with
  | _ => .int
abbrev wsJ90 : List Cond := u_ws RJ9 TJ9 0
theorem nmJ9 : ∀ a, a < 0 → ∀ b, b < 0 → a ≠ b → (TJ9 a).2.1 ≠ (TJ9 b).2.1 := by decide +kernel
theorem tyJ9_ok : ∀ k, k < 0 → parseFieldDescriptor (TJ9 k).2.2.1 = some (tyJ9 k) := by decide +kernel
abbrev cJ9_max_7cf53 : ByteArray := prog_15_method_65_code
def yJ9_max_7cf53 : MethodName := ⟨RJ9, "max", "(II)I"⟩
abbrev cJ9_min_7cf53 : ByteArray := prog_15_method_69_code
def yJ9_min_7cf53 : MethodName := ⟨RJ9, "min", "(II)I"⟩
def RJ0 : String := "java/lang/String"
def TJ0 : u_T := fun k => match k with
  | _ => ("", "", "", false)
def tyJ0 : Nat → FieldType := fun k => match k with
  | _ => .int
abbrev wsJ00 : List Cond := u_ws RJ0 TJ0 0
theorem nmJ0 : ∀ a, a < 0 → ∀ b, b < 0 → a ≠ b → (TJ0 a).2.1 ≠ (TJ0 b).2.1 := by decide +kernel
theorem tyJ0_ok : ∀ k, k < 0 → parseFieldDescriptor (TJ0 k).2.2.1 = some (tyJ0 k) := by decide +kernel
abbrev cJ0_length_8abf5 : ByteArray := prog_17_method_54_code
def yJ0_length_8abf5 : MethodName := ⟨RJ0, "length", "()I"⟩
abbrev cJ0_charAt_5068e : ByteArray := prog_17_method_56_code
def yJ0_charAt_5068e : MethodName := ⟨RJ0, "charAt", "(I)C"⟩
abbrev cJ0_coder_7d493 : ByteArray := prog_17_method_152_code
def yJ0_coder_7d493 : MethodName := ⟨RJ0, "coder", "()B"⟩
abbrev cJ0_isLatin1_aae02 : ByteArray := prog_17_method_154_code
def yJ0_isLatin1_aae02 : MethodName := ⟨RJ0, "isLatin1", "()Z"⟩
abbrev cJ0_checkIndex_df160 : ByteArray := prog_17_method_155_code
def yJ0_checkIndex_df160 : MethodName := ⟨RJ0, "checkIndex", "(II)V"⟩
def RJ1 : String := "java/lang/StringLatin1"
def TJ1 : u_T := fun k => match k with
  | _ => ("", "", "", false)
def tyJ1 : Nat → FieldType := fun k => match k with
  | _ => .int
abbrev wsJ10 : List Cond := u_ws RJ1 TJ1 0
theorem nmJ1 : ∀ a, a < 0 → ∀ b, b < 0 → a ≠ b → (TJ1 a).2.1 ≠ (TJ1 b).2.1 := by decide +kernel
theorem tyJ1_ok : ∀ k, k < 0 → parseFieldDescriptor (TJ1 k).2.2.1 = some (tyJ1 k) := by decide +kernel
abbrev cJ1_charAt_3b067 : ByteArray := prog_18_method_2_code
def yJ1_charAt_3b067 : MethodName := ⟨RJ1, "charAt", "([BI)C"⟩
def RJ2 : String := "java/lang/StringUTF16"
def TJ2 : u_T := fun k => match k with
  | _ => ("", "", "", false)
def tyJ2 : Nat → FieldType := fun k => match k with
  | _ => .int
abbrev wsJ20 : List Cond := u_ws RJ2 TJ2 0
theorem nmJ2 : ∀ a, a < 0 → ∀ b, b < 0 → a ≠ b → (TJ2 a).2.1 ≠ (TJ2 b).2.1 := by decide +kernel
theorem tyJ2_ok : ∀ k, k < 0 → parseFieldDescriptor (TJ2 k).2.2.1 = some (tyJ2 k) := by decide +kernel
abbrev cJ2_getChar_3b067 : ByteArray := prog_19_method_5_code
def yJ2_getChar_3b067 : MethodName := ⟨RJ2, "getChar", "([BI)C"⟩
abbrev cJ2_length_9d52b : ByteArray := prog_19_method_6_code
def yJ2_length_9d52b : MethodName := ⟨RJ2, "length", "([B)I"⟩
abbrev cJ2_charAt_3b067 : ByteArray := prog_19_method_83_code
def yJ2_charAt_3b067 : MethodName := ⟨RJ2, "charAt", "([BI)C"⟩
abbrev cJ2_checkIndex_2214a : ByteArray := prog_19_method_91_code
def yJ2_checkIndex_2214a : MethodName := ⟨RJ2, "checkIndex", "(I[B)V"⟩
def RJxfd54e : String := "java/lang/constant/Constable"
def TJxfd54e : u_T := fun k => match k with
  | _ => ("", "", "", false)
def tyJxfd54e : Nat → FieldType := fun k => match k with
  | _ => .int
abbrev wsJxfd54e0 : List Cond := u_ws RJxfd54e TJxfd54e 0
theorem nmJxfd54e : ∀ a, a < 0 → ∀ b, b < 0 → a ≠ b → (TJxfd54e a).2.1 ≠ (TJxfd54e b).2.1 := by decide +kernel
theorem tyJxfd54e_ok : ∀ k, k < 0 → parseFieldDescriptor (TJxfd54e k).2.2.1 = some (tyJxfd54e k) := by decide +kernel
def RJx3cf43 : String := "java/lang/constant/ConstantDesc"
def TJx3cf43 : u_T := fun k => match k with
  | _ => ("", "", "", false)
def tyJx3cf43 : Nat → FieldType := fun k => match k with
  | _ => .int
abbrev wsJx3cf430 : List Cond := u_ws RJx3cf43 TJx3cf43 0
theorem nmJx3cf43 : ∀ a, a < 0 → ∀ b, b < 0 → a ≠ b → (TJx3cf43 a).2.1 ≠ (TJx3cf43 b).2.1 := by decide +kernel
theorem tyJx3cf43_ok : ∀ k, k < 0 → parseFieldDescriptor (TJx3cf43 k).2.2.1 = some (tyJx3cf43 k) := by decide +kernel
def RJ3 : String := "jdk/internal/util/Preconditions"
def TJ3 : u_T := fun k => match k with
  | _ => ("", "", "", false)
def tyJ3 : Nat → FieldType := fun k => match k with
  | _ => .int
abbrev wsJ30 : List Cond := u_ws RJ3 TJ3 0
theorem nmJ3 : ∀ a, a < 0 → ∀ b, b < 0 → a ≠ b → (TJ3 a).2.1 ≠ (TJ3 b).2.1 := by decide +kernel
theorem tyJ3_ok : ∀ k, k < 0 → parseFieldDescriptor (TJ3 k).2.2.1 = some (tyJ3 k) := by decide +kernel
abbrev cJ3_checkIndex_8e157 : ByteArray := prog_24_method_11_code
def yJ3_checkIndex_8e157 : MethodName := ⟨RJ3, "checkIndex", "(IILjava/util/function/BiFunction;)I"⟩
def RL : String := "ShellPeelLaw"
abbrev cL_breaks : ByteArray := method_3_code
def yL_breaks : MethodName := ⟨RL, "breaks", "(LShellPeel;I[J)I"⟩
abbrev cL_law : ByteArray := code
def yL_law : MethodName := ⟨RL, "law", "([I)Z"⟩
abbrev vwCl : List vw_C := [(RX0, TX0, 7), (RX1, TX1, 6), (RX2, TX2, 4), (RX3, TX3, 1), (RX4, TX4, 3), (RX5, TX5, 13), (RX6, TX6, 7), (RX7, TX7, 34)]
end
section
theorem dX7_init_0 : decode cX7_init 0 = .ok (.aload_n 0, 1) := by decide +kernel
theorem dX7_init_1 : decode cX7_init 1 = .ok (.invokespecial 3, 3) := by decide +kernel
theorem dX7_init_4 : decode cX7_init 4 = .ok (.aload_n 0, 1) := by decide +kernel
theorem dX7_init_5 : decode cX7_init 5 = .ok (.iconst (-1), 1) := by decide +kernel
theorem dX7_init_6 : decode cX7_init 6 = .ok (.putfield 9, 3) := by decide +kernel
theorem dX7_init_9 : decode cX7_init 9 = .ok (.aload_n 0, 1) := by decide +kernel
theorem dX7_init_10 : decode cX7_init 10 = .ok (.sipush 200, 3) := by decide +kernel
theorem dX7_init_13 : decode cX7_init 13 = .ok (.newarray .int, 2) := by decide +kernel
theorem dX7_init_15 : decode cX7_init 15 = .ok (.putfield 13, 3) := by decide +kernel
theorem dX7_init_18 : decode cX7_init 18 = .ok (.aload_n 0, 1) := by decide +kernel
theorem dX7_init_19 : decode cX7_init 19 = .ok (.bipush 12, 2) := by decide +kernel
theorem dX7_init_21 : decode cX7_init 21 = .ok (.newarray .int, 2) := by decide +kernel
theorem dX7_init_23 : decode cX7_init 23 = .ok (.putfield 17, 3) := by decide +kernel
theorem dX7_init_26 : decode cX7_init 26 = .ok (.aload_n 0, 1) := by decide +kernel
theorem dX7_init_27 : decode cX7_init 27 = .ok (.bipush 12, 2) := by decide +kernel
theorem dX7_init_29 : decode cX7_init 29 = .ok (.newarray .int, 2) := by decide +kernel
theorem dX7_init_31 : decode cX7_init 31 = .ok (.putfield 20, 3) := by decide +kernel
theorem dX7_init_34 : decode cX7_init 34 = .ok (.aload_n 0, 1) := by decide +kernel
theorem dX7_init_35 : decode cX7_init 35 = .ok (.bipush 12, 2) := by decide +kernel
theorem dX7_init_37 : decode cX7_init 37 = .ok (.newarray .int, 2) := by decide +kernel
theorem dX7_init_39 : decode cX7_init 39 = .ok (.putfield 23, 3) := by decide +kernel
theorem dX7_init_42 : decode cX7_init 42 = .ok (.aload_n 0, 1) := by decide +kernel
theorem dX7_init_43 : decode cX7_init 43 = .ok (.sipush 128, 3) := by decide +kernel
theorem dX7_init_46 : decode cX7_init 46 = .ok (.newarray .boolean, 2) := by decide +kernel
theorem dX7_init_48 : decode cX7_init 48 = .ok (.putfield 26, 3) := by decide +kernel
theorem dX7_init_51 : decode cX7_init 51 = .ok (.aload_n 0, 1) := by decide +kernel
theorem dX7_init_52 : decode cX7_init 52 = .ok (.sipush 128, 3) := by decide +kernel
theorem dX7_init_55 : decode cX7_init 55 = .ok (.newarray .long, 2) := by decide +kernel
theorem dX7_init_57 : decode cX7_init 57 = .ok (.putfield 30, 3) := by decide +kernel
theorem dX7_init_60 : decode cX7_init 60 = .ok (.aload_n 0, 1) := by decide +kernel
theorem dX7_init_61 : decode cX7_init 61 = .ok (.sipush 128, 3) := by decide +kernel
theorem dX7_init_64 : decode cX7_init 64 = .ok (.newarray .int, 2) := by decide +kernel
theorem dX7_init_66 : decode cX7_init 66 = .ok (.putfield 34, 3) := by decide +kernel
theorem dX7_init_69 : decode cX7_init 69 = .ok (.aload_n 0, 1) := by decide +kernel
theorem dX7_init_70 : decode cX7_init 70 = .ok (.sipush 128, 3) := by decide +kernel
theorem dX7_init_73 : decode cX7_init 73 = .ok (.newarray .int, 2) := by decide +kernel
theorem dX7_init_75 : decode cX7_init 75 = .ok (.putfield 37, 3) := by decide +kernel
theorem dX7_init_78 : decode cX7_init 78 = .ok (.aload_n 0, 1) := by decide +kernel
theorem dX7_init_79 : decode cX7_init 79 = .ok (.sipush 128, 3) := by decide +kernel
theorem dX7_init_82 : decode cX7_init 82 = .ok (.newarray .int, 2) := by decide +kernel
theorem dX7_init_84 : decode cX7_init 84 = .ok (.putfield 40, 3) := by decide +kernel
theorem dX7_init_87 : decode cX7_init 87 = .ok (.aload_n 0, 1) := by decide +kernel
theorem dX7_init_88 : decode cX7_init 88 = .ok (.sipush 4096, 3) := by decide +kernel
theorem dX7_init_91 : decode cX7_init 91 = .ok (.newarray .int, 2) := by decide +kernel
theorem dX7_init_93 : decode cX7_init 93 = .ok (.putfield 43, 3) := by decide +kernel
theorem dX7_init_96 : decode cX7_init 96 = .ok (.aload_n 0, 1) := by decide +kernel
theorem dX7_init_97 : decode cX7_init 97 = .ok (.sipush 4096, 3) := by decide +kernel
theorem dX7_init_100 : decode cX7_init 100 = .ok (.newarray .int, 2) := by decide +kernel
theorem dX7_init_102 : decode cX7_init 102 = .ok (.putfield 46, 3) := by decide +kernel
theorem dX7_init_105 : decode cX7_init 105 = .ok (.aload_n 0, 1) := by decide +kernel
theorem dX7_init_106 : decode cX7_init 106 = .ok (.bipush 12, 2) := by decide +kernel
theorem dX7_init_108 : decode cX7_init 108 = .ok (.newarray .int, 2) := by decide +kernel
theorem dX7_init_110 : decode cX7_init 110 = .ok (.putfield 49, 3) := by decide +kernel
theorem dX7_init_113 : decode cX7_init 113 = .ok (.aload_n 0, 1) := by decide +kernel
theorem dX7_init_114 : decode cX7_init 114 = .ok (.bipush 12, 2) := by decide +kernel
theorem dX7_init_116 : decode cX7_init 116 = .ok (.newarray .int, 2) := by decide +kernel
theorem dX7_init_118 : decode cX7_init 118 = .ok (.putfield 52, 3) := by decide +kernel
theorem dX7_init_121 : decode cX7_init 121 = .ok (.return_, 1) := by decide +kernel
theorem dX7_thrown_0 : decode cX7_thrown 0 = .ok (.aload_n 0, 1) := by decide +kernel
theorem dX7_thrown_1 : decode cX7_thrown 1 = .ok (.getfield 55, 3) := by decide +kernel
theorem dX7_thrown_4 : decode cX7_thrown 4 = .ok (.ireturn, 1) := by decide +kernel
theorem dX7_in_0 : decode cX7_in 0 = .ok (.iload_n 0, 1) := by decide +kernel
theorem dX7_in_1 : decode cX7_in 1 = .ok (.iload_n 1, 1) := by decide +kernel
theorem dX7_in_2 : decode cX7_in 2 = .ok (.if_icmp .lt 12, 3) := by decide +kernel
theorem dX7_in_5 : decode cX7_in 5 = .ok (.iload_n 0, 1) := by decide +kernel
theorem dX7_in_6 : decode cX7_in 6 = .ok (.iload_n 2, 1) := by decide +kernel
theorem dX7_in_7 : decode cX7_in 7 = .ok (.if_icmp .gt 7, 3) := by decide +kernel
theorem dX7_in_10 : decode cX7_in 10 = .ok (.iconst 1, 1) := by decide +kernel
theorem dX7_in_11 : decode cX7_in 11 = .ok (.goto 4, 3) := by decide +kernel
theorem dX7_in_14 : decode cX7_in 14 = .ok (.iconst 0, 1) := by decide +kernel
theorem dX7_in_15 : decode cX7_in 15 = .ok (.ireturn, 1) := by decide +kernel
theorem dX7_has_0 : decode cX7_has 0 = .ok (.iload_n 0, 1) := by decide +kernel
theorem dX7_has_1 : decode cX7_has 1 = .ok (.iload_n 1, 1) := by decide +kernel
theorem dX7_has_2 : decode cX7_has 2 = .ok (.ishr, 1) := by decide +kernel
theorem dX7_has_3 : decode cX7_has 3 = .ok (.iconst 1, 1) := by decide +kernel
theorem dX7_has_4 : decode cX7_has 4 = .ok (.iand, 1) := by decide +kernel
theorem dX7_has_5 : decode cX7_has 5 = .ok (.iconst 1, 1) := by decide +kernel
theorem dX7_has_6 : decode cX7_has 6 = .ok (.if_icmp .ne 7, 3) := by decide +kernel
theorem dX7_has_9 : decode cX7_has 9 = .ok (.iconst 1, 1) := by decide +kernel
theorem dX7_has_10 : decode cX7_has 10 = .ok (.goto 4, 3) := by decide +kernel
theorem dX7_has_13 : decode cX7_has 13 = .ok (.iconst 0, 1) := by decide +kernel
theorem dX7_has_14 : decode cX7_has 14 = .ok (.ireturn, 1) := by decide +kernel
theorem dX7_many_0 : decode cX7_many 0 = .ok (.iconst 0, 1) := by decide +kernel
theorem dX7_many_1 : decode cX7_many 1 = .ok (.istore_n 1, 1) := by decide +kernel
theorem dX7_many_2 : decode cX7_many 2 = .ok (.iload_n 0, 1) := by decide +kernel
theorem dX7_many_3 : decode cX7_many 3 = .ok (.istore_n 2, 1) := by decide +kernel
theorem dX7_many_4 : decode cX7_many 4 = .ok (.iload_n 2, 1) := by decide +kernel
theorem dX7_many_5 : decode cX7_many 5 = .ok (.ifCond .eq 15, 3) := by decide +kernel
theorem dX7_many_8 : decode cX7_many 8 = .ok (.iinc 1 1, 3) := by decide +kernel
theorem dX7_many_11 : decode cX7_many 11 = .ok (.iload_n 2, 1) := by decide +kernel
theorem dX7_many_12 : decode cX7_many 12 = .ok (.iload_n 2, 1) := by decide +kernel
theorem dX7_many_13 : decode cX7_many 13 = .ok (.iconst 1, 1) := by decide +kernel
theorem dX7_many_14 : decode cX7_many 14 = .ok (.isub, 1) := by decide +kernel
theorem dX7_many_15 : decode cX7_many 15 = .ok (.iand, 1) := by decide +kernel
theorem dX7_many_16 : decode cX7_many 16 = .ok (.istore_n 2, 1) := by decide +kernel
theorem dX7_many_17 : decode cX7_many 17 = .ok (.goto (-13), 3) := by decide +kernel
theorem dX7_many_20 : decode cX7_many 20 = .ok (.iload_n 1, 1) := by decide +kernel
theorem dX7_many_21 : decode cX7_many 21 = .ok (.ireturn, 1) := by decide +kernel
theorem dX7_lies_0 : decode cX7_lies 0 = .ok (.iload_n 0, 1) := by decide +kernel
theorem dX7_lies_1 : decode cX7_lies 1 = .ok (.iload_n 1, 1) := by decide +kernel
theorem dX7_lies_2 : decode cX7_lies 2 = .ok (.iconst (-1), 1) := by decide +kernel
theorem dX7_lies_3 : decode cX7_lies 3 = .ok (.ixor, 1) := by decide +kernel
theorem dX7_lies_4 : decode cX7_lies 4 = .ok (.iand, 1) := by decide +kernel
theorem dX7_lies_5 : decode cX7_lies 5 = .ok (.ifCond .ne 7, 3) := by decide +kernel
theorem dX7_lies_8 : decode cX7_lies 8 = .ok (.iconst 1, 1) := by decide +kernel
theorem dX7_lies_9 : decode cX7_lies 9 = .ok (.goto 4, 3) := by decide +kernel
theorem dX7_lies_12 : decode cX7_lies 12 = .ok (.iconst 0, 1) := by decide +kernel
theorem dX7_lies_13 : decode cX7_lies 13 = .ok (.ireturn, 1) := by decide +kernel
theorem dX7_no_0 : decode cX7_no 0 = .ok (.aload_n 0, 1) := by decide +kernel
theorem dX7_no_1 : decode cX7_no 1 = .ok (.iload_n 1, 1) := by decide +kernel
theorem dX7_no_2 : decode cX7_no 2 = .ok (.putfield 58, 3) := by decide +kernel
theorem dX7_no_5 : decode cX7_no 5 = .ok (.iconst (-1), 1) := by decide +kernel
theorem dX7_no_6 : decode cX7_no 6 = .ok (.ireturn, 1) := by decide +kernel
theorem dX7_isRefused_0 : decode cX7_isRefused 0 = .ok (.aload_n 0, 1) := by decide +kernel
theorem dX7_isRefused_1 : decode cX7_isRefused 1 = .ok (.iconst 0, 1) := by decide +kernel
theorem dX7_isRefused_2 : decode cX7_isRefused 2 = .ok (.putfield 55, 3) := by decide +kernel
theorem dX7_isRefused_5 : decode cX7_isRefused 5 = .ok (.aload_n 0, 1) := by decide +kernel
theorem dX7_isRefused_6 : decode cX7_isRefused 6 = .ok (.iconst (-1), 1) := by decide +kernel
theorem dX7_isRefused_7 : decode cX7_isRefused 7 = .ok (.putfield 9, 3) := by decide +kernel
theorem dX7_isRefused_10 : decode cX7_isRefused 10 = .ok (.aload_n 0, 1) := by decide +kernel
theorem dX7_isRefused_11 : decode cX7_isRefused 11 = .ok (.iload_n 1, 1) := by decide +kernel
theorem dX7_isRefused_12 : decode cX7_isRefused 12 = .ok (.putfield 58, 3) := by decide +kernel
theorem dX7_isRefused_15 : decode cX7_isRefused 15 = .ok (.iload_n 1, 1) := by decide +kernel
theorem dX7_isRefused_16 : decode cX7_isRefused 16 = .ok (.ifCond .eq 7, 3) := by decide +kernel
theorem dX7_isRefused_19 : decode cX7_isRefused 19 = .ok (.iconst 1, 1) := by decide +kernel
theorem dX7_isRefused_20 : decode cX7_isRefused 20 = .ok (.goto 4, 3) := by decide +kernel
theorem dX7_isRefused_23 : decode cX7_isRefused 23 = .ok (.iconst 0, 1) := by decide +kernel
theorem dX7_isRefused_24 : decode cX7_isRefused 24 = .ok (.ireturn, 1) := by decide +kernel
theorem dX7_unless_0 : decode cX7_unless 0 = .ok (.iload_n 0, 1) := by decide +kernel
theorem dX7_unless_1 : decode cX7_unless 1 = .ok (.ifCond .eq 7, 3) := by decide +kernel
theorem dX7_unless_4 : decode cX7_unless 4 = .ok (.iconst 0, 1) := by decide +kernel
theorem dX7_unless_5 : decode cX7_unless 5 = .ok (.goto 4, 3) := by decide +kernel
theorem dX7_unless_8 : decode cX7_unless 8 = .ok (.iconst 1, 1) := by decide +kernel
theorem dX7_unless_9 : decode cX7_unless 9 = .ok (.ireturn, 1) := by decide +kernel
theorem dX7_unless__0 : decode cX7_unless_ 0 = .ok (.iload_n 0, 1) := by decide +kernel
theorem dX7_unless__1 : decode cX7_unless_ 1 = .ok (.ifCond .ne 7, 3) := by decide +kernel
theorem dX7_unless__4 : decode cX7_unless_ 4 = .ok (.iconst 1, 1) := by decide +kernel
theorem dX7_unless__5 : decode cX7_unless_ 5 = .ok (.goto 12, 3) := by decide +kernel
theorem dX7_unless__8 : decode cX7_unless_ 8 = .ok (.iload_n 1, 1) := by decide +kernel
theorem dX7_unless__9 : decode cX7_unless_ 9 = .ok (.ifCond .eq 7, 3) := by decide +kernel
theorem dX7_unless__12 : decode cX7_unless_ 12 = .ok (.iconst 0, 1) := by decide +kernel
theorem dX7_unless__13 : decode cX7_unless_ 13 = .ok (.goto 4, 3) := by decide +kernel
theorem dX7_unless__16 : decode cX7_unless_ 16 = .ok (.iconst 2, 1) := by decide +kernel
theorem dX7_unless__17 : decode cX7_unless_ 17 = .ok (.ireturn, 1) := by decide +kernel
theorem dX7_feed_0 : decode cX7_feed 0 = .ok (.aload_n 0, 1) := by decide +kernel
theorem dX7_feed_1 : decode cX7_feed 1 = .ok (.iconst 0, 1) := by decide +kernel
theorem dX7_feed_2 : decode cX7_feed 2 = .ok (.putfield 55, 3) := by decide +kernel
theorem dX7_feed_5 : decode cX7_feed 5 = .ok (.aload_n 0, 1) := by decide +kernel
theorem dX7_feed_6 : decode cX7_feed 6 = .ok (.getfield 61, 3) := by decide +kernel
theorem dX7_feed_9 : decode cX7_feed 9 = .ok (.sipush 180, 3) := by decide +kernel
theorem dX7_feed_12 : decode cX7_feed 12 = .ok (.if_icmp .le 5, 3) := by decide +kernel
theorem dX7_feed_15 : decode cX7_feed 15 = .ok (.iconst (-1), 1) := by decide +kernel
theorem dX7_feed_16 : decode cX7_feed 16 = .ok (.ireturn, 1) := by decide +kernel
theorem dX7_feed_17 : decode cX7_feed 17 = .ok (.aload_n 0, 1) := by decide +kernel
theorem dX7_feed_18 : decode cX7_feed 18 = .ok (.iload_n 1, 1) := by decide +kernel
theorem dX7_feed_19 : decode cX7_feed 19 = .ok (.invokevirtual 64, 3) := by decide +kernel
theorem dX7_feed_22 : decode cX7_feed 22 = .ok (.aload_n 0, 1) := by decide +kernel
theorem dX7_feed_23 : decode cX7_feed 23 = .ok (.iload_n 2, 1) := by decide +kernel
theorem dX7_feed_24 : decode cX7_feed 24 = .ok (.invokevirtual 64, 3) := by decide +kernel
theorem dX7_feed_27 : decode cX7_feed 27 = .ok (.aload_n 0, 1) := by decide +kernel
theorem dX7_feed_28 : decode cX7_feed 28 = .ok (.iload_n 3, 1) := by decide +kernel
theorem dX7_feed_29 : decode cX7_feed 29 = .ok (.invokevirtual 64, 3) := by decide +kernel
theorem dX7_feed_32 : decode cX7_feed 32 = .ok (.aload_n 0, 1) := by decide +kernel
theorem dX7_feed_33 : decode cX7_feed 33 = .ok (.iload 4, 2) := by decide +kernel
theorem dX7_feed_35 : decode cX7_feed 35 = .ok (.invokevirtual 64, 3) := by decide +kernel
theorem dX7_feed_38 : decode cX7_feed 38 = .ok (.aload_n 0, 1) := by decide +kernel
theorem dX7_feed_39 : decode cX7_feed 39 = .ok (.iload 5, 2) := by decide +kernel
theorem dX7_feed_41 : decode cX7_feed 41 = .ok (.invokevirtual 64, 3) := by decide +kernel
theorem dX7_feed_44 : decode cX7_feed 44 = .ok (.aload_n 0, 1) := by decide +kernel
theorem dX7_feed_45 : decode cX7_feed 45 = .ok (.getfield 61, 3) := by decide +kernel
theorem dX7_feed_48 : decode cX7_feed 48 = .ok (.ireturn, 1) := by decide +kernel
theorem dX7_laysWord_0 : decode cX7_laysWord 0 = .ok (.iconst 0, 1) := by decide +kernel
theorem dX7_laysWord_1 : decode cX7_laysWord 1 = .ok (.istore_n 2, 1) := by decide +kernel
theorem dX7_laysWord_2 : decode cX7_laysWord 2 = .ok (.iload_n 2, 1) := by decide +kernel
theorem dX7_laysWord_3 : decode cX7_laysWord 3 = .ok (.iconst 4, 1) := by decide +kernel
theorem dX7_laysWord_4 : decode cX7_laysWord 4 = .ok (.if_icmp .ge 33, 3) := by decide +kernel
theorem dX7_laysWord_7 : decode cX7_laysWord 7 = .ok (.aload_n 0, 1) := by decide +kernel
theorem dX7_laysWord_8 : decode cX7_laysWord 8 = .ok (.getfield 13, 3) := by decide +kernel
theorem dX7_laysWord_11 : decode cX7_laysWord 11 = .ok (.aload_n 0, 1) := by decide +kernel
theorem dX7_laysWord_12 : decode cX7_laysWord 12 = .ok (.getfield 61, 3) := by decide +kernel
theorem dX7_laysWord_15 : decode cX7_laysWord 15 = .ok (.iload_n 2, 1) := by decide +kernel
theorem dX7_laysWord_16 : decode cX7_laysWord 16 = .ok (.iadd, 1) := by decide +kernel
theorem dX7_laysWord_17 : decode cX7_laysWord 17 = .ok (.iload_n 1, 1) := by decide +kernel
theorem dX7_laysWord_18 : decode cX7_laysWord 18 = .ok (.bipush 24, 2) := by decide +kernel
theorem dX7_laysWord_20 : decode cX7_laysWord 20 = .ok (.bipush 8, 2) := by decide +kernel
theorem dX7_laysWord_22 : decode cX7_laysWord 22 = .ok (.iload_n 2, 1) := by decide +kernel
theorem dX7_laysWord_23 : decode cX7_laysWord 23 = .ok (.imul, 1) := by decide +kernel
theorem dX7_laysWord_24 : decode cX7_laysWord 24 = .ok (.isub, 1) := by decide +kernel
theorem dX7_laysWord_25 : decode cX7_laysWord 25 = .ok (.ishr, 1) := by decide +kernel
theorem dX7_laysWord_26 : decode cX7_laysWord 26 = .ok (.sipush 255, 3) := by decide +kernel
theorem dX7_laysWord_29 : decode cX7_laysWord 29 = .ok (.iand, 1) := by decide +kernel
theorem dX7_laysWord_30 : decode cX7_laysWord 30 = .ok (.iastore, 1) := by decide +kernel
theorem dX7_laysWord_31 : decode cX7_laysWord 31 = .ok (.iinc 2 1, 3) := by decide +kernel
theorem dX7_laysWord_34 : decode cX7_laysWord 34 = .ok (.goto (-32), 3) := by decide +kernel
theorem dX7_laysWord_37 : decode cX7_laysWord 37 = .ok (.aload_n 0, 1) := by decide +kernel
theorem dX7_laysWord_38 : decode cX7_laysWord 38 = .ok (.dup, 1) := by decide +kernel
theorem dX7_laysWord_39 : decode cX7_laysWord 39 = .ok (.getfield 61, 3) := by decide +kernel
theorem dX7_laysWord_42 : decode cX7_laysWord 42 = .ok (.iconst 4, 1) := by decide +kernel
theorem dX7_laysWord_43 : decode cX7_laysWord 43 = .ok (.iadd, 1) := by decide +kernel
theorem dX7_laysWord_44 : decode cX7_laysWord 44 = .ok (.putfield 61, 3) := by decide +kernel
theorem dX7_laysWord_47 : decode cX7_laysWord 47 = .ok (.return_, 1) := by decide +kernel
theorem dX7_see_0 : decode cX7_see 0 = .ok (.iload_n 1, 1) := by decide +kernel
theorem dX7_see_1 : decode cX7_see 1 = .ok (.aload_n 0, 1) := by decide +kernel
theorem dX7_see_2 : decode cX7_see 2 = .ok (.getfield 68, 3) := by decide +kernel
theorem dX7_see_5 : decode cX7_see 5 = .ok (.if_icmp .ge 12, 3) := by decide +kernel
theorem dX7_see_8 : decode cX7_see 8 = .ok (.aload_n 0, 1) := by decide +kernel
theorem dX7_see_9 : decode cX7_see 9 = .ok (.getfield 13, 3) := by decide +kernel
theorem dX7_see_12 : decode cX7_see 12 = .ok (.iload_n 1, 1) := by decide +kernel
theorem dX7_see_13 : decode cX7_see 13 = .ok (.iaload, 1) := by decide +kernel
theorem dX7_see_14 : decode cX7_see 14 = .ok (.goto 4, 3) := by decide +kernel
theorem dX7_see_17 : decode cX7_see 17 = .ok (.iconst (-1), 1) := by decide +kernel
theorem dX7_see_18 : decode cX7_see 18 = .ok (.ireturn, 1) := by decide +kernel
theorem dX7_goesOn_0 : decode cX7_goesOn 0 = .ok (.aload_n 0, 1) := by decide +kernel
theorem dX7_goesOn_1 : decode cX7_goesOn 1 = .ok (.aload_n 0, 1) := by decide +kernel
theorem dX7_goesOn_2 : decode cX7_goesOn 2 = .ok (.getfield 71, 3) := by decide +kernel
theorem dX7_goesOn_5 : decode cX7_goesOn 5 = .ok (.invokevirtual 74, 3) := by decide +kernel
theorem dX7_goesOn_8 : decode cX7_goesOn 8 = .ok (.bipush 32, 2) := by decide +kernel
theorem dX7_goesOn_10 : decode cX7_goesOn 10 = .ok (.if_icmp .ne 16, 3) := by decide +kernel
theorem dX7_goesOn_13 : decode cX7_goesOn 13 = .ok (.aload_n 0, 1) := by decide +kernel
theorem dX7_goesOn_14 : decode cX7_goesOn 14 = .ok (.dup, 1) := by decide +kernel
theorem dX7_goesOn_15 : decode cX7_goesOn 15 = .ok (.getfield 71, 3) := by decide +kernel
theorem dX7_goesOn_18 : decode cX7_goesOn 18 = .ok (.iconst 1, 1) := by decide +kernel
theorem dX7_goesOn_19 : decode cX7_goesOn 19 = .ok (.iadd, 1) := by decide +kernel
theorem dX7_goesOn_20 : decode cX7_goesOn 20 = .ok (.putfield 71, 3) := by decide +kernel
theorem dX7_goesOn_23 : decode cX7_goesOn 23 = .ok (.goto (-23), 3) := by decide +kernel
theorem dX7_goesOn_26 : decode cX7_goesOn 26 = .ok (.aload_n 0, 1) := by decide +kernel
theorem dX7_goesOn_27 : decode cX7_goesOn 27 = .ok (.aload_n 0, 1) := by decide +kernel
theorem dX7_goesOn_28 : decode cX7_goesOn 28 = .ok (.getfield 71, 3) := by decide +kernel
theorem dX7_goesOn_31 : decode cX7_goesOn 31 = .ok (.putfield 78, 3) := by decide +kernel
theorem dX7_goesOn_34 : decode cX7_goesOn 34 = .ok (.aload_n 0, 1) := by decide +kernel
theorem dX7_goesOn_35 : decode cX7_goesOn 35 = .ok (.aload_n 0, 1) := by decide +kernel
theorem dX7_goesOn_36 : decode cX7_goesOn 36 = .ok (.getfield 71, 3) := by decide +kernel
theorem dX7_goesOn_39 : decode cX7_goesOn 39 = .ok (.invokevirtual 74, 3) := by decide +kernel
theorem dX7_goesOn_42 : decode cX7_goesOn 42 = .ok (.istore_n 1, 1) := by decide +kernel
theorem dX7_goesOn_43 : decode cX7_goesOn 43 = .ok (.iload_n 1, 1) := by decide +kernel
theorem dX7_goesOn_44 : decode cX7_goesOn 44 = .ok (.iconst (-1), 1) := by decide +kernel
theorem dX7_goesOn_45 : decode cX7_goesOn 45 = .ok (.if_icmp .ne 9, 3) := by decide +kernel
theorem dX7_goesOn_48 : decode cX7_goesOn 48 = .ok (.aload_n 0, 1) := by decide +kernel
theorem dX7_goesOn_49 : decode cX7_goesOn 49 = .ok (.iconst 0, 1) := by decide +kernel
theorem dX7_goesOn_50 : decode cX7_goesOn 50 = .ok (.putfield 81, 3) := by decide +kernel
theorem dX7_goesOn_53 : decode cX7_goesOn 53 = .ok (.return_, 1) := by decide +kernel
theorem dX7_goesOn_54 : decode cX7_goesOn 54 = .ok (.iload_n 1, 1) := by decide +kernel
theorem dX7_goesOn_55 : decode cX7_goesOn 55 = .ok (.bipush 97, 2) := by decide +kernel
theorem dX7_goesOn_57 : decode cX7_goesOn 57 = .ok (.bipush 122, 2) := by decide +kernel
theorem dX7_goesOn_59 : decode cX7_goesOn 59 = .ok (.invokestatic 84, 3) := by decide +kernel
theorem dX7_goesOn_62 : decode cX7_goesOn 62 = .ok (.ifCond .eq 58, 3) := by decide +kernel
theorem dX7_goesOn_65 : decode cX7_goesOn 65 = .ok (.aload_n 0, 1) := by decide +kernel
theorem dX7_goesOn_66 : decode cX7_goesOn 66 = .ok (.aload_n 0, 1) := by decide +kernel
theorem dX7_goesOn_67 : decode cX7_goesOn 67 = .ok (.getfield 71, 3) := by decide +kernel
theorem dX7_goesOn_70 : decode cX7_goesOn 70 = .ok (.invokevirtual 74, 3) := by decide +kernel
theorem dX7_goesOn_73 : decode cX7_goesOn 73 = .ok (.bipush 97, 2) := by decide +kernel
theorem dX7_goesOn_75 : decode cX7_goesOn 75 = .ok (.bipush 122, 2) := by decide +kernel
theorem dX7_goesOn_77 : decode cX7_goesOn 77 = .ok (.invokestatic 84, 3) := by decide +kernel
theorem dX7_goesOn_80 : decode cX7_goesOn 80 = .ok (.ifCond .eq 16, 3) := by decide +kernel
theorem dX7_goesOn_83 : decode cX7_goesOn 83 = .ok (.aload_n 0, 1) := by decide +kernel
theorem dX7_goesOn_84 : decode cX7_goesOn 84 = .ok (.dup, 1) := by decide +kernel
theorem dX7_goesOn_85 : decode cX7_goesOn 85 = .ok (.getfield 71, 3) := by decide +kernel
theorem dX7_goesOn_88 : decode cX7_goesOn 88 = .ok (.iconst 1, 1) := by decide +kernel
theorem dX7_goesOn_89 : decode cX7_goesOn 89 = .ok (.iadd, 1) := by decide +kernel
theorem dX7_goesOn_90 : decode cX7_goesOn 90 = .ok (.putfield 71, 3) := by decide +kernel
theorem dX7_goesOn_93 : decode cX7_goesOn 93 = .ok (.goto (-28), 3) := by decide +kernel
theorem dX7_goesOn_96 : decode cX7_goesOn 96 = .ok (.aload_n 0, 1) := by decide +kernel
theorem dX7_goesOn_97 : decode cX7_goesOn 97 = .ok (.aload_n 0, 1) := by decide +kernel
theorem dX7_goesOn_98 : decode cX7_goesOn 98 = .ok (.getfield 71, 3) := by decide +kernel
theorem dX7_goesOn_101 : decode cX7_goesOn 101 = .ok (.aload_n 0, 1) := by decide +kernel
theorem dX7_goesOn_102 : decode cX7_goesOn 102 = .ok (.getfield 78, 3) := by decide +kernel
theorem dX7_goesOn_105 : decode cX7_goesOn 105 = .ok (.isub, 1) := by decide +kernel
theorem dX7_goesOn_106 : decode cX7_goesOn 106 = .ok (.bipush 7, 2) := by decide +kernel
theorem dX7_goesOn_108 : decode cX7_goesOn 108 = .ok (.if_icmp .le 7, 3) := by decide +kernel
theorem dX7_goesOn_111 : decode cX7_goesOn 111 = .ok (.iconst 1, 1) := by decide +kernel
theorem dX7_goesOn_112 : decode cX7_goesOn 112 = .ok (.goto 4, 3) := by decide +kernel
theorem dX7_goesOn_115 : decode cX7_goesOn 115 = .ok (.iconst 2, 1) := by decide +kernel
theorem dX7_goesOn_116 : decode cX7_goesOn 116 = .ok (.putfield 81, 3) := by decide +kernel
theorem dX7_goesOn_119 : decode cX7_goesOn 119 = .ok (.return_, 1) := by decide +kernel
theorem dX7_goesOn_120 : decode cX7_goesOn 120 = .ok (.iload_n 1, 1) := by decide +kernel
theorem dX7_goesOn_121 : decode cX7_goesOn 121 = .ok (.bipush 48, 2) := by decide +kernel
theorem dX7_goesOn_123 : decode cX7_goesOn 123 = .ok (.bipush 57, 2) := by decide +kernel
theorem dX7_goesOn_125 : decode cX7_goesOn 125 = .ok (.invokestatic 84, 3) := by decide +kernel
theorem dX7_goesOn_128 : decode cX7_goesOn 128 = .ok (.ifCond .eq 105, 3) := by decide +kernel
theorem dX7_goesOn_131 : decode cX7_goesOn 131 = .ok (.aload_n 0, 1) := by decide +kernel
theorem dX7_goesOn_132 : decode cX7_goesOn 132 = .ok (.iconst 0, 1) := by decide +kernel
theorem dX7_goesOn_133 : decode cX7_goesOn 133 = .ok (.putfield 88, 3) := by decide +kernel
theorem dX7_goesOn_136 : decode cX7_goesOn 136 = .ok (.aload_n 0, 1) := by decide +kernel
theorem dX7_goesOn_137 : decode cX7_goesOn 137 = .ok (.aload_n 0, 1) := by decide +kernel
theorem dX7_goesOn_138 : decode cX7_goesOn 138 = .ok (.getfield 71, 3) := by decide +kernel
theorem dX7_goesOn_141 : decode cX7_goesOn 141 = .ok (.invokevirtual 74, 3) := by decide +kernel
theorem dX7_goesOn_144 : decode cX7_goesOn 144 = .ok (.bipush 48, 2) := by decide +kernel
theorem dX7_goesOn_146 : decode cX7_goesOn 146 = .ok (.bipush 57, 2) := by decide +kernel
theorem dX7_goesOn_148 : decode cX7_goesOn 148 = .ok (.invokestatic 84, 3) := by decide +kernel
theorem dX7_goesOn_151 : decode cX7_goesOn 151 = .ok (.ifCond .eq 59, 3) := by decide +kernel
theorem dX7_goesOn_154 : decode cX7_goesOn 154 = .ok (.aload_n 0, 1) := by decide +kernel
theorem dX7_goesOn_155 : decode cX7_goesOn 155 = .ok (.aload_n 0, 1) := by decide +kernel
theorem dX7_goesOn_156 : decode cX7_goesOn 156 = .ok (.getfield 71, 3) := by decide +kernel
theorem dX7_goesOn_159 : decode cX7_goesOn 159 = .ok (.aload_n 0, 1) := by decide +kernel
theorem dX7_goesOn_160 : decode cX7_goesOn 160 = .ok (.getfield 78, 3) := by decide +kernel
theorem dX7_goesOn_163 : decode cX7_goesOn 163 = .ok (.isub, 1) := by decide +kernel
theorem dX7_goesOn_164 : decode cX7_goesOn 164 = .ok (.iconst 2, 1) := by decide +kernel
theorem dX7_goesOn_165 : decode cX7_goesOn 165 = .ok (.if_icmp .ge 25, 3) := by decide +kernel
theorem dX7_goesOn_168 : decode cX7_goesOn 168 = .ok (.bipush 10, 2) := by decide +kernel
theorem dX7_goesOn_170 : decode cX7_goesOn 170 = .ok (.aload_n 0, 1) := by decide +kernel
theorem dX7_goesOn_171 : decode cX7_goesOn 171 = .ok (.getfield 88, 3) := by decide +kernel
theorem dX7_goesOn_174 : decode cX7_goesOn 174 = .ok (.imul, 1) := by decide +kernel
theorem dX7_goesOn_175 : decode cX7_goesOn 175 = .ok (.aload_n 0, 1) := by decide +kernel
theorem dX7_goesOn_176 : decode cX7_goesOn 176 = .ok (.aload_n 0, 1) := by decide +kernel
theorem dX7_goesOn_177 : decode cX7_goesOn 177 = .ok (.getfield 71, 3) := by decide +kernel
theorem dX7_goesOn_180 : decode cX7_goesOn 180 = .ok (.invokevirtual 74, 3) := by decide +kernel
theorem dX7_goesOn_183 : decode cX7_goesOn 183 = .ok (.iadd, 1) := by decide +kernel
theorem dX7_goesOn_184 : decode cX7_goesOn 184 = .ok (.bipush 48, 2) := by decide +kernel
theorem dX7_goesOn_186 : decode cX7_goesOn 186 = .ok (.isub, 1) := by decide +kernel
theorem dX7_goesOn_187 : decode cX7_goesOn 187 = .ok (.goto 7, 3) := by decide +kernel
theorem dX7_goesOn_190 : decode cX7_goesOn 190 = .ok (.aload_n 0, 1) := by decide +kernel
theorem dX7_goesOn_191 : decode cX7_goesOn 191 = .ok (.getfield 88, 3) := by decide +kernel
theorem dX7_goesOn_194 : decode cX7_goesOn 194 = .ok (.putfield 88, 3) := by decide +kernel
theorem dX7_goesOn_197 : decode cX7_goesOn 197 = .ok (.aload_n 0, 1) := by decide +kernel
theorem dX7_goesOn_198 : decode cX7_goesOn 198 = .ok (.dup, 1) := by decide +kernel
theorem dX7_goesOn_199 : decode cX7_goesOn 199 = .ok (.getfield 71, 3) := by decide +kernel
theorem dX7_goesOn_202 : decode cX7_goesOn 202 = .ok (.iconst 1, 1) := by decide +kernel
theorem dX7_goesOn_203 : decode cX7_goesOn 203 = .ok (.iadd, 1) := by decide +kernel
theorem dX7_goesOn_204 : decode cX7_goesOn 204 = .ok (.putfield 71, 3) := by decide +kernel
theorem dX7_goesOn_207 : decode cX7_goesOn 207 = .ok (.goto (-71), 3) := by decide +kernel
theorem dX7_goesOn_210 : decode cX7_goesOn 210 = .ok (.aload_n 0, 1) := by decide +kernel
theorem dX7_goesOn_211 : decode cX7_goesOn 211 = .ok (.aload_n 0, 1) := by decide +kernel
theorem dX7_goesOn_212 : decode cX7_goesOn 212 = .ok (.getfield 71, 3) := by decide +kernel
theorem dX7_goesOn_215 : decode cX7_goesOn 215 = .ok (.aload_n 0, 1) := by decide +kernel
theorem dX7_goesOn_216 : decode cX7_goesOn 216 = .ok (.getfield 78, 3) := by decide +kernel
theorem dX7_goesOn_219 : decode cX7_goesOn 219 = .ok (.isub, 1) := by decide +kernel
theorem dX7_goesOn_220 : decode cX7_goesOn 220 = .ok (.iconst 2, 1) := by decide +kernel
theorem dX7_goesOn_221 : decode cX7_goesOn 221 = .ok (.if_icmp .le 7, 3) := by decide +kernel
theorem dX7_goesOn_224 : decode cX7_goesOn 224 = .ok (.iconst 1, 1) := by decide +kernel
theorem dX7_goesOn_225 : decode cX7_goesOn 225 = .ok (.goto 4, 3) := by decide +kernel
theorem dX7_goesOn_228 : decode cX7_goesOn 228 = .ok (.iconst 3, 1) := by decide +kernel
theorem dX7_goesOn_229 : decode cX7_goesOn 229 = .ok (.putfield 81, 3) := by decide +kernel
theorem dX7_goesOn_232 : decode cX7_goesOn 232 = .ok (.return_, 1) := by decide +kernel
theorem dX7_goesOn_233 : decode cX7_goesOn 233 = .ok (.aload_n 0, 1) := by decide +kernel
theorem dX7_goesOn_234 : decode cX7_goesOn 234 = .ok (.dup, 1) := by decide +kernel
theorem dX7_goesOn_235 : decode cX7_goesOn 235 = .ok (.getfield 71, 3) := by decide +kernel
theorem dX7_goesOn_238 : decode cX7_goesOn 238 = .ok (.iconst 1, 1) := by decide +kernel
theorem dX7_goesOn_239 : decode cX7_goesOn 239 = .ok (.iadd, 1) := by decide +kernel
theorem dX7_goesOn_240 : decode cX7_goesOn 240 = .ok (.putfield 71, 3) := by decide +kernel
theorem dX7_goesOn_243 : decode cX7_goesOn 243 = .ok (.aload_n 0, 1) := by decide +kernel
theorem dX7_goesOn_244 : decode cX7_goesOn 244 = .ok (.iload_n 1, 1) := by decide +kernel
theorem dX7_goesOn_245 : decode cX7_goesOn 245 = .ok (.bipush 59, 2) := by decide +kernel
theorem dX7_goesOn_247 : decode cX7_goesOn 247 = .ok (.if_icmp .ne 7, 3) := by decide +kernel
theorem dX7_goesOn_250 : decode cX7_goesOn 250 = .ok (.iload_n 1, 1) := by decide +kernel
theorem dX7_goesOn_251 : decode cX7_goesOn 251 = .ok (.goto 4, 3) := by decide +kernel
theorem dX7_goesOn_254 : decode cX7_goesOn 254 = .ok (.iconst 1, 1) := by decide +kernel
theorem dX7_goesOn_255 : decode cX7_goesOn 255 = .ok (.putfield 81, 3) := by decide +kernel
theorem dX7_goesOn_258 : decode cX7_goesOn 258 = .ok (.return_, 1) := by decide +kernel
theorem dX7_isWord_0 : decode cX7_isWord 0 = .ok (.aload_n 0, 1) := by decide +kernel
theorem dX7_isWord_1 : decode cX7_isWord 1 = .ok (.getfield 81, 3) := by decide +kernel
theorem dX7_isWord_4 : decode cX7_isWord 4 = .ok (.iconst 2, 1) := by decide +kernel
theorem dX7_isWord_5 : decode cX7_isWord 5 = .ok (.if_icmp .ne 19, 3) := by decide +kernel
theorem dX7_isWord_8 : decode cX7_isWord 8 = .ok (.aload_n 0, 1) := by decide +kernel
theorem dX7_isWord_9 : decode cX7_isWord 9 = .ok (.getfield 71, 3) := by decide +kernel
theorem dX7_isWord_12 : decode cX7_isWord 12 = .ok (.aload_n 0, 1) := by decide +kernel
theorem dX7_isWord_13 : decode cX7_isWord 13 = .ok (.getfield 78, 3) := by decide +kernel
theorem dX7_isWord_16 : decode cX7_isWord 16 = .ok (.isub, 1) := by decide +kernel
theorem dX7_isWord_17 : decode cX7_isWord 17 = .ok (.aload_n 1, 1) := by decide +kernel
theorem dX7_isWord_18 : decode cX7_isWord 18 = .ok (.invokevirtual 91, 3) := by decide +kernel
theorem dX7_isWord_21 : decode cX7_isWord 21 = .ok (.if_icmp .eq 5, 3) := by decide +kernel
theorem dX7_isWord_24 : decode cX7_isWord 24 = .ok (.iconst 0, 1) := by decide +kernel
theorem dX7_isWord_25 : decode cX7_isWord 25 = .ok (.ireturn, 1) := by decide +kernel
theorem dX7_isWord_26 : decode cX7_isWord 26 = .ok (.iconst 0, 1) := by decide +kernel
theorem dX7_isWord_27 : decode cX7_isWord 27 = .ok (.istore_n 2, 1) := by decide +kernel
theorem dX7_isWord_28 : decode cX7_isWord 28 = .ok (.iload_n 2, 1) := by decide +kernel
theorem dX7_isWord_29 : decode cX7_isWord 29 = .ok (.aload_n 1, 1) := by decide +kernel
theorem dX7_isWord_30 : decode cX7_isWord 30 = .ok (.invokevirtual 91, 3) := by decide +kernel
theorem dX7_isWord_33 : decode cX7_isWord 33 = .ok (.if_icmp .ge 30, 3) := by decide +kernel
theorem dX7_isWord_36 : decode cX7_isWord 36 = .ok (.aload_n 0, 1) := by decide +kernel
theorem dX7_isWord_37 : decode cX7_isWord 37 = .ok (.getfield 13, 3) := by decide +kernel
theorem dX7_isWord_40 : decode cX7_isWord 40 = .ok (.aload_n 0, 1) := by decide +kernel
theorem dX7_isWord_41 : decode cX7_isWord 41 = .ok (.getfield 78, 3) := by decide +kernel
theorem dX7_isWord_44 : decode cX7_isWord 44 = .ok (.iload_n 2, 1) := by decide +kernel
theorem dX7_isWord_45 : decode cX7_isWord 45 = .ok (.iadd, 1) := by decide +kernel
theorem dX7_isWord_46 : decode cX7_isWord 46 = .ok (.iaload, 1) := by decide +kernel
theorem dX7_isWord_47 : decode cX7_isWord 47 = .ok (.aload_n 1, 1) := by decide +kernel
theorem dX7_isWord_48 : decode cX7_isWord 48 = .ok (.iload_n 2, 1) := by decide +kernel
theorem dX7_isWord_49 : decode cX7_isWord 49 = .ok (.invokevirtual 97, 3) := by decide +kernel
theorem dX7_isWord_52 : decode cX7_isWord 52 = .ok (.if_icmp .eq 5, 3) := by decide +kernel
theorem dX7_isWord_55 : decode cX7_isWord 55 = .ok (.iconst 0, 1) := by decide +kernel
theorem dX7_isWord_56 : decode cX7_isWord 56 = .ok (.ireturn, 1) := by decide +kernel
theorem dX7_isWord_57 : decode cX7_isWord 57 = .ok (.iinc 2 1, 3) := by decide +kernel
theorem dX7_isWord_60 : decode cX7_isWord 60 = .ok (.goto (-32), 3) := by decide +kernel
theorem dX7_isWord_63 : decode cX7_isWord 63 = .ok (.iconst 1, 1) := by decide +kernel
theorem dX7_isWord_64 : decode cX7_isWord 64 = .ok (.ireturn, 1) := by decide +kernel
theorem dX7_errs_0 : decode cX7_errs 0 = .ok (.aload_n 0, 1) := by decide +kernel
theorem dX7_errs_1 : decode cX7_errs 1 = .ok (.iload_n 1, 1) := by decide +kernel
theorem dX7_errs_2 : decode cX7_errs 2 = .ok (.putfield 101, 3) := by decide +kernel
theorem dX7_errs_5 : decode cX7_errs 5 = .ok (.aload_n 0, 1) := by decide +kernel
theorem dX7_errs_6 : decode cX7_errs 6 = .ok (.aload_n 0, 1) := by decide +kernel
theorem dX7_errs_7 : decode cX7_errs 7 = .ok (.getfield 78, 3) := by decide +kernel
theorem dX7_errs_10 : decode cX7_errs 10 = .ok (.putfield 104, 3) := by decide +kernel
theorem dX7_errs_13 : decode cX7_errs 13 = .ok (.iconst 0, 1) := by decide +kernel
theorem dX7_errs_14 : decode cX7_errs 14 = .ok (.ireturn, 1) := by decide +kernel
theorem dX7_after_0 : decode cX7_after 0 = .ok (.aload_n 0, 1) := by decide +kernel
theorem dX7_after_1 : decode cX7_after 1 = .ok (.aload_n 1, 1) := by decide +kernel
theorem dX7_after_2 : decode cX7_after 2 = .ok (.invokevirtual 107, 3) := by decide +kernel
theorem dX7_after_5 : decode cX7_after 5 = .ok (.istore 4, 2) := by decide +kernel
theorem dX7_after_7 : decode cX7_after 7 = .ok (.iload 4, 2) := by decide +kernel
theorem dX7_after_9 : decode cX7_after 9 = .ok (.ifCond .eq 7, 3) := by decide +kernel
theorem dX7_after_12 : decode cX7_after 12 = .ok (.aload_n 0, 1) := by decide +kernel
theorem dX7_after_13 : decode cX7_after 13 = .ok (.invokevirtual 111, 3) := by decide +kernel
theorem dX7_after_16 : decode cX7_after 16 = .ok (.iload 4, 2) := by decide +kernel
theorem dX7_after_18 : decode cX7_after 18 = .ok (.ifCond .eq 23, 3) := by decide +kernel
theorem dX7_after_21 : decode cX7_after 21 = .ok (.aload_n 0, 1) := by decide +kernel
theorem dX7_after_22 : decode cX7_after 22 = .ok (.getfield 81, 3) := by decide +kernel
theorem dX7_after_25 : decode cX7_after 25 = .ok (.iconst 3, 1) := by decide +kernel
theorem dX7_after_26 : decode cX7_after 26 = .ok (.if_icmp .ne 15, 3) := by decide +kernel
theorem dX7_after_29 : decode cX7_after 29 = .ok (.aload_n 0, 1) := by decide +kernel
theorem dX7_after_30 : decode cX7_after 30 = .ok (.getfield 88, 3) := by decide +kernel
theorem dX7_after_33 : decode cX7_after 33 = .ok (.iload_n 2, 1) := by decide +kernel
theorem dX7_after_34 : decode cX7_after 34 = .ok (.iload_n 3, 1) := by decide +kernel
theorem dX7_after_35 : decode cX7_after 35 = .ok (.invokestatic 84, 3) := by decide +kernel
theorem dX7_after_38 : decode cX7_after 38 = .ok (.ifCond .ne 29, 3) := by decide +kernel
theorem dX7_after_41 : decode cX7_after 41 = .ok (.aload_n 0, 1) := by decide +kernel
theorem dX7_after_42 : decode cX7_after 42 = .ok (.iload 4, 2) := by decide +kernel
theorem dX7_after_44 : decode cX7_after 44 = .ok (.ifCond .eq 15, 3) := by decide +kernel
theorem dX7_after_47 : decode cX7_after 47 = .ok (.aload_n 0, 1) := by decide +kernel
theorem dX7_after_48 : decode cX7_after 48 = .ok (.getfield 81, 3) := by decide +kernel
theorem dX7_after_51 : decode cX7_after 51 = .ok (.iconst 3, 1) := by decide +kernel
theorem dX7_after_52 : decode cX7_after 52 = .ok (.if_icmp .ne 7, 3) := by decide +kernel
theorem dX7_after_55 : decode cX7_after 55 = .ok (.iconst 2, 1) := by decide +kernel
theorem dX7_after_56 : decode cX7_after 56 = .ok (.goto 4, 3) := by decide +kernel
theorem dX7_after_59 : decode cX7_after 59 = .ok (.iconst 1, 1) := by decide +kernel
theorem dX7_after_60 : decode cX7_after 60 = .ok (.invokevirtual 114, 3) := by decide +kernel
theorem dX7_after_63 : decode cX7_after 63 = .ok (.istore 5, 2) := by decide +kernel
theorem dX7_after_65 : decode cX7_after 65 = .ok (.iconst (-1), 1) := by decide +kernel
theorem dX7_after_66 : decode cX7_after 66 = .ok (.ireturn, 1) := by decide +kernel
theorem dX7_after_67 : decode cX7_after 67 = .ok (.aload_n 0, 1) := by decide +kernel
theorem dX7_after_68 : decode cX7_after 68 = .ok (.getfield 88, 3) := by decide +kernel
theorem dX7_after_71 : decode cX7_after 71 = .ok (.istore 5, 2) := by decide +kernel
theorem dX7_after_73 : decode cX7_after 73 = .ok (.aload_n 0, 1) := by decide +kernel
theorem dX7_after_74 : decode cX7_after 74 = .ok (.invokevirtual 111, 3) := by decide +kernel
theorem dX7_after_77 : decode cX7_after 77 = .ok (.iload 5, 2) := by decide +kernel
theorem dX7_after_79 : decode cX7_after 79 = .ok (.ireturn, 1) := by decide +kernel
theorem dX7_readComplex_0 : decode cX7_readComplex 0 = .ok (.aload_n 0, 1) := by decide +kernel
theorem dX7_readComplex_1 : decode cX7_readComplex 1 = .ok (.getfield 118, 3) := by decide +kernel
theorem dX7_readComplex_4 : decode cX7_readComplex 4 = .ok (.ifCond .le 9, 3) := by decide +kernel
theorem dX7_readComplex_7 : decode cX7_readComplex 7 = .ok (.aload_n 0, 1) := by decide +kernel
theorem dX7_readComplex_8 : decode cX7_readComplex 8 = .ok (.iconst 4, 1) := by decide +kernel
theorem dX7_readComplex_9 : decode cX7_readComplex 9 = .ok (.invokevirtual 114, 3) := by decide +kernel
theorem dX7_readComplex_12 : decode cX7_readComplex 12 = .ok (.ireturn, 1) := by decide +kernel
theorem dX7_readComplex_13 : decode cX7_readComplex 13 = .ok (.aload_n 0, 1) := by decide +kernel
theorem dX7_readComplex_14 : decode cX7_readComplex 14 = .ok (.invokevirtual 111, 3) := by decide +kernel
theorem dX7_readComplex_17 : decode cX7_readComplex 17 = .ok (.aload_n 0, 1) := by decide +kernel
theorem dX7_readComplex_18 : decode cX7_readComplex 18 = .ok (.ldc 121, 2) := by decide +kernel
theorem dX7_readComplex_20 : decode cX7_readComplex 20 = .ok (.iconst 1, 1) := by decide +kernel
theorem dX7_readComplex_21 : decode cX7_readComplex 21 = .ok (.bipush 7, 2) := by decide +kernel
theorem dX7_readComplex_23 : decode cX7_readComplex 23 = .ok (.invokevirtual 123, 3) := by decide +kernel
theorem dX7_readComplex_26 : decode cX7_readComplex 26 = .ok (.istore_n 1, 1) := by decide +kernel
theorem dX7_readComplex_27 : decode cX7_readComplex 27 = .ok (.iload_n 1, 1) := by decide +kernel
theorem dX7_readComplex_28 : decode cX7_readComplex 28 = .ok (.iconst (-1), 1) := by decide +kernel
theorem dX7_readComplex_29 : decode cX7_readComplex 29 = .ok (.if_icmp .ne 5, 3) := by decide +kernel
theorem dX7_readComplex_32 : decode cX7_readComplex 32 = .ok (.iconst 0, 1) := by decide +kernel
theorem dX7_readComplex_33 : decode cX7_readComplex 33 = .ok (.ireturn, 1) := by decide +kernel
theorem dX7_readComplex_34 : decode cX7_readComplex 34 = .ok (.aload_n 0, 1) := by decide +kernel
theorem dX7_readComplex_35 : decode cX7_readComplex 35 = .ok (.aload_n 0, 1) := by decide +kernel
theorem dX7_readComplex_36 : decode cX7_readComplex 36 = .ok (.ldc 127, 2) := by decide +kernel
theorem dX7_readComplex_38 : decode cX7_readComplex 38 = .ok (.iconst 1, 1) := by decide +kernel
theorem dX7_readComplex_39 : decode cX7_readComplex 39 = .ok (.iload_n 1, 1) := by decide +kernel
theorem dX7_readComplex_40 : decode cX7_readComplex 40 = .ok (.iconst 5, 1) := by decide +kernel
theorem dX7_readComplex_41 : decode cX7_readComplex 41 = .ok (.if_icmp .ge 7, 3) := by decide +kernel
theorem dX7_readComplex_44 : decode cX7_readComplex 44 = .ok (.iload_n 1, 1) := by decide +kernel
theorem dX7_readComplex_45 : decode cX7_readComplex 45 = .ok (.goto 4, 3) := by decide +kernel
theorem dX7_readComplex_48 : decode cX7_readComplex 48 = .ok (.iconst 5, 1) := by decide +kernel
theorem dX7_readComplex_49 : decode cX7_readComplex 49 = .ok (.invokevirtual 123, 3) := by decide +kernel
theorem dX7_readComplex_52 : decode cX7_readComplex 52 = .ok (.putfield 129, 3) := by decide +kernel
theorem dX7_readComplex_55 : decode cX7_readComplex 55 = .ok (.aload_n 0, 1) := by decide +kernel
theorem dX7_readComplex_56 : decode cX7_readComplex 56 = .ok (.getfield 129, 3) := by decide +kernel
theorem dX7_readComplex_59 : decode cX7_readComplex 59 = .ok (.iconst (-1), 1) := by decide +kernel
theorem dX7_readComplex_60 : decode cX7_readComplex 60 = .ok (.if_icmp .ne 5, 3) := by decide +kernel
theorem dX7_readComplex_63 : decode cX7_readComplex 63 = .ok (.iconst 0, 1) := by decide +kernel
theorem dX7_readComplex_64 : decode cX7_readComplex 64 = .ok (.ireturn, 1) := by decide +kernel
theorem dX7_readComplex_65 : decode cX7_readComplex 65 = .ok (.aload_n 0, 1) := by decide +kernel
theorem dX7_readComplex_66 : decode cX7_readComplex 66 = .ok (.iload_n 1, 1) := by decide +kernel
theorem dX7_readComplex_67 : decode cX7_readComplex 67 = .ok (.putfield 118, 3) := by decide +kernel
theorem dX7_readComplex_70 : decode cX7_readComplex 70 = .ok (.iconst 1, 1) := by decide +kernel
theorem dX7_readComplex_71 : decode cX7_readComplex 71 = .ok (.ireturn, 1) := by decide +kernel
theorem dX7_pointsOf_0 : decode cX7_pointsOf 0 = .ok (.iconst 0, 1) := by decide +kernel
theorem dX7_pointsOf_1 : decode cX7_pointsOf 1 = .ok (.istore_n 1, 1) := by decide +kernel
theorem dX7_pointsOf_2 : decode cX7_pointsOf 2 = .ok (.aload_n 0, 1) := by decide +kernel
theorem dX7_pointsOf_3 : decode cX7_pointsOf 3 = .ok (.getfield 78, 3) := by decide +kernel
theorem dX7_pointsOf_6 : decode cX7_pointsOf 6 = .ok (.istore_n 2, 1) := by decide +kernel
theorem dX7_pointsOf_7 : decode cX7_pointsOf 7 = .ok (.iload_n 2, 1) := by decide +kernel
theorem dX7_pointsOf_8 : decode cX7_pointsOf 8 = .ok (.aload_n 0, 1) := by decide +kernel
theorem dX7_pointsOf_9 : decode cX7_pointsOf 9 = .ok (.getfield 71, 3) := by decide +kernel
theorem dX7_pointsOf_12 : decode cX7_pointsOf 12 = .ok (.if_icmp .ge 43, 3) := by decide +kernel
theorem dX7_pointsOf_15 : decode cX7_pointsOf 15 = .ok (.aload_n 0, 1) := by decide +kernel
theorem dX7_pointsOf_16 : decode cX7_pointsOf 16 = .ok (.getfield 13, 3) := by decide +kernel
theorem dX7_pointsOf_19 : decode cX7_pointsOf 19 = .ok (.iload_n 2, 1) := by decide +kernel
theorem dX7_pointsOf_20 : decode cX7_pointsOf 20 = .ok (.iaload, 1) := by decide +kernel
theorem dX7_pointsOf_21 : decode cX7_pointsOf 21 = .ok (.bipush 97, 2) := by decide +kernel
theorem dX7_pointsOf_23 : decode cX7_pointsOf 23 = .ok (.isub, 1) := by decide +kernel
theorem dX7_pointsOf_24 : decode cX7_pointsOf 24 = .ok (.istore_n 3, 1) := by decide +kernel
theorem dX7_pointsOf_25 : decode cX7_pointsOf 25 = .ok (.iload_n 3, 1) := by decide +kernel
theorem dX7_pointsOf_26 : decode cX7_pointsOf 26 = .ok (.aload_n 0, 1) := by decide +kernel
theorem dX7_pointsOf_27 : decode cX7_pointsOf 27 = .ok (.getfield 118, 3) := by decide +kernel
theorem dX7_pointsOf_30 : decode cX7_pointsOf 30 = .ok (.if_icmp .ge 11, 3) := by decide +kernel
theorem dX7_pointsOf_33 : decode cX7_pointsOf 33 = .ok (.iload_n 1, 1) := by decide +kernel
theorem dX7_pointsOf_34 : decode cX7_pointsOf 34 = .ok (.iload_n 3, 1) := by decide +kernel
theorem dX7_pointsOf_35 : decode cX7_pointsOf 35 = .ok (.invokestatic 132, 3) := by decide +kernel
theorem dX7_pointsOf_38 : decode cX7_pointsOf 38 = .ok (.ifCond .eq 5, 3) := by decide +kernel
theorem dX7_pointsOf_41 : decode cX7_pointsOf 41 = .ok (.iconst (-1), 1) := by decide +kernel
theorem dX7_pointsOf_42 : decode cX7_pointsOf 42 = .ok (.ireturn, 1) := by decide +kernel
theorem dX7_pointsOf_43 : decode cX7_pointsOf 43 = .ok (.iload_n 1, 1) := by decide +kernel
theorem dX7_pointsOf_44 : decode cX7_pointsOf 44 = .ok (.iconst 1, 1) := by decide +kernel
theorem dX7_pointsOf_45 : decode cX7_pointsOf 45 = .ok (.iload_n 3, 1) := by decide +kernel
theorem dX7_pointsOf_46 : decode cX7_pointsOf 46 = .ok (.ishl, 1) := by decide +kernel
theorem dX7_pointsOf_47 : decode cX7_pointsOf 47 = .ok (.ior, 1) := by decide +kernel
theorem dX7_pointsOf_48 : decode cX7_pointsOf 48 = .ok (.istore_n 1, 1) := by decide +kernel
theorem dX7_pointsOf_49 : decode cX7_pointsOf 49 = .ok (.iinc 2 1, 3) := by decide +kernel
theorem dX7_pointsOf_52 : decode cX7_pointsOf 52 = .ok (.goto (-45), 3) := by decide +kernel
theorem dX7_pointsOf_55 : decode cX7_pointsOf 55 = .ok (.iload_n 1, 1) := by decide +kernel
theorem dX7_pointsOf_56 : decode cX7_pointsOf 56 = .ok (.invokestatic 136, 3) := by decide +kernel
theorem dX7_pointsOf_59 : decode cX7_pointsOf 59 = .ok (.aload_n 0, 1) := by decide +kernel
theorem dX7_pointsOf_60 : decode cX7_pointsOf 60 = .ok (.getfield 129, 3) := by decide +kernel
theorem dX7_pointsOf_63 : decode cX7_pointsOf 63 = .ok (.if_icmp .ne 7, 3) := by decide +kernel
theorem dX7_pointsOf_66 : decode cX7_pointsOf 66 = .ok (.iload_n 1, 1) := by decide +kernel
theorem dX7_pointsOf_67 : decode cX7_pointsOf 67 = .ok (.goto 4, 3) := by decide +kernel
theorem dX7_pointsOf_70 : decode cX7_pointsOf 70 = .ok (.iconst (-1), 1) := by decide +kernel
theorem dX7_pointsOf_71 : decode cX7_pointsOf 71 = .ok (.ireturn, 1) := by decide +kernel
theorem dX7_readFacet_0 : decode cX7_readFacet 0 = .ok (.aload_n 0, 1) := by decide +kernel
theorem dX7_readFacet_1 : decode cX7_readFacet 1 = .ok (.getfield 139, 3) := by decide +kernel
theorem dX7_readFacet_4 : decode cX7_readFacet 4 = .ok (.bipush 12, 2) := by decide +kernel
theorem dX7_readFacet_6 : decode cX7_readFacet 6 = .ok (.if_icmp .ne 9, 3) := by decide +kernel
theorem dX7_readFacet_9 : decode cX7_readFacet 9 = .ok (.aload_n 0, 1) := by decide +kernel
theorem dX7_readFacet_10 : decode cX7_readFacet 10 = .ok (.iconst 5, 1) := by decide +kernel
theorem dX7_readFacet_11 : decode cX7_readFacet 11 = .ok (.invokevirtual 114, 3) := by decide +kernel
theorem dX7_readFacet_14 : decode cX7_readFacet 14 = .ok (.ireturn, 1) := by decide +kernel
theorem dX7_readFacet_15 : decode cX7_readFacet 15 = .ok (.aload_n 0, 1) := by decide +kernel
theorem dX7_readFacet_16 : decode cX7_readFacet 16 = .ok (.getfield 118, 3) := by decide +kernel
theorem dX7_readFacet_19 : decode cX7_readFacet 19 = .ok (.ifCond .ne 10, 3) := by decide +kernel
theorem dX7_readFacet_22 : decode cX7_readFacet 22 = .ok (.aload_n 0, 1) := by decide +kernel
theorem dX7_readFacet_23 : decode cX7_readFacet 23 = .ok (.bipush 6, 2) := by decide +kernel
theorem dX7_readFacet_25 : decode cX7_readFacet 25 = .ok (.invokevirtual 114, 3) := by decide +kernel
theorem dX7_readFacet_28 : decode cX7_readFacet 28 = .ok (.ireturn, 1) := by decide +kernel
theorem dX7_readFacet_29 : decode cX7_readFacet 29 = .ok (.aload_n 0, 1) := by decide +kernel
theorem dX7_readFacet_30 : decode cX7_readFacet 30 = .ok (.invokevirtual 111, 3) := by decide +kernel
theorem dX7_readFacet_33 : decode cX7_readFacet 33 = .ok (.aload_n 0, 1) := by decide +kernel
theorem dX7_readFacet_34 : decode cX7_readFacet 34 = .ok (.getfield 81, 3) := by decide +kernel
theorem dX7_readFacet_37 : decode cX7_readFacet 37 = .ok (.iconst 2, 1) := by decide +kernel
theorem dX7_readFacet_38 : decode cX7_readFacet 38 = .ok (.if_icmp .eq 9, 3) := by decide +kernel
theorem dX7_readFacet_41 : decode cX7_readFacet 41 = .ok (.aload_n 0, 1) := by decide +kernel
theorem dX7_readFacet_42 : decode cX7_readFacet 42 = .ok (.iconst 1, 1) := by decide +kernel
theorem dX7_readFacet_43 : decode cX7_readFacet 43 = .ok (.invokevirtual 114, 3) := by decide +kernel
theorem dX7_readFacet_46 : decode cX7_readFacet 46 = .ok (.ireturn, 1) := by decide +kernel
theorem dX7_readFacet_47 : decode cX7_readFacet 47 = .ok (.aload_n 0, 1) := by decide +kernel
theorem dX7_readFacet_48 : decode cX7_readFacet 48 = .ok (.invokevirtual 142, 3) := by decide +kernel
theorem dX7_readFacet_51 : decode cX7_readFacet 51 = .ok (.istore_n 1, 1) := by decide +kernel
theorem dX7_readFacet_52 : decode cX7_readFacet 52 = .ok (.iload_n 1, 1) := by decide +kernel
theorem dX7_readFacet_53 : decode cX7_readFacet 53 = .ok (.iconst (-1), 1) := by decide +kernel
theorem dX7_readFacet_54 : decode cX7_readFacet 54 = .ok (.if_icmp .ne 9, 3) := by decide +kernel
theorem dX7_readFacet_57 : decode cX7_readFacet 57 = .ok (.aload_n 0, 1) := by decide +kernel
theorem dX7_readFacet_58 : decode cX7_readFacet 58 = .ok (.iconst 3, 1) := by decide +kernel
theorem dX7_readFacet_59 : decode cX7_readFacet 59 = .ok (.invokevirtual 114, 3) := by decide +kernel
theorem dX7_readFacet_62 : decode cX7_readFacet 62 = .ok (.ireturn, 1) := by decide +kernel
theorem dX7_readFacet_63 : decode cX7_readFacet 63 = .ok (.iconst 0, 1) := by decide +kernel
theorem dX7_readFacet_64 : decode cX7_readFacet 64 = .ok (.istore_n 2, 1) := by decide +kernel
theorem dX7_readFacet_65 : decode cX7_readFacet 65 = .ok (.iload_n 2, 1) := by decide +kernel
theorem dX7_readFacet_66 : decode cX7_readFacet 66 = .ok (.aload_n 0, 1) := by decide +kernel
theorem dX7_readFacet_67 : decode cX7_readFacet 67 = .ok (.getfield 139, 3) := by decide +kernel
theorem dX7_readFacet_70 : decode cX7_readFacet 70 = .ok (.if_icmp .ge 25, 3) := by decide +kernel
theorem dX7_readFacet_73 : decode cX7_readFacet 73 = .ok (.aload_n 0, 1) := by decide +kernel
theorem dX7_readFacet_74 : decode cX7_readFacet 74 = .ok (.getfield 23, 3) := by decide +kernel
theorem dX7_readFacet_77 : decode cX7_readFacet 77 = .ok (.iload_n 2, 1) := by decide +kernel
theorem dX7_readFacet_78 : decode cX7_readFacet 78 = .ok (.iaload, 1) := by decide +kernel
theorem dX7_readFacet_79 : decode cX7_readFacet 79 = .ok (.iload_n 1, 1) := by decide +kernel
theorem dX7_readFacet_80 : decode cX7_readFacet 80 = .ok (.if_icmp .ne 9, 3) := by decide +kernel
theorem dX7_readFacet_83 : decode cX7_readFacet 83 = .ok (.aload_n 0, 1) := by decide +kernel
theorem dX7_readFacet_84 : decode cX7_readFacet 84 = .ok (.iconst 4, 1) := by decide +kernel
theorem dX7_readFacet_85 : decode cX7_readFacet 85 = .ok (.invokevirtual 114, 3) := by decide +kernel
theorem dX7_readFacet_88 : decode cX7_readFacet 88 = .ok (.ireturn, 1) := by decide +kernel
theorem dX7_readFacet_89 : decode cX7_readFacet 89 = .ok (.iinc 2 1, 3) := by decide +kernel
theorem dX7_readFacet_92 : decode cX7_readFacet 92 = .ok (.goto (-27), 3) := by decide +kernel
theorem dX7_readFacet_95 : decode cX7_readFacet 95 = .ok (.aload_n 0, 1) := by decide +kernel
theorem dX7_readFacet_96 : decode cX7_readFacet 96 = .ok (.getfield 23, 3) := by decide +kernel
theorem dX7_readFacet_99 : decode cX7_readFacet 99 = .ok (.aload_n 0, 1) := by decide +kernel
theorem dX7_readFacet_100 : decode cX7_readFacet 100 = .ok (.getfield 139, 3) := by decide +kernel
theorem dX7_readFacet_103 : decode cX7_readFacet 103 = .ok (.iload_n 1, 1) := by decide +kernel
theorem dX7_readFacet_104 : decode cX7_readFacet 104 = .ok (.iastore, 1) := by decide +kernel
theorem dX7_readFacet_105 : decode cX7_readFacet 105 = .ok (.aload_n 0, 1) := by decide +kernel
theorem dX7_readFacet_106 : decode cX7_readFacet 106 = .ok (.dup, 1) := by decide +kernel
theorem dX7_readFacet_107 : decode cX7_readFacet 107 = .ok (.getfield 139, 3) := by decide +kernel
theorem dX7_readFacet_110 : decode cX7_readFacet 110 = .ok (.iconst 1, 1) := by decide +kernel
theorem dX7_readFacet_111 : decode cX7_readFacet 111 = .ok (.iadd, 1) := by decide +kernel
theorem dX7_readFacet_112 : decode cX7_readFacet 112 = .ok (.putfield 139, 3) := by decide +kernel
theorem dX7_readFacet_115 : decode cX7_readFacet 115 = .ok (.aload_n 0, 1) := by decide +kernel
theorem dX7_readFacet_116 : decode cX7_readFacet 116 = .ok (.invokevirtual 111, 3) := by decide +kernel
theorem dX7_readFacet_119 : decode cX7_readFacet 119 = .ok (.iconst 1, 1) := by decide +kernel
theorem dX7_readFacet_120 : decode cX7_readFacet 120 = .ok (.ireturn, 1) := by decide +kernel
theorem dX7_readLine_0 : decode cX7_readLine 0 = .ok (.aload_n 0, 1) := by decide +kernel
theorem dX7_readLine_1 : decode cX7_readLine 1 = .ok (.ldc 145, 2) := by decide +kernel
theorem dX7_readLine_3 : decode cX7_readLine 3 = .ok (.invokevirtual 107, 3) := by decide +kernel
theorem dX7_readLine_6 : decode cX7_readLine 6 = .ok (.ifCond .eq 8, 3) := by decide +kernel
theorem dX7_readLine_9 : decode cX7_readLine 9 = .ok (.aload_n 0, 1) := by decide +kernel
theorem dX7_readLine_10 : decode cX7_readLine 10 = .ok (.invokevirtual 147, 3) := by decide +kernel
theorem dX7_readLine_13 : decode cX7_readLine 13 = .ok (.ireturn, 1) := by decide +kernel
theorem dX7_readLine_14 : decode cX7_readLine 14 = .ok (.aload_n 0, 1) := by decide +kernel
theorem dX7_readLine_15 : decode cX7_readLine 15 = .ok (.ldc 151, 2) := by decide +kernel
theorem dX7_readLine_17 : decode cX7_readLine 17 = .ok (.invokevirtual 107, 3) := by decide +kernel
theorem dX7_readLine_20 : decode cX7_readLine 20 = .ok (.ifCond .eq 10, 3) := by decide +kernel
theorem dX7_readLine_23 : decode cX7_readLine 23 = .ok (.aload_n 0, 1) := by decide +kernel
theorem dX7_readLine_24 : decode cX7_readLine 24 = .ok (.invokevirtual 153, 3) := by decide +kernel
theorem dX7_readLine_27 : decode cX7_readLine 27 = .ok (.goto 8, 3) := by decide +kernel
theorem dX7_readLine_30 : decode cX7_readLine 30 = .ok (.aload_n 0, 1) := by decide +kernel
theorem dX7_readLine_31 : decode cX7_readLine 31 = .ok (.iconst 1, 1) := by decide +kernel
theorem dX7_readLine_32 : decode cX7_readLine 32 = .ok (.invokevirtual 114, 3) := by decide +kernel
theorem dX7_readLine_35 : decode cX7_readLine 35 = .ok (.ireturn, 1) := by decide +kernel
theorem dX7_readAll_0 : decode cX7_readAll 0 = .ok (.aload_n 0, 1) := by decide +kernel
theorem dX7_readAll_1 : decode cX7_readAll 1 = .ok (.iload_n 1, 1) := by decide +kernel
theorem dX7_readAll_2 : decode cX7_readAll 2 = .ok (.putfield 68, 3) := by decide +kernel
theorem dX7_readAll_5 : decode cX7_readAll 5 = .ok (.aload_n 0, 1) := by decide +kernel
theorem dX7_readAll_6 : decode cX7_readAll 6 = .ok (.iconst 0, 1) := by decide +kernel
theorem dX7_readAll_7 : decode cX7_readAll 7 = .ok (.putfield 71, 3) := by decide +kernel
theorem dX7_readAll_10 : decode cX7_readAll 10 = .ok (.aload_n 0, 1) := by decide +kernel
theorem dX7_readAll_11 : decode cX7_readAll 11 = .ok (.iconst 0, 1) := by decide +kernel
theorem dX7_readAll_12 : decode cX7_readAll 12 = .ok (.putfield 118, 3) := by decide +kernel
theorem dX7_readAll_15 : decode cX7_readAll 15 = .ok (.aload_n 0, 1) := by decide +kernel
theorem dX7_readAll_16 : decode cX7_readAll 16 = .ok (.iconst 0, 1) := by decide +kernel
theorem dX7_readAll_17 : decode cX7_readAll 17 = .ok (.putfield 139, 3) := by decide +kernel
theorem dX7_readAll_20 : decode cX7_readAll 20 = .ok (.aload_n 0, 1) := by decide +kernel
theorem dX7_readAll_21 : decode cX7_readAll 21 = .ok (.invokevirtual 111, 3) := by decide +kernel
theorem dX7_readAll_24 : decode cX7_readAll 24 = .ok (.aload_n 0, 1) := by decide +kernel
theorem dX7_readAll_25 : decode cX7_readAll 25 = .ok (.invokevirtual 156, 3) := by decide +kernel
theorem dX7_readAll_28 : decode cX7_readAll 28 = .ok (.ifCond .ne 5, 3) := by decide +kernel
theorem dX7_readAll_31 : decode cX7_readAll 31 = .ok (.iconst 0, 1) := by decide +kernel
theorem dX7_readAll_32 : decode cX7_readAll 32 = .ok (.ireturn, 1) := by decide +kernel
theorem dX7_readAll_33 : decode cX7_readAll 33 = .ok (.aload_n 0, 1) := by decide +kernel
theorem dX7_readAll_34 : decode cX7_readAll 34 = .ok (.getfield 81, 3) := by decide +kernel
theorem dX7_readAll_37 : decode cX7_readAll 37 = .ok (.bipush 59, 2) := by decide +kernel
theorem dX7_readAll_39 : decode cX7_readAll 39 = .ok (.if_icmp .ne 16, 3) := by decide +kernel
theorem dX7_readAll_42 : decode cX7_readAll 42 = .ok (.aload_n 0, 1) := by decide +kernel
theorem dX7_readAll_43 : decode cX7_readAll 43 = .ok (.invokevirtual 111, 3) := by decide +kernel
theorem dX7_readAll_46 : decode cX7_readAll 46 = .ok (.aload_n 0, 1) := by decide +kernel
theorem dX7_readAll_47 : decode cX7_readAll 47 = .ok (.invokevirtual 156, 3) := by decide +kernel
theorem dX7_readAll_50 : decode cX7_readAll 50 = .ok (.ifCond .ne (-17), 3) := by decide +kernel
theorem dX7_readAll_53 : decode cX7_readAll 53 = .ok (.iconst 0, 1) := by decide +kernel
theorem dX7_readAll_54 : decode cX7_readAll 54 = .ok (.ireturn, 1) := by decide +kernel
theorem dX7_readAll_55 : decode cX7_readAll 55 = .ok (.aload_n 0, 1) := by decide +kernel
theorem dX7_readAll_56 : decode cX7_readAll 56 = .ok (.getfield 81, 3) := by decide +kernel
theorem dX7_readAll_59 : decode cX7_readAll 59 = .ok (.ifCond .eq 9, 3) := by decide +kernel
theorem dX7_readAll_62 : decode cX7_readAll 62 = .ok (.aload_n 0, 1) := by decide +kernel
theorem dX7_readAll_63 : decode cX7_readAll 63 = .ok (.iconst 1, 1) := by decide +kernel
theorem dX7_readAll_64 : decode cX7_readAll 64 = .ok (.invokevirtual 114, 3) := by decide +kernel
theorem dX7_readAll_67 : decode cX7_readAll 67 = .ok (.ireturn, 1) := by decide +kernel
theorem dX7_readAll_68 : decode cX7_readAll 68 = .ok (.aload_n 0, 1) := by decide +kernel
theorem dX7_readAll_69 : decode cX7_readAll 69 = .ok (.getfield 139, 3) := by decide +kernel
theorem dX7_readAll_72 : decode cX7_readAll 72 = .ok (.ifCond .gt 12, 3) := by decide +kernel
theorem dX7_readAll_75 : decode cX7_readAll 75 = .ok (.aload_n 0, 1) := by decide +kernel
theorem dX7_readAll_76 : decode cX7_readAll 76 = .ok (.bipush 6, 2) := by decide +kernel
theorem dX7_readAll_78 : decode cX7_readAll 78 = .ok (.invokevirtual 114, 3) := by decide +kernel
theorem dX7_readAll_81 : decode cX7_readAll 81 = .ok (.ifCond .eq 7, 3) := by decide +kernel
theorem dX7_readAll_84 : decode cX7_readAll 84 = .ok (.iconst 1, 1) := by decide +kernel
theorem dX7_readAll_85 : decode cX7_readAll 85 = .ok (.goto 4, 3) := by decide +kernel
theorem dX7_readAll_88 : decode cX7_readAll 88 = .ok (.iconst 0, 1) := by decide +kernel
theorem dX7_readAll_89 : decode cX7_readAll 89 = .ok (.ireturn, 1) := by decide +kernel
theorem dX7_complex_0 : decode cX7_complex 0 = .ok (.aload_n 0, 1) := by decide +kernel
theorem dX7_complex_1 : decode cX7_complex 1 = .ok (.iload_n 1, 1) := by decide +kernel
theorem dX7_complex_2 : decode cX7_complex 2 = .ok (.iconst 0, 1) := by decide +kernel
theorem dX7_complex_3 : decode cX7_complex 3 = .ok (.aload_n 0, 1) := by decide +kernel
theorem dX7_complex_4 : decode cX7_complex 4 = .ok (.getfield 61, 3) := by decide +kernel
theorem dX7_complex_7 : decode cX7_complex 7 = .ok (.invokestatic 84, 3) := by decide +kernel
theorem dX7_complex_10 : decode cX7_complex 10 = .ok (.ifCond .eq 7, 3) := by decide +kernel
theorem dX7_complex_13 : decode cX7_complex 13 = .ok (.iconst 0, 1) := by decide +kernel
theorem dX7_complex_14 : decode cX7_complex 14 = .ok (.goto 4, 3) := by decide +kernel
theorem dX7_complex_17 : decode cX7_complex 17 = .ok (.iconst 2, 1) := by decide +kernel
theorem dX7_complex_18 : decode cX7_complex 18 = .ok (.invokevirtual 159, 3) := by decide +kernel
theorem dX7_complex_21 : decode cX7_complex 21 = .ok (.ifCond .eq 5, 3) := by decide +kernel
theorem dX7_complex_24 : decode cX7_complex 24 = .ok (.iconst (-1), 1) := by decide +kernel
theorem dX7_complex_25 : decode cX7_complex 25 = .ok (.ireturn, 1) := by decide +kernel
theorem dX7_complex_26 : decode cX7_complex 26 = .ok (.aload_n 0, 1) := by decide +kernel
theorem dX7_complex_27 : decode cX7_complex 27 = .ok (.iconst 0, 1) := by decide +kernel
theorem dX7_complex_28 : decode cX7_complex 28 = .ok (.putfield 61, 3) := by decide +kernel
theorem dX7_complex_31 : decode cX7_complex 31 = .ok (.aload_n 0, 1) := by decide +kernel
theorem dX7_complex_32 : decode cX7_complex 32 = .ok (.iconst 0, 1) := by decide +kernel
theorem dX7_complex_33 : decode cX7_complex 33 = .ok (.putfield 162, 3) := by decide +kernel
theorem dX7_complex_36 : decode cX7_complex 36 = .ok (.aload_n 0, 1) := by decide +kernel
theorem dX7_complex_37 : decode cX7_complex 37 = .ok (.iload_n 1, 1) := by decide +kernel
theorem dX7_complex_38 : decode cX7_complex 38 = .ok (.invokevirtual 165, 3) := by decide +kernel
theorem dX7_complex_41 : decode cX7_complex 41 = .ok (.ifCond .ne 25, 3) := by decide +kernel
theorem dX7_complex_44 : decode cX7_complex 44 = .ok (.aload_n 0, 1) := by decide +kernel
theorem dX7_complex_45 : decode cX7_complex 45 = .ok (.aload_n 0, 1) := by decide +kernel
theorem dX7_complex_46 : decode cX7_complex 46 = .ok (.getfield 101, 3) := by decide +kernel
theorem dX7_complex_49 : decode cX7_complex 49 = .ok (.putfield 162, 3) := by decide +kernel
theorem dX7_complex_52 : decode cX7_complex 52 = .ok (.aload_n 0, 1) := by decide +kernel
theorem dX7_complex_53 : decode cX7_complex 53 = .ok (.aload_n 0, 1) := by decide +kernel
theorem dX7_complex_54 : decode cX7_complex 54 = .ok (.getfield 104, 3) := by decide +kernel
theorem dX7_complex_57 : decode cX7_complex 57 = .ok (.putfield 9, 3) := by decide +kernel
theorem dX7_complex_60 : decode cX7_complex 60 = .ok (.aload_n 0, 1) := by decide +kernel
theorem dX7_complex_61 : decode cX7_complex 61 = .ok (.iconst 4, 1) := by decide +kernel
theorem dX7_complex_62 : decode cX7_complex 62 = .ok (.invokevirtual 168, 3) := by decide +kernel
theorem dX7_complex_65 : decode cX7_complex 65 = .ok (.ireturn, 1) := by decide +kernel
theorem dX7_complex_66 : decode cX7_complex 66 = .ok (.aload_n 0, 1) := by decide +kernel
theorem dX7_complex_67 : decode cX7_complex 67 = .ok (.aload_n 0, 1) := by decide +kernel
theorem dX7_complex_68 : decode cX7_complex 68 = .ok (.getfield 118, 3) := by decide +kernel
theorem dX7_complex_71 : decode cX7_complex 71 = .ok (.putfield 171, 3) := by decide +kernel
theorem dX7_complex_74 : decode cX7_complex 74 = .ok (.aload_n 0, 1) := by decide +kernel
theorem dX7_complex_75 : decode cX7_complex 75 = .ok (.aload_n 0, 1) := by decide +kernel
theorem dX7_complex_76 : decode cX7_complex 76 = .ok (.getfield 129, 3) := by decide +kernel
theorem dX7_complex_79 : decode cX7_complex 79 = .ok (.putfield 173, 3) := by decide +kernel
theorem dX7_complex_82 : decode cX7_complex 82 = .ok (.aload_n 0, 1) := by decide +kernel
theorem dX7_complex_83 : decode cX7_complex 83 = .ok (.aload_n 0, 1) := by decide +kernel
theorem dX7_complex_84 : decode cX7_complex 84 = .ok (.getfield 139, 3) := by decide +kernel
theorem dX7_complex_87 : decode cX7_complex 87 = .ok (.putfield 176, 3) := by decide +kernel
theorem dX7_complex_90 : decode cX7_complex 90 = .ok (.iconst 0, 1) := by decide +kernel
theorem dX7_complex_91 : decode cX7_complex 91 = .ok (.istore_n 2, 1) := by decide +kernel
theorem dX7_complex_92 : decode cX7_complex 92 = .ok (.iload_n 2, 1) := by decide +kernel
theorem dX7_complex_93 : decode cX7_complex 93 = .ok (.aload_n 0, 1) := by decide +kernel
theorem dX7_complex_94 : decode cX7_complex 94 = .ok (.getfield 176, 3) := by decide +kernel
theorem dX7_complex_97 : decode cX7_complex 97 = .ok (.if_icmp .ge 28, 3) := by decide +kernel
theorem dX7_complex_100 : decode cX7_complex 100 = .ok (.aload_n 0, 1) := by decide +kernel
theorem dX7_complex_101 : decode cX7_complex 101 = .ok (.getfield 17, 3) := by decide +kernel
theorem dX7_complex_104 : decode cX7_complex 104 = .ok (.iload_n 2, 1) := by decide +kernel
theorem dX7_complex_105 : decode cX7_complex 105 = .ok (.aload_n 0, 1) := by decide +kernel
theorem dX7_complex_106 : decode cX7_complex 106 = .ok (.getfield 23, 3) := by decide +kernel
theorem dX7_complex_109 : decode cX7_complex 109 = .ok (.iload_n 2, 1) := by decide +kernel
theorem dX7_complex_110 : decode cX7_complex 110 = .ok (.iaload, 1) := by decide +kernel
theorem dX7_complex_111 : decode cX7_complex 111 = .ok (.iastore, 1) := by decide +kernel
theorem dX7_complex_112 : decode cX7_complex 112 = .ok (.aload_n 0, 1) := by decide +kernel
theorem dX7_complex_113 : decode cX7_complex 113 = .ok (.getfield 20, 3) := by decide +kernel
theorem dX7_complex_116 : decode cX7_complex 116 = .ok (.iload_n 2, 1) := by decide +kernel
theorem dX7_complex_117 : decode cX7_complex 117 = .ok (.iload_n 2, 1) := by decide +kernel
theorem dX7_complex_118 : decode cX7_complex 118 = .ok (.iastore, 1) := by decide +kernel
theorem dX7_complex_119 : decode cX7_complex 119 = .ok (.iinc 2 1, 3) := by decide +kernel
theorem dX7_complex_122 : decode cX7_complex 122 = .ok (.goto (-30), 3) := by decide +kernel
theorem dX7_complex_125 : decode cX7_complex 125 = .ok (.aload_n 0, 1) := by decide +kernel
theorem dX7_complex_126 : decode cX7_complex 126 = .ok (.iconst 1, 1) := by decide +kernel
theorem dX7_complex_127 : decode cX7_complex 127 = .ok (.putfield 179, 3) := by decide +kernel
theorem dX7_complex_130 : decode cX7_complex 130 = .ok (.aload_n 0, 1) := by decide +kernel
theorem dX7_complex_131 : decode cX7_complex 131 = .ok (.getfield 176, 3) := by decide +kernel
theorem dX7_complex_134 : decode cX7_complex 134 = .ok (.ireturn, 1) := by decide +kernel
theorem dX7_fault_0 : decode cX7_fault 0 = .ok (.aload_n 0, 1) := by decide +kernel
theorem dX7_fault_1 : decode cX7_fault 1 = .ok (.iconst 0, 1) := by decide +kernel
theorem dX7_fault_2 : decode cX7_fault 2 = .ok (.putfield 55, 3) := by decide +kernel
theorem dX7_fault_5 : decode cX7_fault 5 = .ok (.aload_n 0, 1) := by decide +kernel
theorem dX7_fault_6 : decode cX7_fault 6 = .ok (.getfield 162, 3) := by decide +kernel
theorem dX7_fault_9 : decode cX7_fault 9 = .ok (.ireturn, 1) := by decide +kernel
theorem dX7_where_0 : decode cX7_where 0 = .ok (.aload_n 0, 1) := by decide +kernel
theorem dX7_where_1 : decode cX7_where 1 = .ok (.iconst 0, 1) := by decide +kernel
theorem dX7_where_2 : decode cX7_where 2 = .ok (.putfield 55, 3) := by decide +kernel
theorem dX7_where_5 : decode cX7_where 5 = .ok (.aload_n 0, 1) := by decide +kernel
theorem dX7_where_6 : decode cX7_where 6 = .ok (.getfield 58, 3) := by decide +kernel
theorem dX7_where_9 : decode cX7_where 9 = .ok (.iconst 4, 1) := by decide +kernel
theorem dX7_where_10 : decode cX7_where 10 = .ok (.if_icmp .ne 10, 3) := by decide +kernel
theorem dX7_where_13 : decode cX7_where 13 = .ok (.aload_n 0, 1) := by decide +kernel
theorem dX7_where_14 : decode cX7_where 14 = .ok (.getfield 9, 3) := by decide +kernel
theorem dX7_where_17 : decode cX7_where 17 = .ok (.goto 4, 3) := by decide +kernel
theorem dX7_where_20 : decode cX7_where 20 = .ok (.iconst (-1), 1) := by decide +kernel
theorem dX7_where_21 : decode cX7_where 21 = .ok (.ireturn, 1) := by decide +kernel
theorem dX7_laysFaces_0 : decode cX7_laysFaces 0 = .ok (.iconst 0, 1) := by decide +kernel
theorem dX7_laysFaces_1 : decode cX7_laysFaces 1 = .ok (.istore_n 3, 1) := by decide +kernel
theorem dX7_laysFaces_2 : decode cX7_laysFaces 2 = .ok (.iload_n 3, 1) := by decide +kernel
theorem dX7_laysFaces_3 : decode cX7_laysFaces 3 = .ok (.sipush 128, 3) := by decide +kernel
theorem dX7_laysFaces_6 : decode cX7_laysFaces 6 = .ok (.if_icmp .ge 54, 3) := by decide +kernel
theorem dX7_laysFaces_9 : decode cX7_laysFaces 9 = .ok (.aload_n 0, 1) := by decide +kernel
theorem dX7_laysFaces_10 : decode cX7_laysFaces 10 = .ok (.getfield 26, 3) := by decide +kernel
theorem dX7_laysFaces_13 : decode cX7_laysFaces 13 = .ok (.iload_n 3, 1) := by decide +kernel
theorem dX7_laysFaces_14 : decode cX7_laysFaces 14 = .ok (.iconst 0, 1) := by decide +kernel
theorem dX7_laysFaces_15 : decode cX7_laysFaces 15 = .ok (.bastore, 1) := by decide +kernel
theorem dX7_laysFaces_16 : decode cX7_laysFaces 16 = .ok (.iconst 0, 1) := by decide +kernel
theorem dX7_laysFaces_17 : decode cX7_laysFaces 17 = .ok (.istore 4, 2) := by decide +kernel
theorem dX7_laysFaces_19 : decode cX7_laysFaces 19 = .ok (.iload 4, 2) := by decide +kernel
theorem dX7_laysFaces_21 : decode cX7_laysFaces 21 = .ok (.iload_n 2, 1) := by decide +kernel
theorem dX7_laysFaces_22 : decode cX7_laysFaces 22 = .ok (.if_icmp .ge 32, 3) := by decide +kernel
theorem dX7_laysFaces_25 : decode cX7_laysFaces 25 = .ok (.aload_n 0, 1) := by decide +kernel
theorem dX7_laysFaces_26 : decode cX7_laysFaces 26 = .ok (.getfield 26, 3) := by decide +kernel
theorem dX7_laysFaces_29 : decode cX7_laysFaces 29 = .ok (.iload_n 3, 1) := by decide +kernel
theorem dX7_laysFaces_30 : decode cX7_laysFaces 30 = .ok (.baload, 1) := by decide +kernel
theorem dX7_laysFaces_31 : decode cX7_laysFaces 31 = .ok (.ifCond .ne 23, 3) := by decide +kernel
theorem dX7_laysFaces_34 : decode cX7_laysFaces 34 = .ok (.aload_n 0, 1) := by decide +kernel
theorem dX7_laysFaces_35 : decode cX7_laysFaces 35 = .ok (.getfield 26, 3) := by decide +kernel
theorem dX7_laysFaces_38 : decode cX7_laysFaces 38 = .ok (.iload_n 3, 1) := by decide +kernel
theorem dX7_laysFaces_39 : decode cX7_laysFaces 39 = .ok (.iload_n 3, 1) := by decide +kernel
theorem dX7_laysFaces_40 : decode cX7_laysFaces 40 = .ok (.aload_n 1, 1) := by decide +kernel
theorem dX7_laysFaces_41 : decode cX7_laysFaces 41 = .ok (.iload 4, 2) := by decide +kernel
theorem dX7_laysFaces_43 : decode cX7_laysFaces 43 = .ok (.iaload, 1) := by decide +kernel
theorem dX7_laysFaces_44 : decode cX7_laysFaces 44 = .ok (.invokestatic 183, 3) := by decide +kernel
theorem dX7_laysFaces_47 : decode cX7_laysFaces 47 = .ok (.bastore, 1) := by decide +kernel
theorem dX7_laysFaces_48 : decode cX7_laysFaces 48 = .ok (.iinc 4 1, 3) := by decide +kernel
theorem dX7_laysFaces_51 : decode cX7_laysFaces 51 = .ok (.goto (-32), 3) := by decide +kernel
theorem dX7_laysFaces_54 : decode cX7_laysFaces 54 = .ok (.iinc 3 1, 3) := by decide +kernel
theorem dX7_laysFaces_57 : decode cX7_laysFaces 57 = .ok (.goto (-55), 3) := by decide +kernel
theorem dX7_laysFaces_60 : decode cX7_laysFaces 60 = .ok (.return_, 1) := by decide +kernel
theorem dX7_facesOf_0 : decode cX7_facesOf 0 = .ok (.iconst 0, 1) := by decide +kernel
theorem dX7_facesOf_1 : decode cX7_facesOf 1 = .ok (.istore_n 2, 1) := by decide +kernel
theorem dX7_facesOf_2 : decode cX7_facesOf 2 = .ok (.iconst 0, 1) := by decide +kernel
theorem dX7_facesOf_3 : decode cX7_facesOf 3 = .ok (.istore_n 3, 1) := by decide +kernel
theorem dX7_facesOf_4 : decode cX7_facesOf 4 = .ok (.iload_n 3, 1) := by decide +kernel
theorem dX7_facesOf_5 : decode cX7_facesOf 5 = .ok (.sipush 128, 3) := by decide +kernel
theorem dX7_facesOf_8 : decode cX7_facesOf 8 = .ok (.if_icmp .ge 34, 3) := by decide +kernel
theorem dX7_facesOf_11 : decode cX7_facesOf 11 = .ok (.iload_n 2, 1) := by decide +kernel
theorem dX7_facesOf_12 : decode cX7_facesOf 12 = .ok (.aload_n 0, 1) := by decide +kernel
theorem dX7_facesOf_13 : decode cX7_facesOf 13 = .ok (.getfield 26, 3) := by decide +kernel
theorem dX7_facesOf_16 : decode cX7_facesOf 16 = .ok (.iload_n 3, 1) := by decide +kernel
theorem dX7_facesOf_17 : decode cX7_facesOf 17 = .ok (.baload, 1) := by decide +kernel
theorem dX7_facesOf_18 : decode cX7_facesOf 18 = .ok (.ifCond .eq 15, 3) := by decide +kernel
theorem dX7_facesOf_21 : decode cX7_facesOf 21 = .ok (.iload_n 3, 1) := by decide +kernel
theorem dX7_facesOf_22 : decode cX7_facesOf 22 = .ok (.invokestatic 136, 3) := by decide +kernel
theorem dX7_facesOf_25 : decode cX7_facesOf 25 = .ok (.iload_n 1, 1) := by decide +kernel
theorem dX7_facesOf_26 : decode cX7_facesOf 26 = .ok (.if_icmp .ne 7, 3) := by decide +kernel
theorem dX7_facesOf_29 : decode cX7_facesOf 29 = .ok (.iconst 1, 1) := by decide +kernel
theorem dX7_facesOf_30 : decode cX7_facesOf 30 = .ok (.goto 4, 3) := by decide +kernel
theorem dX7_facesOf_33 : decode cX7_facesOf 33 = .ok (.iconst 0, 1) := by decide +kernel
theorem dX7_facesOf_34 : decode cX7_facesOf 34 = .ok (.iadd, 1) := by decide +kernel
theorem dX7_facesOf_35 : decode cX7_facesOf 35 = .ok (.istore_n 2, 1) := by decide +kernel
theorem dX7_facesOf_36 : decode cX7_facesOf 36 = .ok (.iinc 3 1, 3) := by decide +kernel
theorem dX7_facesOf_39 : decode cX7_facesOf 39 = .ok (.goto (-35), 3) := by decide +kernel
theorem dX7_facesOf_42 : decode cX7_facesOf 42 = .ok (.iload_n 2, 1) := by decide +kernel
theorem dX7_facesOf_43 : decode cX7_facesOf 43 = .ok (.ireturn, 1) := by decide +kernel
theorem dX7_rankOf_0 : decode cX7_rankOf 0 = .ok (.iload_n 1, 1) := by decide +kernel
theorem dX7_rankOf_1 : decode cX7_rankOf 1 = .ok (.ifCond .ne 5, 3) := by decide +kernel
theorem dX7_rankOf_4 : decode cX7_rankOf 4 = .ok (.iconst 0, 1) := by decide +kernel
theorem dX7_rankOf_5 : decode cX7_rankOf 5 = .ok (.ireturn, 1) := by decide +kernel
theorem dX7_rankOf_6 : decode cX7_rankOf 6 = .ok (.iconst 0, 1) := by decide +kernel
theorem dX7_rankOf_7 : decode cX7_rankOf 7 = .ok (.istore_n 2, 1) := by decide +kernel
theorem dX7_rankOf_8 : decode cX7_rankOf 8 = .ok (.iconst 0, 1) := by decide +kernel
theorem dX7_rankOf_9 : decode cX7_rankOf 9 = .ok (.istore_n 3, 1) := by decide +kernel
theorem dX7_rankOf_10 : decode cX7_rankOf 10 = .ok (.iload_n 3, 1) := by decide +kernel
theorem dX7_rankOf_11 : decode cX7_rankOf 11 = .ok (.sipush 128, 3) := by decide +kernel
theorem dX7_rankOf_14 : decode cX7_rankOf 14 = .ok (.if_icmp .ge 38, 3) := by decide +kernel
theorem dX7_rankOf_17 : decode cX7_rankOf 17 = .ok (.aload_n 0, 1) := by decide +kernel
theorem dX7_rankOf_18 : decode cX7_rankOf 18 = .ok (.getfield 26, 3) := by decide +kernel
theorem dX7_rankOf_21 : decode cX7_rankOf 21 = .ok (.iload_n 3, 1) := by decide +kernel
theorem dX7_rankOf_22 : decode cX7_rankOf 22 = .ok (.baload, 1) := by decide +kernel
theorem dX7_rankOf_23 : decode cX7_rankOf 23 = .ok (.ifCond .eq 23, 3) := by decide +kernel
theorem dX7_rankOf_26 : decode cX7_rankOf 26 = .ok (.iload_n 3, 1) := by decide +kernel
theorem dX7_rankOf_27 : decode cX7_rankOf 27 = .ok (.invokestatic 136, 3) := by decide +kernel
theorem dX7_rankOf_30 : decode cX7_rankOf 30 = .ok (.iload_n 1, 1) := by decide +kernel
theorem dX7_rankOf_31 : decode cX7_rankOf 31 = .ok (.iconst 1, 1) := by decide +kernel
theorem dX7_rankOf_32 : decode cX7_rankOf 32 = .ok (.isub, 1) := by decide +kernel
theorem dX7_rankOf_33 : decode cX7_rankOf 33 = .ok (.if_icmp .ne 13, 3) := by decide +kernel
theorem dX7_rankOf_36 : decode cX7_rankOf 36 = .ok (.aload_n 0, 1) := by decide +kernel
theorem dX7_rankOf_37 : decode cX7_rankOf 37 = .ok (.getfield 34, 3) := by decide +kernel
theorem dX7_rankOf_40 : decode cX7_rankOf 40 = .ok (.iload_n 3, 1) := by decide +kernel
theorem dX7_rankOf_41 : decode cX7_rankOf 41 = .ok (.iload_n 2, 1) := by decide +kernel
theorem dX7_rankOf_42 : decode cX7_rankOf 42 = .ok (.iastore, 1) := by decide +kernel
theorem dX7_rankOf_43 : decode cX7_rankOf 43 = .ok (.iinc 2 1, 3) := by decide +kernel
theorem dX7_rankOf_46 : decode cX7_rankOf 46 = .ok (.iinc 3 1, 3) := by decide +kernel
theorem dX7_rankOf_49 : decode cX7_rankOf 49 = .ok (.goto (-39), 3) := by decide +kernel
theorem dX7_rankOf_52 : decode cX7_rankOf 52 = .ok (.iconst 0, 1) := by decide +kernel
theorem dX7_rankOf_53 : decode cX7_rankOf 53 = .ok (.istore_n 3, 1) := by decide +kernel
theorem dX7_rankOf_54 : decode cX7_rankOf 54 = .ok (.iconst 0, 1) := by decide +kernel
theorem dX7_rankOf_55 : decode cX7_rankOf 55 = .ok (.istore 4, 2) := by decide +kernel
theorem dX7_rankOf_57 : decode cX7_rankOf 57 = .ok (.iload 4, 2) := by decide +kernel
theorem dX7_rankOf_59 : decode cX7_rankOf 59 = .ok (.sipush 128, 3) := by decide +kernel
theorem dX7_rankOf_62 : decode cX7_rankOf 62 = .ok (.if_icmp .ge 93, 3) := by decide +kernel
theorem dX7_rankOf_65 : decode cX7_rankOf 65 = .ok (.aload_n 0, 1) := by decide +kernel
theorem dX7_rankOf_66 : decode cX7_rankOf 66 = .ok (.getfield 26, 3) := by decide +kernel
theorem dX7_rankOf_69 : decode cX7_rankOf 69 = .ok (.iload 4, 2) := by decide +kernel
theorem dX7_rankOf_71 : decode cX7_rankOf 71 = .ok (.baload, 1) := by decide +kernel
theorem dX7_rankOf_72 : decode cX7_rankOf 72 = .ok (.ifCond .eq 77, 3) := by decide +kernel
theorem dX7_rankOf_75 : decode cX7_rankOf 75 = .ok (.iload 4, 2) := by decide +kernel
theorem dX7_rankOf_77 : decode cX7_rankOf 77 = .ok (.invokestatic 136, 3) := by decide +kernel
theorem dX7_rankOf_80 : decode cX7_rankOf 80 = .ok (.iload_n 1, 1) := by decide +kernel
theorem dX7_rankOf_81 : decode cX7_rankOf 81 = .ok (.if_icmp .ne 68, 3) := by decide +kernel
theorem dX7_rankOf_84 : decode cX7_rankOf 84 = .ok (.aload_n 0, 1) := by decide +kernel
theorem dX7_rankOf_85 : decode cX7_rankOf 85 = .ok (.getfield 30, 3) := by decide +kernel
theorem dX7_rankOf_88 : decode cX7_rankOf 88 = .ok (.iload_n 3, 1) := by decide +kernel
theorem dX7_rankOf_89 : decode cX7_rankOf 89 = .ok (.lconst 0, 1) := by decide +kernel
theorem dX7_rankOf_90 : decode cX7_rankOf 90 = .ok (.lastore, 1) := by decide +kernel
theorem dX7_rankOf_91 : decode cX7_rankOf 91 = .ok (.iconst 0, 1) := by decide +kernel
theorem dX7_rankOf_92 : decode cX7_rankOf 92 = .ok (.istore 5, 2) := by decide +kernel
theorem dX7_rankOf_94 : decode cX7_rankOf 94 = .ok (.iload 5, 2) := by decide +kernel
theorem dX7_rankOf_96 : decode cX7_rankOf 96 = .ok (.bipush 7, 2) := by decide +kernel
theorem dX7_rankOf_98 : decode cX7_rankOf 98 = .ok (.if_icmp .ge 48, 3) := by decide +kernel
theorem dX7_rankOf_101 : decode cX7_rankOf 101 = .ok (.aload_n 0, 1) := by decide +kernel
theorem dX7_rankOf_102 : decode cX7_rankOf 102 = .ok (.getfield 30, 3) := by decide +kernel
theorem dX7_rankOf_105 : decode cX7_rankOf 105 = .ok (.iload_n 3, 1) := by decide +kernel
theorem dX7_rankOf_106 : decode cX7_rankOf 106 = .ok (.dup2, 1) := by decide +kernel
theorem dX7_rankOf_107 : decode cX7_rankOf 107 = .ok (.laload, 1) := by decide +kernel
theorem dX7_rankOf_108 : decode cX7_rankOf 108 = .ok (.iload 4, 2) := by decide +kernel
theorem dX7_rankOf_110 : decode cX7_rankOf 110 = .ok (.iload 5, 2) := by decide +kernel
theorem dX7_rankOf_112 : decode cX7_rankOf 112 = .ok (.invokestatic 132, 3) := by decide +kernel
theorem dX7_rankOf_115 : decode cX7_rankOf 115 = .ok (.ifCond .eq 22, 3) := by decide +kernel
theorem dX7_rankOf_118 : decode cX7_rankOf 118 = .ok (.lconst 1, 1) := by decide +kernel
theorem dX7_rankOf_119 : decode cX7_rankOf 119 = .ok (.aload_n 0, 1) := by decide +kernel
theorem dX7_rankOf_120 : decode cX7_rankOf 120 = .ok (.getfield 34, 3) := by decide +kernel
theorem dX7_rankOf_123 : decode cX7_rankOf 123 = .ok (.iload 4, 2) := by decide +kernel
theorem dX7_rankOf_125 : decode cX7_rankOf 125 = .ok (.iconst 1, 1) := by decide +kernel
theorem dX7_rankOf_126 : decode cX7_rankOf 126 = .ok (.iload 5, 2) := by decide +kernel
theorem dX7_rankOf_128 : decode cX7_rankOf 128 = .ok (.ishl, 1) := by decide +kernel
theorem dX7_rankOf_129 : decode cX7_rankOf 129 = .ok (.iconst (-1), 1) := by decide +kernel
theorem dX7_rankOf_130 : decode cX7_rankOf 130 = .ok (.ixor, 1) := by decide +kernel
theorem dX7_rankOf_131 : decode cX7_rankOf 131 = .ok (.iand, 1) := by decide +kernel
theorem dX7_rankOf_132 : decode cX7_rankOf 132 = .ok (.iaload, 1) := by decide +kernel
theorem dX7_rankOf_133 : decode cX7_rankOf 133 = .ok (.lshl, 1) := by decide +kernel
theorem dX7_rankOf_134 : decode cX7_rankOf 134 = .ok (.goto 4, 3) := by decide +kernel
theorem dX7_rankOf_137 : decode cX7_rankOf 137 = .ok (.lconst 0, 1) := by decide +kernel
theorem dX7_rankOf_138 : decode cX7_rankOf 138 = .ok (.lor, 1) := by decide +kernel
theorem dX7_rankOf_139 : decode cX7_rankOf 139 = .ok (.lastore, 1) := by decide +kernel
theorem dX7_rankOf_140 : decode cX7_rankOf 140 = .ok (.iinc 5 1, 3) := by decide +kernel
theorem dX7_rankOf_143 : decode cX7_rankOf 143 = .ok (.goto (-49), 3) := by decide +kernel
theorem dX7_rankOf_146 : decode cX7_rankOf 146 = .ok (.iinc 3 1, 3) := by decide +kernel
theorem dX7_rankOf_149 : decode cX7_rankOf 149 = .ok (.iinc 4 1, 3) := by decide +kernel
theorem dX7_rankOf_152 : decode cX7_rankOf 152 = .ok (.goto (-95), 3) := by decide +kernel
theorem dX7_rankOf_155 : decode cX7_rankOf 155 = .ok (.aload_n 0, 1) := by decide +kernel
theorem dX7_rankOf_156 : decode cX7_rankOf 156 = .ok (.iload_n 3, 1) := by decide +kernel
theorem dX7_rankOf_157 : decode cX7_rankOf 157 = .ok (.invokevirtual 186, 3) := by decide +kernel
theorem dX7_rankOf_160 : decode cX7_rankOf 160 = .ok (.ireturn, 1) := by decide +kernel
theorem dX7_rankOfRows_0 : decode cX7_rankOfRows 0 = .ok (.iconst 0, 1) := by decide +kernel
theorem dX7_rankOfRows_1 : decode cX7_rankOfRows 1 = .ok (.istore_n 2, 1) := by decide +kernel
theorem dX7_rankOfRows_2 : decode cX7_rankOfRows 2 = .ok (.iconst 0, 1) := by decide +kernel
theorem dX7_rankOfRows_3 : decode cX7_rankOfRows 3 = .ok (.istore_n 3, 1) := by decide +kernel
theorem dX7_rankOfRows_4 : decode cX7_rankOfRows 4 = .ok (.iload_n 3, 1) := by decide +kernel
theorem dX7_rankOfRows_5 : decode cX7_rankOfRows 5 = .ok (.iload_n 1, 1) := by decide +kernel
theorem dX7_rankOfRows_6 : decode cX7_rankOfRows 6 = .ok (.if_icmp .ge 95, 3) := by decide +kernel
theorem dX7_rankOfRows_9 : decode cX7_rankOfRows 9 = .ok (.aload_n 0, 1) := by decide +kernel
theorem dX7_rankOfRows_10 : decode cX7_rankOfRows 10 = .ok (.getfield 30, 3) := by decide +kernel
theorem dX7_rankOfRows_13 : decode cX7_rankOfRows 13 = .ok (.iload_n 3, 1) := by decide +kernel
theorem dX7_rankOfRows_14 : decode cX7_rankOfRows 14 = .ok (.laload, 1) := by decide +kernel
theorem dX7_rankOfRows_15 : decode cX7_rankOfRows 15 = .ok (.lconst 0, 1) := by decide +kernel
theorem dX7_rankOfRows_16 : decode cX7_rankOfRows 16 = .ok (.lcmp, 1) := by decide +kernel
theorem dX7_rankOfRows_17 : decode cX7_rankOfRows 17 = .ok (.ifCond .eq 78, 3) := by decide +kernel
theorem dX7_rankOfRows_20 : decode cX7_rankOfRows 20 = .ok (.aload_n 0, 1) := by decide +kernel
theorem dX7_rankOfRows_21 : decode cX7_rankOfRows 21 = .ok (.getfield 30, 3) := by decide +kernel
theorem dX7_rankOfRows_24 : decode cX7_rankOfRows 24 = .ok (.iload_n 3, 1) := by decide +kernel
theorem dX7_rankOfRows_25 : decode cX7_rankOfRows 25 = .ok (.laload, 1) := by decide +kernel
theorem dX7_rankOfRows_26 : decode cX7_rankOfRows 26 = .ok (.aload_n 0, 1) := by decide +kernel
theorem dX7_rankOfRows_27 : decode cX7_rankOfRows 27 = .ok (.getfield 30, 3) := by decide +kernel
theorem dX7_rankOfRows_30 : decode cX7_rankOfRows 30 = .ok (.iload_n 3, 1) := by decide +kernel
theorem dX7_rankOfRows_31 : decode cX7_rankOfRows 31 = .ok (.laload, 1) := by decide +kernel
theorem dX7_rankOfRows_32 : decode cX7_rankOfRows 32 = .ok (.lneg, 1) := by decide +kernel
theorem dX7_rankOfRows_33 : decode cX7_rankOfRows 33 = .ok (.land, 1) := by decide +kernel
theorem dX7_rankOfRows_34 : decode cX7_rankOfRows 34 = .ok (.lstore 4, 2) := by decide +kernel
theorem dX7_rankOfRows_36 : decode cX7_rankOfRows 36 = .ok (.iconst 0, 1) := by decide +kernel
theorem dX7_rankOfRows_37 : decode cX7_rankOfRows 37 = .ok (.istore 6, 2) := by decide +kernel
theorem dX7_rankOfRows_39 : decode cX7_rankOfRows 39 = .ok (.iload 6, 2) := by decide +kernel
theorem dX7_rankOfRows_41 : decode cX7_rankOfRows 41 = .ok (.iload_n 1, 1) := by decide +kernel
theorem dX7_rankOfRows_42 : decode cX7_rankOfRows 42 = .ok (.if_icmp .ge 50, 3) := by decide +kernel
theorem dX7_rankOfRows_45 : decode cX7_rankOfRows 45 = .ok (.aload_n 0, 1) := by decide +kernel
theorem dX7_rankOfRows_46 : decode cX7_rankOfRows 46 = .ok (.getfield 30, 3) := by decide +kernel
theorem dX7_rankOfRows_49 : decode cX7_rankOfRows 49 = .ok (.iload 6, 2) := by decide +kernel
theorem dX7_rankOfRows_51 : decode cX7_rankOfRows 51 = .ok (.dup2, 1) := by decide +kernel
theorem dX7_rankOfRows_52 : decode cX7_rankOfRows 52 = .ok (.laload, 1) := by decide +kernel
theorem dX7_rankOfRows_53 : decode cX7_rankOfRows 53 = .ok (.iload 6, 2) := by decide +kernel
theorem dX7_rankOfRows_55 : decode cX7_rankOfRows 55 = .ok (.iload_n 3, 1) := by decide +kernel
theorem dX7_rankOfRows_56 : decode cX7_rankOfRows 56 = .ok (.if_icmp .eq 27, 3) := by decide +kernel
theorem dX7_rankOfRows_59 : decode cX7_rankOfRows 59 = .ok (.aload_n 0, 1) := by decide +kernel
theorem dX7_rankOfRows_60 : decode cX7_rankOfRows 60 = .ok (.getfield 30, 3) := by decide +kernel
theorem dX7_rankOfRows_63 : decode cX7_rankOfRows 63 = .ok (.iload 6, 2) := by decide +kernel
theorem dX7_rankOfRows_65 : decode cX7_rankOfRows 65 = .ok (.laload, 1) := by decide +kernel
theorem dX7_rankOfRows_66 : decode cX7_rankOfRows 66 = .ok (.lload 4, 2) := by decide +kernel
theorem dX7_rankOfRows_68 : decode cX7_rankOfRows 68 = .ok (.land, 1) := by decide +kernel
theorem dX7_rankOfRows_69 : decode cX7_rankOfRows 69 = .ok (.lconst 0, 1) := by decide +kernel
theorem dX7_rankOfRows_70 : decode cX7_rankOfRows 70 = .ok (.lcmp, 1) := by decide +kernel
theorem dX7_rankOfRows_71 : decode cX7_rankOfRows 71 = .ok (.ifCond .eq 12, 3) := by decide +kernel
theorem dX7_rankOfRows_74 : decode cX7_rankOfRows 74 = .ok (.aload_n 0, 1) := by decide +kernel
theorem dX7_rankOfRows_75 : decode cX7_rankOfRows 75 = .ok (.getfield 30, 3) := by decide +kernel
theorem dX7_rankOfRows_78 : decode cX7_rankOfRows 78 = .ok (.iload_n 3, 1) := by decide +kernel
theorem dX7_rankOfRows_79 : decode cX7_rankOfRows 79 = .ok (.laload, 1) := by decide +kernel
theorem dX7_rankOfRows_80 : decode cX7_rankOfRows 80 = .ok (.goto 4, 3) := by decide +kernel
theorem dX7_rankOfRows_83 : decode cX7_rankOfRows 83 = .ok (.lconst 0, 1) := by decide +kernel
theorem dX7_rankOfRows_84 : decode cX7_rankOfRows 84 = .ok (.lxor, 1) := by decide +kernel
theorem dX7_rankOfRows_85 : decode cX7_rankOfRows 85 = .ok (.lastore, 1) := by decide +kernel
theorem dX7_rankOfRows_86 : decode cX7_rankOfRows 86 = .ok (.iinc 6 1, 3) := by decide +kernel
theorem dX7_rankOfRows_89 : decode cX7_rankOfRows 89 = .ok (.goto (-50), 3) := by decide +kernel
theorem dX7_rankOfRows_92 : decode cX7_rankOfRows 92 = .ok (.iinc 2 1, 3) := by decide +kernel
theorem dX7_rankOfRows_95 : decode cX7_rankOfRows 95 = .ok (.iinc 3 1, 3) := by decide +kernel
theorem dX7_rankOfRows_98 : decode cX7_rankOfRows 98 = .ok (.goto (-94), 3) := by decide +kernel
theorem dX7_rankOfRows_101 : decode cX7_rankOfRows 101 = .ok (.iload_n 2, 1) := by decide +kernel
theorem dX7_rankOfRows_102 : decode cX7_rankOfRows 102 = .ok (.ireturn, 1) := by decide +kernel
theorem dX7_roundOf_0 : decode cX7_roundOf 0 = .ok (.aload_n 0, 1) := by decide +kernel
theorem dX7_roundOf_1 : decode cX7_roundOf 1 = .ok (.iload_n 1, 1) := by decide +kernel
theorem dX7_roundOf_2 : decode cX7_roundOf 2 = .ok (.invokevirtual 189, 3) := by decide +kernel
theorem dX7_roundOf_5 : decode cX7_roundOf 5 = .ok (.aload_n 0, 1) := by decide +kernel
theorem dX7_roundOf_6 : decode cX7_roundOf 6 = .ok (.iload_n 1, 1) := by decide +kernel
theorem dX7_roundOf_7 : decode cX7_roundOf 7 = .ok (.invokevirtual 192, 3) := by decide +kernel
theorem dX7_roundOf_10 : decode cX7_roundOf 10 = .ok (.isub, 1) := by decide +kernel
theorem dX7_roundOf_11 : decode cX7_roundOf 11 = .ok (.aload_n 0, 1) := by decide +kernel
theorem dX7_roundOf_12 : decode cX7_roundOf 12 = .ok (.iload_n 1, 1) := by decide +kernel
theorem dX7_roundOf_13 : decode cX7_roundOf 13 = .ok (.iconst 1, 1) := by decide +kernel
theorem dX7_roundOf_14 : decode cX7_roundOf 14 = .ok (.iadd, 1) := by decide +kernel
theorem dX7_roundOf_15 : decode cX7_roundOf 15 = .ok (.invokevirtual 192, 3) := by decide +kernel
theorem dX7_roundOf_18 : decode cX7_roundOf 18 = .ok (.isub, 1) := by decide +kernel
theorem dX7_roundOf_19 : decode cX7_roundOf 19 = .ok (.ireturn, 1) := by decide +kernel
theorem dX7_laysOwn_0 : decode cX7_laysOwn 0 = .ok (.aload_n 0, 1) := by decide +kernel
theorem dX7_laysOwn_1 : decode cX7_laysOwn 1 = .ok (.aload_n 0, 1) := by decide +kernel
theorem dX7_laysOwn_2 : decode cX7_laysOwn 2 = .ok (.getfield 17, 3) := by decide +kernel
theorem dX7_laysOwn_5 : decode cX7_laysOwn 5 = .ok (.aload_n 0, 1) := by decide +kernel
theorem dX7_laysOwn_6 : decode cX7_laysOwn 6 = .ok (.getfield 176, 3) := by decide +kernel
theorem dX7_laysOwn_9 : decode cX7_laysOwn 9 = .ok (.invokevirtual 195, 3) := by decide +kernel
theorem dX7_laysOwn_12 : decode cX7_laysOwn 12 = .ok (.return_, 1) := by decide +kernel
theorem dX7_isAsked_0 : decode cX7_isAsked 0 = .ok (.aload_n 0, 1) := by decide +kernel
theorem dX7_isAsked_1 : decode cX7_isAsked 1 = .ok (.aload_n 0, 1) := by decide +kernel
theorem dX7_isAsked_2 : decode cX7_isAsked 2 = .ok (.getfield 179, 3) := by decide +kernel
theorem dX7_isAsked_5 : decode cX7_isAsked 5 = .ok (.ifCond .eq 11, 3) := by decide +kernel
theorem dX7_isAsked_8 : decode cX7_isAsked 8 = .ok (.iload_n 1, 1) := by decide +kernel
theorem dX7_isAsked_9 : decode cX7_isAsked 9 = .ok (.ifCond .eq 7, 3) := by decide +kernel
theorem dX7_isAsked_12 : decode cX7_isAsked 12 = .ok (.iconst 1, 1) := by decide +kernel
theorem dX7_isAsked_13 : decode cX7_isAsked 13 = .ok (.goto 4, 3) := by decide +kernel
theorem dX7_isAsked_16 : decode cX7_isAsked 16 = .ok (.iconst 0, 1) := by decide +kernel
theorem dX7_isAsked_17 : decode cX7_isAsked 17 = .ok (.invokestatic 199, 3) := by decide +kernel
theorem dX7_isAsked_20 : decode cX7_isAsked 20 = .ok (.invokevirtual 159, 3) := by decide +kernel
theorem dX7_isAsked_23 : decode cX7_isAsked 23 = .ok (.ifCond .eq 5, 3) := by decide +kernel
theorem dX7_isAsked_26 : decode cX7_isAsked 26 = .ok (.iconst 0, 1) := by decide +kernel
theorem dX7_isAsked_27 : decode cX7_isAsked 27 = .ok (.ireturn, 1) := by decide +kernel
theorem dX7_isAsked_28 : decode cX7_isAsked 28 = .ok (.aload_n 0, 1) := by decide +kernel
theorem dX7_isAsked_29 : decode cX7_isAsked 29 = .ok (.invokevirtual 203, 3) := by decide +kernel
theorem dX7_isAsked_32 : decode cX7_isAsked 32 = .ok (.iconst 1, 1) := by decide +kernel
theorem dX7_isAsked_33 : decode cX7_isAsked 33 = .ok (.ireturn, 1) := by decide +kernel
theorem dX7_isSized_0 : decode cX7_isSized 0 = .ok (.aload_n 0, 1) := by decide +kernel
theorem dX7_isSized_1 : decode cX7_isSized 1 = .ok (.aload_n 0, 1) := by decide +kernel
theorem dX7_isSized_2 : decode cX7_isSized 2 = .ok (.getfield 179, 3) := by decide +kernel
theorem dX7_isSized_5 : decode cX7_isSized 5 = .ok (.iload_n 1, 1) := by decide +kernel
theorem dX7_isSized_6 : decode cX7_isSized 6 = .ok (.iconst 0, 1) := by decide +kernel
theorem dX7_isSized_7 : decode cX7_isSized 7 = .ok (.aload_n 0, 1) := by decide +kernel
theorem dX7_isSized_8 : decode cX7_isSized 8 = .ok (.getfield 173, 3) := by decide +kernel
theorem dX7_isSized_11 : decode cX7_isSized 11 = .ok (.invokestatic 84, 3) := by decide +kernel
theorem dX7_isSized_14 : decode cX7_isSized 14 = .ok (.invokestatic 206, 3) := by decide +kernel
theorem dX7_isSized_17 : decode cX7_isSized 17 = .ok (.invokevirtual 159, 3) := by decide +kernel
theorem dX7_isSized_20 : decode cX7_isSized 20 = .ok (.ifCond .eq 5, 3) := by decide +kernel
theorem dX7_isSized_23 : decode cX7_isSized 23 = .ok (.iconst 0, 1) := by decide +kernel
theorem dX7_isSized_24 : decode cX7_isSized 24 = .ok (.ireturn, 1) := by decide +kernel
theorem dX7_isSized_25 : decode cX7_isSized 25 = .ok (.aload_n 0, 1) := by decide +kernel
theorem dX7_isSized_26 : decode cX7_isSized 26 = .ok (.invokevirtual 203, 3) := by decide +kernel
theorem dX7_isSized_29 : decode cX7_isSized 29 = .ok (.iconst 1, 1) := by decide +kernel
theorem dX7_isSized_30 : decode cX7_isSized 30 = .ok (.ireturn, 1) := by decide +kernel
theorem dX7_allPoints_0 : decode cX7_allPoints 0 = .ok (.iconst 1, 1) := by decide +kernel
theorem dX7_allPoints_1 : decode cX7_allPoints 1 = .ok (.aload_n 0, 1) := by decide +kernel
theorem dX7_allPoints_2 : decode cX7_allPoints 2 = .ok (.getfield 171, 3) := by decide +kernel
theorem dX7_allPoints_5 : decode cX7_allPoints 5 = .ok (.ishl, 1) := by decide +kernel
theorem dX7_allPoints_6 : decode cX7_allPoints 6 = .ok (.iconst 1, 1) := by decide +kernel
theorem dX7_allPoints_7 : decode cX7_allPoints 7 = .ok (.isub, 1) := by decide +kernel
theorem dX7_allPoints_8 : decode cX7_allPoints 8 = .ok (.ireturn, 1) := by decide +kernel
theorem dX7_isMissing_0 : decode cX7_isMissing 0 = .ok (.aload_n 0, 1) := by decide +kernel
theorem dX7_isMissing_1 : decode cX7_isMissing 1 = .ok (.getfield 26, 3) := by decide +kernel
theorem dX7_isMissing_4 : decode cX7_isMissing 4 = .ok (.iload_n 1, 1) := by decide +kernel
theorem dX7_isMissing_5 : decode cX7_isMissing 5 = .ok (.baload, 1) := by decide +kernel
theorem dX7_isMissing_6 : decode cX7_isMissing 6 = .ok (.ifCond .ne 7, 3) := by decide +kernel
theorem dX7_isMissing_9 : decode cX7_isMissing 9 = .ok (.iload_n 1, 1) := by decide +kernel
theorem dX7_isMissing_10 : decode cX7_isMissing 10 = .ok (.ifCond .ne 5, 3) := by decide +kernel
theorem dX7_isMissing_13 : decode cX7_isMissing 13 = .ok (.iconst 0, 1) := by decide +kernel
theorem dX7_isMissing_14 : decode cX7_isMissing 14 = .ok (.ireturn, 1) := by decide +kernel
theorem dX7_isMissing_15 : decode cX7_isMissing 15 = .ok (.iconst 0, 1) := by decide +kernel
theorem dX7_isMissing_16 : decode cX7_isMissing 16 = .ok (.istore_n 2, 1) := by decide +kernel
theorem dX7_isMissing_17 : decode cX7_isMissing 17 = .ok (.iload_n 2, 1) := by decide +kernel
theorem dX7_isMissing_18 : decode cX7_isMissing 18 = .ok (.aload_n 0, 1) := by decide +kernel
theorem dX7_isMissing_19 : decode cX7_isMissing 19 = .ok (.getfield 171, 3) := by decide +kernel
theorem dX7_isMissing_22 : decode cX7_isMissing 22 = .ok (.if_icmp .ge 34, 3) := by decide +kernel
theorem dX7_isMissing_25 : decode cX7_isMissing 25 = .ok (.iload_n 1, 1) := by decide +kernel
theorem dX7_isMissing_26 : decode cX7_isMissing 26 = .ok (.iload_n 2, 1) := by decide +kernel
theorem dX7_isMissing_27 : decode cX7_isMissing 27 = .ok (.invokestatic 132, 3) := by decide +kernel
theorem dX7_isMissing_30 : decode cX7_isMissing 30 = .ok (.ifCond .eq 20, 3) := by decide +kernel
theorem dX7_isMissing_33 : decode cX7_isMissing 33 = .ok (.aload_n 0, 1) := by decide +kernel
theorem dX7_isMissing_34 : decode cX7_isMissing 34 = .ok (.getfield 26, 3) := by decide +kernel
theorem dX7_isMissing_37 : decode cX7_isMissing 37 = .ok (.iload_n 1, 1) := by decide +kernel
theorem dX7_isMissing_38 : decode cX7_isMissing 38 = .ok (.iconst 1, 1) := by decide +kernel
theorem dX7_isMissing_39 : decode cX7_isMissing 39 = .ok (.iload_n 2, 1) := by decide +kernel
theorem dX7_isMissing_40 : decode cX7_isMissing 40 = .ok (.ishl, 1) := by decide +kernel
theorem dX7_isMissing_41 : decode cX7_isMissing 41 = .ok (.iconst (-1), 1) := by decide +kernel
theorem dX7_isMissing_42 : decode cX7_isMissing 42 = .ok (.ixor, 1) := by decide +kernel
theorem dX7_isMissing_43 : decode cX7_isMissing 43 = .ok (.iand, 1) := by decide +kernel
theorem dX7_isMissing_44 : decode cX7_isMissing 44 = .ok (.baload, 1) := by decide +kernel
theorem dX7_isMissing_45 : decode cX7_isMissing 45 = .ok (.ifCond .ne 5, 3) := by decide +kernel
theorem dX7_isMissing_48 : decode cX7_isMissing 48 = .ok (.iconst 0, 1) := by decide +kernel
theorem dX7_isMissing_49 : decode cX7_isMissing 49 = .ok (.ireturn, 1) := by decide +kernel
theorem dX7_isMissing_50 : decode cX7_isMissing 50 = .ok (.iinc 2 1, 3) := by decide +kernel
theorem dX7_isMissing_53 : decode cX7_isMissing 53 = .ok (.goto (-36), 3) := by decide +kernel
theorem dX7_isMissing_56 : decode cX7_isMissing 56 = .ok (.iconst 1, 1) := by decide +kernel
theorem dX7_isMissing_57 : decode cX7_isMissing 57 = .ok (.ireturn, 1) := by decide +kernel
theorem dX7_laysMissing_0 : decode cX7_laysMissing 0 = .ok (.aload_n 0, 1) := by decide +kernel
theorem dX7_laysMissing_1 : decode cX7_laysMissing 1 = .ok (.iconst 0, 1) := by decide +kernel
theorem dX7_laysMissing_2 : decode cX7_laysMissing 2 = .ok (.putfield 209, 3) := by decide +kernel
theorem dX7_laysMissing_5 : decode cX7_laysMissing 5 = .ok (.iconst 1, 1) := by decide +kernel
theorem dX7_laysMissing_6 : decode cX7_laysMissing 6 = .ok (.istore_n 1, 1) := by decide +kernel
theorem dX7_laysMissing_7 : decode cX7_laysMissing 7 = .ok (.iload_n 1, 1) := by decide +kernel
theorem dX7_laysMissing_8 : decode cX7_laysMissing 8 = .ok (.aload_n 0, 1) := by decide +kernel
theorem dX7_laysMissing_9 : decode cX7_laysMissing 9 = .ok (.invokevirtual 212, 3) := by decide +kernel
theorem dX7_laysMissing_12 : decode cX7_laysMissing 12 = .ok (.if_icmp .gt 37, 3) := by decide +kernel
theorem dX7_laysMissing_15 : decode cX7_laysMissing 15 = .ok (.aload_n 0, 1) := by decide +kernel
theorem dX7_laysMissing_16 : decode cX7_laysMissing 16 = .ok (.iload_n 1, 1) := by decide +kernel
theorem dX7_laysMissing_17 : decode cX7_laysMissing 17 = .ok (.invokevirtual 215, 3) := by decide +kernel
theorem dX7_laysMissing_20 : decode cX7_laysMissing 20 = .ok (.ifCond .eq 23, 3) := by decide +kernel
theorem dX7_laysMissing_23 : decode cX7_laysMissing 23 = .ok (.aload_n 0, 1) := by decide +kernel
theorem dX7_laysMissing_24 : decode cX7_laysMissing 24 = .ok (.getfield 37, 3) := by decide +kernel
theorem dX7_laysMissing_27 : decode cX7_laysMissing 27 = .ok (.aload_n 0, 1) := by decide +kernel
theorem dX7_laysMissing_28 : decode cX7_laysMissing 28 = .ok (.getfield 209, 3) := by decide +kernel
theorem dX7_laysMissing_31 : decode cX7_laysMissing 31 = .ok (.iload_n 1, 1) := by decide +kernel
theorem dX7_laysMissing_32 : decode cX7_laysMissing 32 = .ok (.iastore, 1) := by decide +kernel
theorem dX7_laysMissing_33 : decode cX7_laysMissing 33 = .ok (.aload_n 0, 1) := by decide +kernel
theorem dX7_laysMissing_34 : decode cX7_laysMissing 34 = .ok (.dup, 1) := by decide +kernel
theorem dX7_laysMissing_35 : decode cX7_laysMissing 35 = .ok (.getfield 209, 3) := by decide +kernel
theorem dX7_laysMissing_38 : decode cX7_laysMissing 38 = .ok (.iconst 1, 1) := by decide +kernel
theorem dX7_laysMissing_39 : decode cX7_laysMissing 39 = .ok (.iadd, 1) := by decide +kernel
theorem dX7_laysMissing_40 : decode cX7_laysMissing 40 = .ok (.putfield 209, 3) := by decide +kernel
theorem dX7_laysMissing_43 : decode cX7_laysMissing 43 = .ok (.iinc 1 1, 3) := by decide +kernel
theorem dX7_laysMissing_46 : decode cX7_laysMissing 46 = .ok (.goto (-39), 3) := by decide +kernel
theorem dX7_laysMissing_49 : decode cX7_laysMissing 49 = .ok (.return_, 1) := by decide +kernel
theorem dX7_sumOfFaces_0 : decode cX7_sumOfFaces 0 = .ok (.iconst 0, 1) := by decide +kernel
theorem dX7_sumOfFaces_1 : decode cX7_sumOfFaces 1 = .ok (.istore_n 2, 1) := by decide +kernel
theorem dX7_sumOfFaces_2 : decode cX7_sumOfFaces 2 = .ok (.iconst 0, 1) := by decide +kernel
theorem dX7_sumOfFaces_3 : decode cX7_sumOfFaces 3 = .ok (.istore_n 3, 1) := by decide +kernel
theorem dX7_sumOfFaces_4 : decode cX7_sumOfFaces 4 = .ok (.iload_n 3, 1) := by decide +kernel
theorem dX7_sumOfFaces_5 : decode cX7_sumOfFaces 5 = .ok (.sipush 128, 3) := by decide +kernel
theorem dX7_sumOfFaces_8 : decode cX7_sumOfFaces 8 = .ok (.if_icmp .ge 43, 3) := by decide +kernel
theorem dX7_sumOfFaces_11 : decode cX7_sumOfFaces 11 = .ok (.iload_n 2, 1) := by decide +kernel
theorem dX7_sumOfFaces_12 : decode cX7_sumOfFaces 12 = .ok (.aload_n 0, 1) := by decide +kernel
theorem dX7_sumOfFaces_13 : decode cX7_sumOfFaces 13 = .ok (.getfield 26, 3) := by decide +kernel
theorem dX7_sumOfFaces_16 : decode cX7_sumOfFaces 16 = .ok (.iload_n 3, 1) := by decide +kernel
theorem dX7_sumOfFaces_17 : decode cX7_sumOfFaces 17 = .ok (.baload, 1) := by decide +kernel
theorem dX7_sumOfFaces_18 : decode cX7_sumOfFaces 18 = .ok (.ifCond .ne 7, 3) := by decide +kernel
theorem dX7_sumOfFaces_21 : decode cX7_sumOfFaces 21 = .ok (.iconst 0, 1) := by decide +kernel
theorem dX7_sumOfFaces_22 : decode cX7_sumOfFaces 22 = .ok (.goto 21, 3) := by decide +kernel
theorem dX7_sumOfFaces_25 : decode cX7_sumOfFaces 25 = .ok (.iload_n 1, 1) := by decide +kernel
theorem dX7_sumOfFaces_26 : decode cX7_sumOfFaces 26 = .ok (.ifCond .eq 16, 3) := by decide +kernel
theorem dX7_sumOfFaces_29 : decode cX7_sumOfFaces 29 = .ok (.iload_n 3, 1) := by decide +kernel
theorem dX7_sumOfFaces_30 : decode cX7_sumOfFaces 30 = .ok (.invokestatic 136, 3) := by decide +kernel
theorem dX7_sumOfFaces_33 : decode cX7_sumOfFaces 33 = .ok (.iconst 2, 1) := by decide +kernel
theorem dX7_sumOfFaces_34 : decode cX7_sumOfFaces 34 = .ok (.irem, 1) := by decide +kernel
theorem dX7_sumOfFaces_35 : decode cX7_sumOfFaces 35 = .ok (.ifCond .ne 7, 3) := by decide +kernel
theorem dX7_sumOfFaces_38 : decode cX7_sumOfFaces 38 = .ok (.iconst (-1), 1) := by decide +kernel
theorem dX7_sumOfFaces_39 : decode cX7_sumOfFaces 39 = .ok (.goto 4, 3) := by decide +kernel
theorem dX7_sumOfFaces_42 : decode cX7_sumOfFaces 42 = .ok (.iconst 1, 1) := by decide +kernel
theorem dX7_sumOfFaces_43 : decode cX7_sumOfFaces 43 = .ok (.iadd, 1) := by decide +kernel
theorem dX7_sumOfFaces_44 : decode cX7_sumOfFaces 44 = .ok (.istore_n 2, 1) := by decide +kernel
theorem dX7_sumOfFaces_45 : decode cX7_sumOfFaces 45 = .ok (.iinc 3 1, 3) := by decide +kernel
theorem dX7_sumOfFaces_48 : decode cX7_sumOfFaces 48 = .ok (.goto (-44), 3) := by decide +kernel
theorem dX7_sumOfFaces_51 : decode cX7_sumOfFaces 51 = .ok (.iload_n 2, 1) := by decide +kernel
theorem dX7_sumOfFaces_52 : decode cX7_sumOfFaces 52 = .ok (.ireturn, 1) := by decide +kernel
theorem dX7_pointsIn_0 : decode cX7_pointsIn 0 = .ok (.iload_n 1, 1) := by decide +kernel
theorem dX7_pointsIn_1 : decode cX7_pointsIn 1 = .ok (.ifCond .eq 10, 3) := by decide +kernel
theorem dX7_pointsIn_4 : decode cX7_pointsIn 4 = .ok (.aload_n 0, 1) := by decide +kernel
theorem dX7_pointsIn_5 : decode cX7_pointsIn 5 = .ok (.invokevirtual 212, 3) := by decide +kernel
theorem dX7_pointsIn_8 : decode cX7_pointsIn 8 = .ok (.goto 4, 3) := by decide +kernel
theorem dX7_pointsIn_11 : decode cX7_pointsIn 11 = .ok (.iconst 0, 1) := by decide +kernel
theorem dX7_pointsIn_12 : decode cX7_pointsIn 12 = .ok (.istore_n 2, 1) := by decide +kernel
theorem dX7_pointsIn_13 : decode cX7_pointsIn 13 = .ok (.iconst 0, 1) := by decide +kernel
theorem dX7_pointsIn_14 : decode cX7_pointsIn 14 = .ok (.istore_n 3, 1) := by decide +kernel
theorem dX7_pointsIn_15 : decode cX7_pointsIn 15 = .ok (.iload_n 3, 1) := by decide +kernel
theorem dX7_pointsIn_16 : decode cX7_pointsIn 16 = .ok (.aload_n 0, 1) := by decide +kernel
theorem dX7_pointsIn_17 : decode cX7_pointsIn 17 = .ok (.getfield 176, 3) := by decide +kernel
theorem dX7_pointsIn_20 : decode cX7_pointsIn 20 = .ok (.if_icmp .ge 33, 3) := by decide +kernel
theorem dX7_pointsIn_23 : decode cX7_pointsIn 23 = .ok (.iload_n 1, 1) := by decide +kernel
theorem dX7_pointsIn_24 : decode cX7_pointsIn 24 = .ok (.ifCond .eq 14, 3) := by decide +kernel
theorem dX7_pointsIn_27 : decode cX7_pointsIn 27 = .ok (.iload_n 2, 1) := by decide +kernel
theorem dX7_pointsIn_28 : decode cX7_pointsIn 28 = .ok (.aload_n 0, 1) := by decide +kernel
theorem dX7_pointsIn_29 : decode cX7_pointsIn 29 = .ok (.getfield 17, 3) := by decide +kernel
theorem dX7_pointsIn_32 : decode cX7_pointsIn 32 = .ok (.iload_n 3, 1) := by decide +kernel
theorem dX7_pointsIn_33 : decode cX7_pointsIn 33 = .ok (.iaload, 1) := by decide +kernel
theorem dX7_pointsIn_34 : decode cX7_pointsIn 34 = .ok (.iand, 1) := by decide +kernel
theorem dX7_pointsIn_35 : decode cX7_pointsIn 35 = .ok (.goto 11, 3) := by decide +kernel
theorem dX7_pointsIn_38 : decode cX7_pointsIn 38 = .ok (.iload_n 2, 1) := by decide +kernel
theorem dX7_pointsIn_39 : decode cX7_pointsIn 39 = .ok (.aload_n 0, 1) := by decide +kernel
theorem dX7_pointsIn_40 : decode cX7_pointsIn 40 = .ok (.getfield 17, 3) := by decide +kernel
theorem dX7_pointsIn_43 : decode cX7_pointsIn 43 = .ok (.iload_n 3, 1) := by decide +kernel
theorem dX7_pointsIn_44 : decode cX7_pointsIn 44 = .ok (.iaload, 1) := by decide +kernel
theorem dX7_pointsIn_45 : decode cX7_pointsIn 45 = .ok (.ior, 1) := by decide +kernel
theorem dX7_pointsIn_46 : decode cX7_pointsIn 46 = .ok (.istore_n 2, 1) := by decide +kernel
theorem dX7_pointsIn_47 : decode cX7_pointsIn 47 = .ok (.iinc 3 1, 3) := by decide +kernel
theorem dX7_pointsIn_50 : decode cX7_pointsIn 50 = .ok (.goto (-35), 3) := by decide +kernel
theorem dX7_pointsIn_53 : decode cX7_pointsIn 53 = .ok (.iload_n 2, 1) := by decide +kernel
theorem dX7_pointsIn_54 : decode cX7_pointsIn 54 = .ok (.ireturn, 1) := by decide +kernel
theorem dX7_about_0 : decode cX7_about 0 = .ok (.aload_n 0, 1) := by decide +kernel
theorem dX7_about_1 : decode cX7_about 1 = .ok (.iload_n 1, 1) := by decide +kernel
theorem dX7_about_2 : decode cX7_about 2 = .ok (.iconst 0, 1) := by decide +kernel
theorem dX7_about_3 : decode cX7_about 3 = .ok (.bipush 6, 2) := by decide +kernel
theorem dX7_about_5 : decode cX7_about 5 = .ok (.invokestatic 84, 3) := by decide +kernel
theorem dX7_about_8 : decode cX7_about 8 = .ok (.invokevirtual 218, 3) := by decide +kernel
theorem dX7_about_11 : decode cX7_about 11 = .ok (.ifCond .ne 5, 3) := by decide +kernel
theorem dX7_about_14 : decode cX7_about 14 = .ok (.iconst (-1), 1) := by decide +kernel
theorem dX7_about_15 : decode cX7_about 15 = .ok (.ireturn, 1) := by decide +kernel
theorem dX7_about_16 : decode cX7_about 16 = .ok (.aload_n 0, 1) := by decide +kernel
theorem dX7_about_17 : decode cX7_about 17 = .ok (.invokevirtual 222, 3) := by decide +kernel
theorem dX7_about_20 : decode cX7_about 20 = .ok (.iload_n 1, 1) := by decide +kernel
theorem dX7_about_21 : decode cX7_about 21 = .ok (.tableswitch 72 0 5 #[39, 44, 49, 54, 60, 66], 39) := by decide +kernel
theorem dX7_about_60 : decode cX7_about 60 = .ok (.aload_n 0, 1) := by decide +kernel
theorem dX7_about_61 : decode cX7_about 61 = .ok (.getfield 171, 3) := by decide +kernel
theorem dX7_about_64 : decode cX7_about 64 = .ok (.ireturn, 1) := by decide +kernel
theorem dX7_about_65 : decode cX7_about 65 = .ok (.aload_n 0, 1) := by decide +kernel
theorem dX7_about_66 : decode cX7_about 66 = .ok (.getfield 173, 3) := by decide +kernel
theorem dX7_about_69 : decode cX7_about 69 = .ok (.ireturn, 1) := by decide +kernel
theorem dX7_about_70 : decode cX7_about 70 = .ok (.aload_n 0, 1) := by decide +kernel
theorem dX7_about_71 : decode cX7_about 71 = .ok (.getfield 176, 3) := by decide +kernel
theorem dX7_about_74 : decode cX7_about 74 = .ok (.ireturn, 1) := by decide +kernel
theorem dX7_about_75 : decode cX7_about 75 = .ok (.aload_n 0, 1) := by decide +kernel
theorem dX7_about_76 : decode cX7_about 76 = .ok (.iconst 0, 1) := by decide +kernel
theorem dX7_about_77 : decode cX7_about 77 = .ok (.invokevirtual 225, 3) := by decide +kernel
theorem dX7_about_80 : decode cX7_about 80 = .ok (.ireturn, 1) := by decide +kernel
theorem dX7_about_81 : decode cX7_about 81 = .ok (.aload_n 0, 1) := by decide +kernel
theorem dX7_about_82 : decode cX7_about 82 = .ok (.iconst 0, 1) := by decide +kernel
theorem dX7_about_83 : decode cX7_about 83 = .ok (.invokevirtual 228, 3) := by decide +kernel
theorem dX7_about_86 : decode cX7_about 86 = .ok (.ireturn, 1) := by decide +kernel
theorem dX7_about_87 : decode cX7_about 87 = .ok (.aload_n 0, 1) := by decide +kernel
theorem dX7_about_88 : decode cX7_about 88 = .ok (.iconst 1, 1) := by decide +kernel
theorem dX7_about_89 : decode cX7_about 89 = .ok (.invokevirtual 228, 3) := by decide +kernel
theorem dX7_about_92 : decode cX7_about 92 = .ok (.ireturn, 1) := by decide +kernel
theorem dX7_about_93 : decode cX7_about 93 = .ok (.aload_n 0, 1) := by decide +kernel
theorem dX7_about_94 : decode cX7_about 94 = .ok (.getfield 209, 3) := by decide +kernel
theorem dX7_about_97 : decode cX7_about 97 = .ok (.ireturn, 1) := by decide +kernel
theorem dX7_isFacet_0 : decode cX7_isFacet 0 = .ok (.aload_n 0, 1) := by decide +kernel
theorem dX7_isFacet_1 : decode cX7_isFacet 1 = .ok (.getfield 179, 3) := by decide +kernel
theorem dX7_isFacet_4 : decode cX7_isFacet 4 = .ok (.ifCond .eq 21, 3) := by decide +kernel
theorem dX7_isFacet_7 : decode cX7_isFacet 7 = .ok (.iload_n 1, 1) := by decide +kernel
theorem dX7_isFacet_8 : decode cX7_isFacet 8 = .ok (.iconst 0, 1) := by decide +kernel
theorem dX7_isFacet_9 : decode cX7_isFacet 9 = .ok (.aload_n 0, 1) := by decide +kernel
theorem dX7_isFacet_10 : decode cX7_isFacet 10 = .ok (.getfield 176, 3) := by decide +kernel
theorem dX7_isFacet_13 : decode cX7_isFacet 13 = .ok (.iconst 1, 1) := by decide +kernel
theorem dX7_isFacet_14 : decode cX7_isFacet 14 = .ok (.isub, 1) := by decide +kernel
theorem dX7_isFacet_15 : decode cX7_isFacet 15 = .ok (.invokestatic 84, 3) := by decide +kernel
theorem dX7_isFacet_18 : decode cX7_isFacet 18 = .ok (.ifCond .eq 7, 3) := by decide +kernel
theorem dX7_isFacet_21 : decode cX7_isFacet 21 = .ok (.iconst 1, 1) := by decide +kernel
theorem dX7_isFacet_22 : decode cX7_isFacet 22 = .ok (.goto 4, 3) := by decide +kernel
theorem dX7_isFacet_25 : decode cX7_isFacet 25 = .ok (.iconst 0, 1) := by decide +kernel
theorem dX7_isFacet_26 : decode cX7_isFacet 26 = .ok (.ireturn, 1) := by decide +kernel
theorem dX7_facet_0 : decode cX7_facet 0 = .ok (.aload_n 0, 1) := by decide +kernel
theorem dX7_facet_1 : decode cX7_facet 1 = .ok (.aload_n 0, 1) := by decide +kernel
theorem dX7_facet_2 : decode cX7_facet 2 = .ok (.iload_n 1, 1) := by decide +kernel
theorem dX7_facet_3 : decode cX7_facet 3 = .ok (.invokevirtual 231, 3) := by decide +kernel
theorem dX7_facet_6 : decode cX7_facet 6 = .ok (.invokestatic 199, 3) := by decide +kernel
theorem dX7_facet_9 : decode cX7_facet 9 = .ok (.invokevirtual 159, 3) := by decide +kernel
theorem dX7_facet_12 : decode cX7_facet 12 = .ok (.ifCond .eq 7, 3) := by decide +kernel
theorem dX7_facet_15 : decode cX7_facet 15 = .ok (.iconst (-1), 1) := by decide +kernel
theorem dX7_facet_16 : decode cX7_facet 16 = .ok (.goto 9, 3) := by decide +kernel
theorem dX7_facet_19 : decode cX7_facet 19 = .ok (.aload_n 0, 1) := by decide +kernel
theorem dX7_facet_20 : decode cX7_facet 20 = .ok (.getfield 17, 3) := by decide +kernel
theorem dX7_facet_23 : decode cX7_facet 23 = .ok (.iload_n 1, 1) := by decide +kernel
theorem dX7_facet_24 : decode cX7_facet 24 = .ok (.iaload, 1) := by decide +kernel
theorem dX7_facet_25 : decode cX7_facet 25 = .ok (.ireturn, 1) := by decide +kernel
theorem dX7_withinOf_0 : decode cX7_withinOf 0 = .ok (.iconst 0, 1) := by decide +kernel
theorem dX7_withinOf_1 : decode cX7_withinOf 1 = .ok (.istore_n 2, 1) := by decide +kernel
theorem dX7_withinOf_2 : decode cX7_withinOf 2 = .ok (.iconst 0, 1) := by decide +kernel
theorem dX7_withinOf_3 : decode cX7_withinOf 3 = .ok (.istore_n 3, 1) := by decide +kernel
theorem dX7_withinOf_4 : decode cX7_withinOf 4 = .ok (.iload_n 3, 1) := by decide +kernel
theorem dX7_withinOf_5 : decode cX7_withinOf 5 = .ok (.aload_n 0, 1) := by decide +kernel
theorem dX7_withinOf_6 : decode cX7_withinOf 6 = .ok (.getfield 176, 3) := by decide +kernel
theorem dX7_withinOf_9 : decode cX7_withinOf 9 = .ok (.if_icmp .ge 32, 3) := by decide +kernel
theorem dX7_withinOf_12 : decode cX7_withinOf 12 = .ok (.iload_n 2, 1) := by decide +kernel
theorem dX7_withinOf_13 : decode cX7_withinOf 13 = .ok (.iload_n 1, 1) := by decide +kernel
theorem dX7_withinOf_14 : decode cX7_withinOf 14 = .ok (.aload_n 0, 1) := by decide +kernel
theorem dX7_withinOf_15 : decode cX7_withinOf 15 = .ok (.getfield 17, 3) := by decide +kernel
theorem dX7_withinOf_18 : decode cX7_withinOf 18 = .ok (.iload_n 3, 1) := by decide +kernel
theorem dX7_withinOf_19 : decode cX7_withinOf 19 = .ok (.iaload, 1) := by decide +kernel
theorem dX7_withinOf_20 : decode cX7_withinOf 20 = .ok (.invokestatic 183, 3) := by decide +kernel
theorem dX7_withinOf_23 : decode cX7_withinOf 23 = .ok (.ifCond .eq 9, 3) := by decide +kernel
theorem dX7_withinOf_26 : decode cX7_withinOf 26 = .ok (.iconst 1, 1) := by decide +kernel
theorem dX7_withinOf_27 : decode cX7_withinOf 27 = .ok (.iload_n 3, 1) := by decide +kernel
theorem dX7_withinOf_28 : decode cX7_withinOf 28 = .ok (.ishl, 1) := by decide +kernel
theorem dX7_withinOf_29 : decode cX7_withinOf 29 = .ok (.goto 4, 3) := by decide +kernel
theorem dX7_withinOf_32 : decode cX7_withinOf 32 = .ok (.iconst 0, 1) := by decide +kernel
theorem dX7_withinOf_33 : decode cX7_withinOf 33 = .ok (.ior, 1) := by decide +kernel
theorem dX7_withinOf_34 : decode cX7_withinOf 34 = .ok (.istore_n 2, 1) := by decide +kernel
theorem dX7_withinOf_35 : decode cX7_withinOf 35 = .ok (.iinc 3 1, 3) := by decide +kernel
theorem dX7_withinOf_38 : decode cX7_withinOf 38 = .ok (.goto (-34), 3) := by decide +kernel
theorem dX7_withinOf_41 : decode cX7_withinOf 41 = .ok (.iload_n 2, 1) := by decide +kernel
theorem dX7_withinOf_42 : decode cX7_withinOf 42 = .ok (.ireturn, 1) := by decide +kernel
theorem dX7_isSet_0 : decode cX7_isSet 0 = .ok (.iload_n 1, 1) := by decide +kernel
theorem dX7_isSet_1 : decode cX7_isSet 1 = .ok (.iconst 0, 1) := by decide +kernel
theorem dX7_isSet_2 : decode cX7_isSet 2 = .ok (.aload_n 0, 1) := by decide +kernel
theorem dX7_isSet_3 : decode cX7_isSet 3 = .ok (.invokevirtual 212, 3) := by decide +kernel
theorem dX7_isSet_6 : decode cX7_isSet 6 = .ok (.invokestatic 84, 3) := by decide +kernel
theorem dX7_isSet_9 : decode cX7_isSet 9 = .ok (.ireturn, 1) := by decide +kernel
theorem dX7_within_0 : decode cX7_within 0 = .ok (.aload_n 0, 1) := by decide +kernel
theorem dX7_within_1 : decode cX7_within 1 = .ok (.aload_n 0, 1) := by decide +kernel
theorem dX7_within_2 : decode cX7_within 2 = .ok (.getfield 179, 3) := by decide +kernel
theorem dX7_within_5 : decode cX7_within 5 = .ok (.aload_n 0, 1) := by decide +kernel
theorem dX7_within_6 : decode cX7_within 6 = .ok (.iload_n 1, 1) := by decide +kernel
theorem dX7_within_7 : decode cX7_within 7 = .ok (.invokevirtual 234, 3) := by decide +kernel
theorem dX7_within_10 : decode cX7_within 10 = .ok (.invokestatic 206, 3) := by decide +kernel
theorem dX7_within_13 : decode cX7_within 13 = .ok (.invokevirtual 159, 3) := by decide +kernel
theorem dX7_within_16 : decode cX7_within 16 = .ok (.ifCond .eq 7, 3) := by decide +kernel
theorem dX7_within_19 : decode cX7_within 19 = .ok (.iconst (-1), 1) := by decide +kernel
theorem dX7_within_20 : decode cX7_within 20 = .ok (.goto 8, 3) := by decide +kernel
theorem dX7_within_23 : decode cX7_within 23 = .ok (.aload_n 0, 1) := by decide +kernel
theorem dX7_within_24 : decode cX7_within 24 = .ok (.iload_n 1, 1) := by decide +kernel
theorem dX7_within_25 : decode cX7_within 25 = .ok (.invokevirtual 237, 3) := by decide +kernel
theorem dX7_within_28 : decode cX7_within 28 = .ok (.ireturn, 1) := by decide +kernel
theorem dX7_missing_0 : decode cX7_missing 0 = .ok (.aload_n 0, 1) := by decide +kernel
theorem dX7_missing_1 : decode cX7_missing 1 = .ok (.iconst 1, 1) := by decide +kernel
theorem dX7_missing_2 : decode cX7_missing 2 = .ok (.invokevirtual 218, 3) := by decide +kernel
theorem dX7_missing_5 : decode cX7_missing 5 = .ok (.ifCond .ne 5, 3) := by decide +kernel
theorem dX7_missing_8 : decode cX7_missing 8 = .ok (.iconst (-1), 1) := by decide +kernel
theorem dX7_missing_9 : decode cX7_missing 9 = .ok (.ireturn, 1) := by decide +kernel
theorem dX7_missing_10 : decode cX7_missing 10 = .ok (.aload_n 0, 1) := by decide +kernel
theorem dX7_missing_11 : decode cX7_missing 11 = .ok (.invokevirtual 222, 3) := by decide +kernel
theorem dX7_missing_14 : decode cX7_missing 14 = .ok (.iload_n 1, 1) := by decide +kernel
theorem dX7_missing_15 : decode cX7_missing 15 = .ok (.iconst 0, 1) := by decide +kernel
theorem dX7_missing_16 : decode cX7_missing 16 = .ok (.aload_n 0, 1) := by decide +kernel
theorem dX7_missing_17 : decode cX7_missing 17 = .ok (.getfield 209, 3) := by decide +kernel
theorem dX7_missing_20 : decode cX7_missing 20 = .ok (.iconst 1, 1) := by decide +kernel
theorem dX7_missing_21 : decode cX7_missing 21 = .ok (.isub, 1) := by decide +kernel
theorem dX7_missing_22 : decode cX7_missing 22 = .ok (.invokestatic 84, 3) := by decide +kernel
theorem dX7_missing_25 : decode cX7_missing 25 = .ok (.ifCond .eq 12, 3) := by decide +kernel
theorem dX7_missing_28 : decode cX7_missing 28 = .ok (.aload_n 0, 1) := by decide +kernel
theorem dX7_missing_29 : decode cX7_missing 29 = .ok (.getfield 37, 3) := by decide +kernel
theorem dX7_missing_32 : decode cX7_missing 32 = .ok (.iload_n 1, 1) := by decide +kernel
theorem dX7_missing_33 : decode cX7_missing 33 = .ok (.iaload, 1) := by decide +kernel
theorem dX7_missing_34 : decode cX7_missing 34 = .ok (.goto 8, 3) := by decide +kernel
theorem dX7_missing_37 : decode cX7_missing 37 = .ok (.aload_n 0, 1) := by decide +kernel
theorem dX7_missing_38 : decode cX7_missing 38 = .ok (.iconst 1, 1) := by decide +kernel
theorem dX7_missing_39 : decode cX7_missing 39 = .ok (.invokevirtual 168, 3) := by decide +kernel
theorem dX7_missing_42 : decode cX7_missing 42 = .ok (.ireturn, 1) := by decide +kernel
theorem dX7_faces_0 : decode cX7_faces 0 = .ok (.aload_n 0, 1) := by decide +kernel
theorem dX7_faces_1 : decode cX7_faces 1 = .ok (.iload_n 1, 1) := by decide +kernel
theorem dX7_faces_2 : decode cX7_faces 2 = .ok (.invokevirtual 240, 3) := by decide +kernel
theorem dX7_faces_5 : decode cX7_faces 5 = .ok (.ifCond .eq 11, 3) := by decide +kernel
theorem dX7_faces_8 : decode cX7_faces 8 = .ok (.aload_n 0, 1) := by decide +kernel
theorem dX7_faces_9 : decode cX7_faces 9 = .ok (.iload_n 1, 1) := by decide +kernel
theorem dX7_faces_10 : decode cX7_faces 10 = .ok (.invokevirtual 189, 3) := by decide +kernel
theorem dX7_faces_13 : decode cX7_faces 13 = .ok (.goto 4, 3) := by decide +kernel
theorem dX7_faces_16 : decode cX7_faces 16 = .ok (.iconst (-1), 1) := by decide +kernel
theorem dX7_faces_17 : decode cX7_faces 17 = .ok (.ireturn, 1) := by decide +kernel
theorem dX7_ways_0 : decode cX7_ways 0 = .ok (.iconst 1, 1) := by decide +kernel
theorem dX7_ways_1 : decode cX7_ways 1 = .ok (.istore_n 2, 1) := by decide +kernel
theorem dX7_ways_2 : decode cX7_ways 2 = .ok (.iconst 0, 1) := by decide +kernel
theorem dX7_ways_3 : decode cX7_ways 3 = .ok (.istore_n 3, 1) := by decide +kernel
theorem dX7_ways_4 : decode cX7_ways 4 = .ok (.iload_n 3, 1) := by decide +kernel
theorem dX7_ways_5 : decode cX7_ways 5 = .ok (.iload_n 1, 1) := by decide +kernel
theorem dX7_ways_6 : decode cX7_ways 6 = .ok (.if_icmp .ge 19, 3) := by decide +kernel
theorem dX7_ways_9 : decode cX7_ways 9 = .ok (.iload_n 2, 1) := by decide +kernel
theorem dX7_ways_10 : decode cX7_ways 10 = .ok (.iload_n 0, 1) := by decide +kernel
theorem dX7_ways_11 : decode cX7_ways 11 = .ok (.iload_n 3, 1) := by decide +kernel
theorem dX7_ways_12 : decode cX7_ways 12 = .ok (.isub, 1) := by decide +kernel
theorem dX7_ways_13 : decode cX7_ways 13 = .ok (.imul, 1) := by decide +kernel
theorem dX7_ways_14 : decode cX7_ways 14 = .ok (.iload_n 3, 1) := by decide +kernel
theorem dX7_ways_15 : decode cX7_ways 15 = .ok (.iconst 1, 1) := by decide +kernel
theorem dX7_ways_16 : decode cX7_ways 16 = .ok (.iadd, 1) := by decide +kernel
theorem dX7_ways_17 : decode cX7_ways 17 = .ok (.idiv, 1) := by decide +kernel
theorem dX7_ways_18 : decode cX7_ways 18 = .ok (.istore_n 2, 1) := by decide +kernel
theorem dX7_ways_19 : decode cX7_ways 19 = .ok (.iinc 3 1, 3) := by decide +kernel
theorem dX7_ways_22 : decode cX7_ways 22 = .ok (.goto (-18), 3) := by decide +kernel
theorem dX7_ways_25 : decode cX7_ways 25 = .ok (.iload_n 2, 1) := by decide +kernel
theorem dX7_ways_26 : decode cX7_ways 26 = .ok (.ireturn, 1) := by decide +kernel
theorem dX7_h_0 : decode cX7_h 0 = .ok (.aload_n 0, 1) := by decide +kernel
theorem dX7_h_1 : decode cX7_h 1 = .ok (.iload_n 1, 1) := by decide +kernel
theorem dX7_h_2 : decode cX7_h 2 = .ok (.invokevirtual 240, 3) := by decide +kernel
theorem dX7_h_5 : decode cX7_h 5 = .ok (.ifCond .ne 6, 3) := by decide +kernel
theorem dX7_h_8 : decode cX7_h 8 = .ok (.ldc 245, 2) := by decide +kernel
theorem dX7_h_10 : decode cX7_h 10 = .ok (.ireturn, 1) := by decide +kernel
theorem dX7_h_11 : decode cX7_h 11 = .ok (.iconst 0, 1) := by decide +kernel
theorem dX7_h_12 : decode cX7_h 12 = .ok (.istore_n 2, 1) := by decide +kernel
theorem dX7_h_13 : decode cX7_h 13 = .ok (.iconst 0, 1) := by decide +kernel
theorem dX7_h_14 : decode cX7_h 14 = .ok (.istore_n 3, 1) := by decide +kernel
theorem dX7_h_15 : decode cX7_h 15 = .ok (.iload_n 3, 1) := by decide +kernel
theorem dX7_h_16 : decode cX7_h 16 = .ok (.iload_n 1, 1) := by decide +kernel
theorem dX7_h_17 : decode cX7_h 17 = .ok (.if_icmp .gt 49, 3) := by decide +kernel
theorem dX7_h_20 : decode cX7_h 20 = .ok (.aload_n 0, 1) := by decide +kernel
theorem dX7_h_21 : decode cX7_h 21 = .ok (.iload_n 3, 1) := by decide +kernel
theorem dX7_h_22 : decode cX7_h 22 = .ok (.invokevirtual 189, 3) := by decide +kernel
theorem dX7_h_25 : decode cX7_h 25 = .ok (.aload_n 0, 1) := by decide +kernel
theorem dX7_h_26 : decode cX7_h 26 = .ok (.getfield 173, 3) := by decide +kernel
theorem dX7_h_29 : decode cX7_h 29 = .ok (.iload_n 3, 1) := by decide +kernel
theorem dX7_h_30 : decode cX7_h 30 = .ok (.isub, 1) := by decide +kernel
theorem dX7_h_31 : decode cX7_h 31 = .ok (.iload_n 1, 1) := by decide +kernel
theorem dX7_h_32 : decode cX7_h 32 = .ok (.iload_n 3, 1) := by decide +kernel
theorem dX7_h_33 : decode cX7_h 33 = .ok (.isub, 1) := by decide +kernel
theorem dX7_h_34 : decode cX7_h 34 = .ok (.invokestatic 246, 3) := by decide +kernel
theorem dX7_h_37 : decode cX7_h 37 = .ok (.imul, 1) := by decide +kernel
theorem dX7_h_38 : decode cX7_h 38 = .ok (.istore 4, 2) := by decide +kernel
theorem dX7_h_40 : decode cX7_h 40 = .ok (.iload_n 2, 1) := by decide +kernel
theorem dX7_h_41 : decode cX7_h 41 = .ok (.iload_n 1, 1) := by decide +kernel
theorem dX7_h_42 : decode cX7_h 42 = .ok (.iload_n 3, 1) := by decide +kernel
theorem dX7_h_43 : decode cX7_h 43 = .ok (.isub, 1) := by decide +kernel
theorem dX7_h_44 : decode cX7_h 44 = .ok (.iconst 2, 1) := by decide +kernel
theorem dX7_h_45 : decode cX7_h 45 = .ok (.irem, 1) := by decide +kernel
theorem dX7_h_46 : decode cX7_h 46 = .ok (.iconst 1, 1) := by decide +kernel
theorem dX7_h_47 : decode cX7_h 47 = .ok (.if_icmp .ne 9, 3) := by decide +kernel
theorem dX7_h_50 : decode cX7_h 50 = .ok (.iload 4, 2) := by decide +kernel
theorem dX7_h_52 : decode cX7_h 52 = .ok (.ineg, 1) := by decide +kernel
theorem dX7_h_53 : decode cX7_h 53 = .ok (.goto 5, 3) := by decide +kernel
theorem dX7_h_56 : decode cX7_h 56 = .ok (.iload 4, 2) := by decide +kernel
theorem dX7_h_58 : decode cX7_h 58 = .ok (.iadd, 1) := by decide +kernel
theorem dX7_h_59 : decode cX7_h 59 = .ok (.istore_n 2, 1) := by decide +kernel
theorem dX7_h_60 : decode cX7_h 60 = .ok (.iinc 3 1, 3) := by decide +kernel
theorem dX7_h_63 : decode cX7_h 63 = .ok (.goto (-48), 3) := by decide +kernel
theorem dX7_h_66 : decode cX7_h 66 = .ok (.iload_n 2, 1) := by decide +kernel
theorem dX7_h_67 : decode cX7_h 67 = .ok (.ireturn, 1) := by decide +kernel
theorem dX7_euler_0 : decode cX7_euler 0 = .ok (.aload_n 0, 1) := by decide +kernel
theorem dX7_euler_1 : decode cX7_euler 1 = .ok (.iconst 1, 1) := by decide +kernel
theorem dX7_euler_2 : decode cX7_euler 2 = .ok (.invokevirtual 218, 3) := by decide +kernel
theorem dX7_euler_5 : decode cX7_euler 5 = .ok (.ifCond .eq 11, 3) := by decide +kernel
theorem dX7_euler_8 : decode cX7_euler 8 = .ok (.aload_n 0, 1) := by decide +kernel
theorem dX7_euler_9 : decode cX7_euler 9 = .ok (.iconst 1, 1) := by decide +kernel
theorem dX7_euler_10 : decode cX7_euler 10 = .ok (.invokevirtual 225, 3) := by decide +kernel
theorem dX7_euler_13 : decode cX7_euler 13 = .ok (.goto 5, 3) := by decide +kernel
theorem dX7_euler_16 : decode cX7_euler 16 = .ok (.ldc 245, 2) := by decide +kernel
theorem dX7_euler_18 : decode cX7_euler 18 = .ok (.ireturn, 1) := by decide +kernel
theorem dX7_rank_0 : decode cX7_rank 0 = .ok (.aload_n 0, 1) := by decide +kernel
theorem dX7_rank_1 : decode cX7_rank 1 = .ok (.iload_n 1, 1) := by decide +kernel
theorem dX7_rank_2 : decode cX7_rank 2 = .ok (.invokevirtual 240, 3) := by decide +kernel
theorem dX7_rank_5 : decode cX7_rank 5 = .ok (.ifCond .eq 11, 3) := by decide +kernel
theorem dX7_rank_8 : decode cX7_rank 8 = .ok (.aload_n 0, 1) := by decide +kernel
theorem dX7_rank_9 : decode cX7_rank 9 = .ok (.iload_n 1, 1) := by decide +kernel
theorem dX7_rank_10 : decode cX7_rank 10 = .ok (.invokevirtual 192, 3) := by decide +kernel
theorem dX7_rank_13 : decode cX7_rank 13 = .ok (.goto 4, 3) := by decide +kernel
theorem dX7_rank_16 : decode cX7_rank 16 = .ok (.iconst (-1), 1) := by decide +kernel
theorem dX7_rank_17 : decode cX7_rank 17 = .ok (.ireturn, 1) := by decide +kernel
theorem dX7_round_0 : decode cX7_round 0 = .ok (.aload_n 0, 1) := by decide +kernel
theorem dX7_round_1 : decode cX7_round 1 = .ok (.iload_n 1, 1) := by decide +kernel
theorem dX7_round_2 : decode cX7_round 2 = .ok (.invokevirtual 240, 3) := by decide +kernel
theorem dX7_round_5 : decode cX7_round 5 = .ok (.ifCond .eq 11, 3) := by decide +kernel
theorem dX7_round_8 : decode cX7_round 8 = .ok (.aload_n 0, 1) := by decide +kernel
theorem dX7_round_9 : decode cX7_round 9 = .ok (.iload_n 1, 1) := by decide +kernel
theorem dX7_round_10 : decode cX7_round 10 = .ok (.invokevirtual 250, 3) := by decide +kernel
theorem dX7_round_13 : decode cX7_round 13 = .ok (.goto 4, 3) := by decide +kernel
theorem dX7_round_16 : decode cX7_round 16 = .ok (.iconst (-1), 1) := by decide +kernel
theorem dX7_round_17 : decode cX7_round 17 = .ok (.ireturn, 1) := by decide +kernel
theorem dX7_dual_0 : decode cX7_dual 0 = .ok (.aload_n 0, 1) := by decide +kernel
theorem dX7_dual_1 : decode cX7_dual 1 = .ok (.iconst 1, 1) := by decide +kernel
theorem dX7_dual_2 : decode cX7_dual 2 = .ok (.invokevirtual 218, 3) := by decide +kernel
theorem dX7_dual_5 : decode cX7_dual 5 = .ok (.ifCond .ne 5, 3) := by decide +kernel
theorem dX7_dual_8 : decode cX7_dual 8 = .ok (.iconst (-1), 1) := by decide +kernel
theorem dX7_dual_9 : decode cX7_dual 9 = .ok (.ireturn, 1) := by decide +kernel
theorem dX7_dual_10 : decode cX7_dual 10 = .ok (.aload_n 0, 1) := by decide +kernel
theorem dX7_dual_11 : decode cX7_dual 11 = .ok (.invokevirtual 222, 3) := by decide +kernel
theorem dX7_dual_14 : decode cX7_dual 14 = .ok (.iload_n 1, 1) := by decide +kernel
theorem dX7_dual_15 : decode cX7_dual 15 = .ok (.iconst 0, 1) := by decide +kernel
theorem dX7_dual_16 : decode cX7_dual 16 = .ok (.aload_n 0, 1) := by decide +kernel
theorem dX7_dual_17 : decode cX7_dual 17 = .ok (.getfield 209, 3) := by decide +kernel
theorem dX7_dual_20 : decode cX7_dual 20 = .ok (.iconst 1, 1) := by decide +kernel
theorem dX7_dual_21 : decode cX7_dual 21 = .ok (.isub, 1) := by decide +kernel
theorem dX7_dual_22 : decode cX7_dual 22 = .ok (.invokestatic 84, 3) := by decide +kernel
theorem dX7_dual_25 : decode cX7_dual 25 = .ok (.ifCond .eq 19, 3) := by decide +kernel
theorem dX7_dual_28 : decode cX7_dual 28 = .ok (.aload_n 0, 1) := by decide +kernel
theorem dX7_dual_29 : decode cX7_dual 29 = .ok (.invokevirtual 212, 3) := by decide +kernel
theorem dX7_dual_32 : decode cX7_dual 32 = .ok (.aload_n 0, 1) := by decide +kernel
theorem dX7_dual_33 : decode cX7_dual 33 = .ok (.getfield 37, 3) := by decide +kernel
theorem dX7_dual_36 : decode cX7_dual 36 = .ok (.iload_n 1, 1) := by decide +kernel
theorem dX7_dual_37 : decode cX7_dual 37 = .ok (.iaload, 1) := by decide +kernel
theorem dX7_dual_38 : decode cX7_dual 38 = .ok (.iconst (-1), 1) := by decide +kernel
theorem dX7_dual_39 : decode cX7_dual 39 = .ok (.ixor, 1) := by decide +kernel
theorem dX7_dual_40 : decode cX7_dual 40 = .ok (.iand, 1) := by decide +kernel
theorem dX7_dual_41 : decode cX7_dual 41 = .ok (.goto 8, 3) := by decide +kernel
theorem dX7_dual_44 : decode cX7_dual 44 = .ok (.aload_n 0, 1) := by decide +kernel
theorem dX7_dual_45 : decode cX7_dual 45 = .ok (.iconst 1, 1) := by decide +kernel
theorem dX7_dual_46 : decode cX7_dual 46 = .ok (.invokevirtual 168, 3) := by decide +kernel
theorem dX7_dual_49 : decode cX7_dual 49 = .ok (.ireturn, 1) := by decide +kernel
theorem dX7_dualRound_0 : decode cX7_dualRound 0 = .ok (.aload_n 0, 1) := by decide +kernel
theorem dX7_dualRound_1 : decode cX7_dualRound 1 = .ok (.aload_n 0, 1) := by decide +kernel
theorem dX7_dualRound_2 : decode cX7_dualRound 2 = .ok (.getfield 179, 3) := by decide +kernel
theorem dX7_dualRound_5 : decode cX7_dualRound 5 = .ok (.iload_n 1, 1) := by decide +kernel
theorem dX7_dualRound_6 : decode cX7_dualRound 6 = .ok (.iconst 0, 1) := by decide +kernel
theorem dX7_dualRound_7 : decode cX7_dualRound 7 = .ok (.aload_n 0, 1) := by decide +kernel
theorem dX7_dualRound_8 : decode cX7_dualRound 8 = .ok (.getfield 171, 3) := by decide +kernel
theorem dX7_dualRound_11 : decode cX7_dualRound 11 = .ok (.invokestatic 84, 3) := by decide +kernel
theorem dX7_dualRound_14 : decode cX7_dualRound 14 = .ok (.invokestatic 206, 3) := by decide +kernel
theorem dX7_dualRound_17 : decode cX7_dualRound 17 = .ok (.invokevirtual 159, 3) := by decide +kernel
theorem dX7_dualRound_20 : decode cX7_dualRound 20 = .ok (.ifCond .eq 5, 3) := by decide +kernel
theorem dX7_dualRound_23 : decode cX7_dualRound 23 = .ok (.iconst (-1), 1) := by decide +kernel
theorem dX7_dualRound_24 : decode cX7_dualRound 24 = .ok (.ireturn, 1) := by decide +kernel
theorem dX7_dualRound_25 : decode cX7_dualRound 25 = .ok (.aload_n 0, 1) := by decide +kernel
theorem dX7_dualRound_26 : decode cX7_dualRound 26 = .ok (.invokevirtual 203, 3) := by decide +kernel
theorem dX7_dualRound_29 : decode cX7_dualRound 29 = .ok (.aload_n 0, 1) := by decide +kernel
theorem dX7_dualRound_30 : decode cX7_dualRound 30 = .ok (.invokevirtual 222, 3) := by decide +kernel
theorem dX7_dualRound_33 : decode cX7_dualRound 33 = .ok (.iconst 0, 1) := by decide +kernel
theorem dX7_dualRound_34 : decode cX7_dualRound 34 = .ok (.istore_n 2, 1) := by decide +kernel
theorem dX7_dualRound_35 : decode cX7_dualRound 35 = .ok (.iload_n 2, 1) := by decide +kernel
theorem dX7_dualRound_36 : decode cX7_dualRound 36 = .ok (.aload_n 0, 1) := by decide +kernel
theorem dX7_dualRound_37 : decode cX7_dualRound 37 = .ok (.getfield 209, 3) := by decide +kernel
theorem dX7_dualRound_40 : decode cX7_dualRound 40 = .ok (.if_icmp .ge 28, 3) := by decide +kernel
theorem dX7_dualRound_43 : decode cX7_dualRound 43 = .ok (.aload_n 0, 1) := by decide +kernel
theorem dX7_dualRound_44 : decode cX7_dualRound 44 = .ok (.getfield 37, 3) := by decide +kernel
theorem dX7_dualRound_47 : decode cX7_dualRound 47 = .ok (.iload_n 2, 1) := by decide +kernel
theorem dX7_dualRound_48 : decode cX7_dualRound 48 = .ok (.aload_n 0, 1) := by decide +kernel
theorem dX7_dualRound_49 : decode cX7_dualRound 49 = .ok (.invokevirtual 212, 3) := by decide +kernel
theorem dX7_dualRound_52 : decode cX7_dualRound 52 = .ok (.aload_n 0, 1) := by decide +kernel
theorem dX7_dualRound_53 : decode cX7_dualRound 53 = .ok (.getfield 37, 3) := by decide +kernel
theorem dX7_dualRound_56 : decode cX7_dualRound 56 = .ok (.iload_n 2, 1) := by decide +kernel
theorem dX7_dualRound_57 : decode cX7_dualRound 57 = .ok (.iaload, 1) := by decide +kernel
theorem dX7_dualRound_58 : decode cX7_dualRound 58 = .ok (.iconst (-1), 1) := by decide +kernel
theorem dX7_dualRound_59 : decode cX7_dualRound 59 = .ok (.ixor, 1) := by decide +kernel
theorem dX7_dualRound_60 : decode cX7_dualRound 60 = .ok (.iand, 1) := by decide +kernel
theorem dX7_dualRound_61 : decode cX7_dualRound 61 = .ok (.iastore, 1) := by decide +kernel
theorem dX7_dualRound_62 : decode cX7_dualRound 62 = .ok (.iinc 2 1, 3) := by decide +kernel
theorem dX7_dualRound_65 : decode cX7_dualRound 65 = .ok (.goto (-30), 3) := by decide +kernel
theorem dX7_dualRound_68 : decode cX7_dualRound 68 = .ok (.aload_n 0, 1) := by decide +kernel
theorem dX7_dualRound_69 : decode cX7_dualRound 69 = .ok (.aload_n 0, 1) := by decide +kernel
theorem dX7_dualRound_70 : decode cX7_dualRound 70 = .ok (.getfield 37, 3) := by decide +kernel
theorem dX7_dualRound_73 : decode cX7_dualRound 73 = .ok (.aload_n 0, 1) := by decide +kernel
theorem dX7_dualRound_74 : decode cX7_dualRound 74 = .ok (.getfield 209, 3) := by decide +kernel
theorem dX7_dualRound_77 : decode cX7_dualRound 77 = .ok (.invokevirtual 195, 3) := by decide +kernel
theorem dX7_dualRound_80 : decode cX7_dualRound 80 = .ok (.aload_n 0, 1) := by decide +kernel
theorem dX7_dualRound_81 : decode cX7_dualRound 81 = .ok (.iload_n 1, 1) := by decide +kernel
theorem dX7_dualRound_82 : decode cX7_dualRound 82 = .ok (.invokevirtual 250, 3) := by decide +kernel
theorem dX7_dualRound_85 : decode cX7_dualRound 85 = .ok (.ireturn, 1) := by decide +kernel
theorem dX7_areNear_0 : decode cX7_areNear 0 = .ok (.iload_n 1, 1) := by decide +kernel
theorem dX7_areNear_1 : decode cX7_areNear 1 = .ok (.iload_n 2, 1) := by decide +kernel
theorem dX7_areNear_2 : decode cX7_areNear 2 = .ok (.if_icmp .eq 32, 3) := by decide +kernel
theorem dX7_areNear_5 : decode cX7_areNear 5 = .ok (.aload_n 0, 1) := by decide +kernel
theorem dX7_areNear_6 : decode cX7_areNear 6 = .ok (.getfield 17, 3) := by decide +kernel
theorem dX7_areNear_9 : decode cX7_areNear 9 = .ok (.iload_n 1, 1) := by decide +kernel
theorem dX7_areNear_10 : decode cX7_areNear 10 = .ok (.iaload, 1) := by decide +kernel
theorem dX7_areNear_11 : decode cX7_areNear 11 = .ok (.aload_n 0, 1) := by decide +kernel
theorem dX7_areNear_12 : decode cX7_areNear 12 = .ok (.getfield 17, 3) := by decide +kernel
theorem dX7_areNear_15 : decode cX7_areNear 15 = .ok (.iload_n 2, 1) := by decide +kernel
theorem dX7_areNear_16 : decode cX7_areNear 16 = .ok (.iaload, 1) := by decide +kernel
theorem dX7_areNear_17 : decode cX7_areNear 17 = .ok (.iand, 1) := by decide +kernel
theorem dX7_areNear_18 : decode cX7_areNear 18 = .ok (.invokestatic 136, 3) := by decide +kernel
theorem dX7_areNear_21 : decode cX7_areNear 21 = .ok (.aload_n 0, 1) := by decide +kernel
theorem dX7_areNear_22 : decode cX7_areNear 22 = .ok (.getfield 173, 3) := by decide +kernel
theorem dX7_areNear_25 : decode cX7_areNear 25 = .ok (.iconst 1, 1) := by decide +kernel
theorem dX7_areNear_26 : decode cX7_areNear 26 = .ok (.isub, 1) := by decide +kernel
theorem dX7_areNear_27 : decode cX7_areNear 27 = .ok (.if_icmp .ne 7, 3) := by decide +kernel
theorem dX7_areNear_30 : decode cX7_areNear 30 = .ok (.iconst 1, 1) := by decide +kernel
theorem dX7_areNear_31 : decode cX7_areNear 31 = .ok (.goto 4, 3) := by decide +kernel
theorem dX7_areNear_34 : decode cX7_areNear 34 = .ok (.iconst 0, 1) := by decide +kernel
theorem dX7_areNear_35 : decode cX7_areNear 35 = .ok (.ireturn, 1) := by decide +kernel
theorem dX7_nearTo_0 : decode cX7_nearTo 0 = .ok (.iconst 0, 1) := by decide +kernel
theorem dX7_nearTo_1 : decode cX7_nearTo 1 = .ok (.istore_n 2, 1) := by decide +kernel
theorem dX7_nearTo_2 : decode cX7_nearTo 2 = .ok (.iconst 0, 1) := by decide +kernel
theorem dX7_nearTo_3 : decode cX7_nearTo 3 = .ok (.istore_n 3, 1) := by decide +kernel
theorem dX7_nearTo_4 : decode cX7_nearTo 4 = .ok (.iload_n 3, 1) := by decide +kernel
theorem dX7_nearTo_5 : decode cX7_nearTo 5 = .ok (.aload_n 0, 1) := by decide +kernel
theorem dX7_nearTo_6 : decode cX7_nearTo 6 = .ok (.getfield 176, 3) := by decide +kernel
theorem dX7_nearTo_9 : decode cX7_nearTo 9 = .ok (.if_icmp .ge 28, 3) := by decide +kernel
theorem dX7_nearTo_12 : decode cX7_nearTo 12 = .ok (.iload_n 2, 1) := by decide +kernel
theorem dX7_nearTo_13 : decode cX7_nearTo 13 = .ok (.aload_n 0, 1) := by decide +kernel
theorem dX7_nearTo_14 : decode cX7_nearTo 14 = .ok (.iload_n 1, 1) := by decide +kernel
theorem dX7_nearTo_15 : decode cX7_nearTo 15 = .ok (.iload_n 3, 1) := by decide +kernel
theorem dX7_nearTo_16 : decode cX7_nearTo 16 = .ok (.invokevirtual 253, 3) := by decide +kernel
theorem dX7_nearTo_19 : decode cX7_nearTo 19 = .ok (.ifCond .eq 9, 3) := by decide +kernel
theorem dX7_nearTo_22 : decode cX7_nearTo 22 = .ok (.iconst 1, 1) := by decide +kernel
theorem dX7_nearTo_23 : decode cX7_nearTo 23 = .ok (.iload_n 3, 1) := by decide +kernel
theorem dX7_nearTo_24 : decode cX7_nearTo 24 = .ok (.ishl, 1) := by decide +kernel
theorem dX7_nearTo_25 : decode cX7_nearTo 25 = .ok (.goto 4, 3) := by decide +kernel
theorem dX7_nearTo_28 : decode cX7_nearTo 28 = .ok (.iconst 0, 1) := by decide +kernel
theorem dX7_nearTo_29 : decode cX7_nearTo 29 = .ok (.ior, 1) := by decide +kernel
theorem dX7_nearTo_30 : decode cX7_nearTo 30 = .ok (.istore_n 2, 1) := by decide +kernel
theorem dX7_nearTo_31 : decode cX7_nearTo 31 = .ok (.iinc 3 1, 3) := by decide +kernel
theorem dX7_nearTo_34 : decode cX7_nearTo 34 = .ok (.goto (-30), 3) := by decide +kernel
theorem dX7_nearTo_37 : decode cX7_nearTo 37 = .ok (.iload_n 2, 1) := by decide +kernel
theorem dX7_nearTo_38 : decode cX7_nearTo 38 = .ok (.ireturn, 1) := by decide +kernel
theorem dX7_near_0 : decode cX7_near 0 = .ok (.aload_n 0, 1) := by decide +kernel
theorem dX7_near_1 : decode cX7_near 1 = .ok (.aload_n 0, 1) := by decide +kernel
theorem dX7_near_2 : decode cX7_near 2 = .ok (.iload_n 1, 1) := by decide +kernel
theorem dX7_near_3 : decode cX7_near 3 = .ok (.invokevirtual 231, 3) := by decide +kernel
theorem dX7_near_6 : decode cX7_near 6 = .ok (.invokestatic 199, 3) := by decide +kernel
theorem dX7_near_9 : decode cX7_near 9 = .ok (.invokevirtual 159, 3) := by decide +kernel
theorem dX7_near_12 : decode cX7_near 12 = .ok (.ifCond .eq 7, 3) := by decide +kernel
theorem dX7_near_15 : decode cX7_near 15 = .ok (.iconst (-1), 1) := by decide +kernel
theorem dX7_near_16 : decode cX7_near 16 = .ok (.goto 8, 3) := by decide +kernel
theorem dX7_near_19 : decode cX7_near 19 = .ok (.aload_n 0, 1) := by decide +kernel
theorem dX7_near_20 : decode cX7_near 20 = .ok (.iload_n 1, 1) := by decide +kernel
theorem dX7_near_21 : decode cX7_near 21 = .ok (.invokevirtual 256, 3) := by decide +kernel
theorem dX7_near_24 : decode cX7_near 24 = .ok (.ireturn, 1) := by decide +kernel
theorem dX7_apart_0 : decode cX7_apart 0 = .ok (.aload_n 0, 1) := by decide +kernel
theorem dX7_apart_1 : decode cX7_apart 1 = .ok (.aload_n 0, 1) := by decide +kernel
theorem dX7_apart_2 : decode cX7_apart 2 = .ok (.iload_n 1, 1) := by decide +kernel
theorem dX7_apart_3 : decode cX7_apart 3 = .ok (.invokevirtual 231, 3) := by decide +kernel
theorem dX7_apart_6 : decode cX7_apart 6 = .ok (.ifCond .eq 15, 3) := by decide +kernel
theorem dX7_apart_9 : decode cX7_apart 9 = .ok (.aload_n 0, 1) := by decide +kernel
theorem dX7_apart_10 : decode cX7_apart 10 = .ok (.iload_n 2, 1) := by decide +kernel
theorem dX7_apart_11 : decode cX7_apart 11 = .ok (.invokevirtual 231, 3) := by decide +kernel
theorem dX7_apart_14 : decode cX7_apart 14 = .ok (.ifCond .eq 7, 3) := by decide +kernel
theorem dX7_apart_17 : decode cX7_apart 17 = .ok (.iconst 1, 1) := by decide +kernel
theorem dX7_apart_18 : decode cX7_apart 18 = .ok (.goto 4, 3) := by decide +kernel
theorem dX7_apart_21 : decode cX7_apart 21 = .ok (.iconst 0, 1) := by decide +kernel
theorem dX7_apart_22 : decode cX7_apart 22 = .ok (.invokestatic 199, 3) := by decide +kernel
theorem dX7_apart_25 : decode cX7_apart 25 = .ok (.invokevirtual 159, 3) := by decide +kernel
theorem dX7_apart_28 : decode cX7_apart 28 = .ok (.ifCond .eq 5, 3) := by decide +kernel
theorem dX7_apart_31 : decode cX7_apart 31 = .ok (.iconst (-1), 1) := by decide +kernel
theorem dX7_apart_32 : decode cX7_apart 32 = .ok (.ireturn, 1) := by decide +kernel
theorem dX7_apart_33 : decode cX7_apart 33 = .ok (.iconst 1, 1) := by decide +kernel
theorem dX7_apart_34 : decode cX7_apart 34 = .ok (.iload_n 1, 1) := by decide +kernel
theorem dX7_apart_35 : decode cX7_apart 35 = .ok (.ishl, 1) := by decide +kernel
theorem dX7_apart_36 : decode cX7_apart 36 = .ok (.istore_n 3, 1) := by decide +kernel
theorem dX7_apart_37 : decode cX7_apart 37 = .ok (.iconst 0, 1) := by decide +kernel
theorem dX7_apart_38 : decode cX7_apart 38 = .ok (.istore 4, 2) := by decide +kernel
theorem dX7_apart_40 : decode cX7_apart 40 = .ok (.iload 4, 2) := by decide +kernel
theorem dX7_apart_42 : decode cX7_apart 42 = .ok (.bipush 12, 2) := by decide +kernel
theorem dX7_apart_44 : decode cX7_apart 44 = .ok (.if_icmp .ge 68, 3) := by decide +kernel
theorem dX7_apart_47 : decode cX7_apart 47 = .ok (.iload_n 3, 1) := by decide +kernel
theorem dX7_apart_48 : decode cX7_apart 48 = .ok (.iload_n 2, 1) := by decide +kernel
theorem dX7_apart_49 : decode cX7_apart 49 = .ok (.invokestatic 132, 3) := by decide +kernel
theorem dX7_apart_52 : decode cX7_apart 52 = .ok (.ifCond .eq 6, 3) := by decide +kernel
theorem dX7_apart_55 : decode cX7_apart 55 = .ok (.iload 4, 2) := by decide +kernel
theorem dX7_apart_57 : decode cX7_apart 57 = .ok (.ireturn, 1) := by decide +kernel
theorem dX7_apart_58 : decode cX7_apart 58 = .ok (.iload_n 3, 1) := by decide +kernel
theorem dX7_apart_59 : decode cX7_apart 59 = .ok (.istore 5, 2) := by decide +kernel
theorem dX7_apart_61 : decode cX7_apart 61 = .ok (.iconst 0, 1) := by decide +kernel
theorem dX7_apart_62 : decode cX7_apart 62 = .ok (.istore 6, 2) := by decide +kernel
theorem dX7_apart_64 : decode cX7_apart 64 = .ok (.iload 6, 2) := by decide +kernel
theorem dX7_apart_66 : decode cX7_apart 66 = .ok (.aload_n 0, 1) := by decide +kernel
theorem dX7_apart_67 : decode cX7_apart 67 = .ok (.getfield 176, 3) := by decide +kernel
theorem dX7_apart_70 : decode cX7_apart 70 = .ok (.if_icmp .ge 33, 3) := by decide +kernel
theorem dX7_apart_73 : decode cX7_apart 73 = .ok (.iload 5, 2) := by decide +kernel
theorem dX7_apart_75 : decode cX7_apart 75 = .ok (.iload_n 3, 1) := by decide +kernel
theorem dX7_apart_76 : decode cX7_apart 76 = .ok (.iload 6, 2) := by decide +kernel
theorem dX7_apart_78 : decode cX7_apart 78 = .ok (.invokestatic 132, 3) := by decide +kernel
theorem dX7_apart_81 : decode cX7_apart 81 = .ok (.ifCond .eq 12, 3) := by decide +kernel
theorem dX7_apart_84 : decode cX7_apart 84 = .ok (.aload_n 0, 1) := by decide +kernel
theorem dX7_apart_85 : decode cX7_apart 85 = .ok (.iload 6, 2) := by decide +kernel
theorem dX7_apart_87 : decode cX7_apart 87 = .ok (.invokevirtual 256, 3) := by decide +kernel
theorem dX7_apart_90 : decode cX7_apart 90 = .ok (.goto 4, 3) := by decide +kernel
theorem dX7_apart_93 : decode cX7_apart 93 = .ok (.iconst 0, 1) := by decide +kernel
theorem dX7_apart_94 : decode cX7_apart 94 = .ok (.ior, 1) := by decide +kernel
theorem dX7_apart_95 : decode cX7_apart 95 = .ok (.istore 5, 2) := by decide +kernel
theorem dX7_apart_97 : decode cX7_apart 97 = .ok (.iinc 6 1, 3) := by decide +kernel
theorem dX7_apart_100 : decode cX7_apart 100 = .ok (.goto (-36), 3) := by decide +kernel
theorem dX7_apart_103 : decode cX7_apart 103 = .ok (.iload 5, 2) := by decide +kernel
theorem dX7_apart_105 : decode cX7_apart 105 = .ok (.istore_n 3, 1) := by decide +kernel
theorem dX7_apart_106 : decode cX7_apart 106 = .ok (.iinc 4 1, 3) := by decide +kernel
theorem dX7_apart_109 : decode cX7_apart 109 = .ok (.goto (-69), 3) := by decide +kernel
theorem dX7_apart_112 : decode cX7_apart 112 = .ok (.bipush (-2), 2) := by decide +kernel
theorem dX7_apart_114 : decode cX7_apart 114 = .ok (.ireturn, 1) := by decide +kernel
theorem dX7_joinsSet_0 : decode cX7_joinsSet 0 = .ok (.aload_n 0, 1) := by decide +kernel
theorem dX7_joinsSet_1 : decode cX7_joinsSet 1 = .ok (.iload_n 1, 1) := by decide +kernel
theorem dX7_joinsSet_2 : decode cX7_joinsSet 2 = .ok (.iaload, 1) := by decide +kernel
theorem dX7_joinsSet_3 : decode cX7_joinsSet 3 = .ok (.istore_n 3, 1) := by decide +kernel
theorem dX7_joinsSet_4 : decode cX7_joinsSet 4 = .ok (.iload_n 3, 1) := by decide +kernel
theorem dX7_joinsSet_5 : decode cX7_joinsSet 5 = .ok (.invokestatic 136, 3) := by decide +kernel
theorem dX7_joinsSet_8 : decode cX7_joinsSet 8 = .ok (.iconst 1, 1) := by decide +kernel
theorem dX7_joinsSet_9 : decode cX7_joinsSet 9 = .ok (.isub, 1) := by decide +kernel
theorem dX7_joinsSet_10 : decode cX7_joinsSet 10 = .ok (.istore 4, 2) := by decide +kernel
theorem dX7_joinsSet_12 : decode cX7_joinsSet 12 = .ok (.iconst 0, 1) := by decide +kernel
theorem dX7_joinsSet_13 : decode cX7_joinsSet 13 = .ok (.istore 5, 2) := by decide +kernel
theorem dX7_joinsSet_15 : decode cX7_joinsSet 15 = .ok (.iload 5, 2) := by decide +kernel
theorem dX7_joinsSet_17 : decode cX7_joinsSet 17 = .ok (.bipush 12, 2) := by decide +kernel
theorem dX7_joinsSet_19 : decode cX7_joinsSet 19 = .ok (.if_icmp .ge 95, 3) := by decide +kernel
theorem dX7_joinsSet_22 : decode cX7_joinsSet 22 = .ok (.iload_n 2, 1) := by decide +kernel
theorem dX7_joinsSet_23 : decode cX7_joinsSet 23 = .ok (.iload 5, 2) := by decide +kernel
theorem dX7_joinsSet_25 : decode cX7_joinsSet 25 = .ok (.invokestatic 132, 3) := by decide +kernel
theorem dX7_joinsSet_28 : decode cX7_joinsSet 28 = .ok (.ifCond .eq 80, 3) := by decide +kernel
theorem dX7_joinsSet_31 : decode cX7_joinsSet 31 = .ok (.iconst 0, 1) := by decide +kernel
theorem dX7_joinsSet_32 : decode cX7_joinsSet 32 = .ok (.istore 6, 2) := by decide +kernel
theorem dX7_joinsSet_34 : decode cX7_joinsSet 34 = .ok (.iconst 0, 1) := by decide +kernel
theorem dX7_joinsSet_35 : decode cX7_joinsSet 35 = .ok (.istore 7, 2) := by decide +kernel
theorem dX7_joinsSet_37 : decode cX7_joinsSet 37 = .ok (.iload 7, 2) := by decide +kernel
theorem dX7_joinsSet_39 : decode cX7_joinsSet 39 = .ok (.bipush 12, 2) := by decide +kernel
theorem dX7_joinsSet_41 : decode cX7_joinsSet 41 = .ok (.if_icmp .ge 60, 3) := by decide +kernel
theorem dX7_joinsSet_44 : decode cX7_joinsSet 44 = .ok (.iload 6, 2) := by decide +kernel
theorem dX7_joinsSet_46 : decode cX7_joinsSet 46 = .ok (.ifCond .ne 55, 3) := by decide +kernel
theorem dX7_joinsSet_49 : decode cX7_joinsSet 49 = .ok (.iload_n 2, 1) := by decide +kernel
theorem dX7_joinsSet_50 : decode cX7_joinsSet 50 = .ok (.iload 7, 2) := by decide +kernel
theorem dX7_joinsSet_52 : decode cX7_joinsSet 52 = .ok (.invokestatic 132, 3) := by decide +kernel
theorem dX7_joinsSet_55 : decode cX7_joinsSet 55 = .ok (.ifCond .eq 37, 3) := by decide +kernel
theorem dX7_joinsSet_58 : decode cX7_joinsSet 58 = .ok (.iload_n 3, 1) := by decide +kernel
theorem dX7_joinsSet_59 : decode cX7_joinsSet 59 = .ok (.aload_n 0, 1) := by decide +kernel
theorem dX7_joinsSet_60 : decode cX7_joinsSet 60 = .ok (.iload 7, 2) := by decide +kernel
theorem dX7_joinsSet_62 : decode cX7_joinsSet 62 = .ok (.iaload, 1) := by decide +kernel
theorem dX7_joinsSet_63 : decode cX7_joinsSet 63 = .ok (.iand, 1) := by decide +kernel
theorem dX7_joinsSet_64 : decode cX7_joinsSet 64 = .ok (.invokestatic 136, 3) := by decide +kernel
theorem dX7_joinsSet_67 : decode cX7_joinsSet 67 = .ok (.iload 4, 2) := by decide +kernel
theorem dX7_joinsSet_69 : decode cX7_joinsSet 69 = .ok (.if_icmp .ne 23, 3) := by decide +kernel
theorem dX7_joinsSet_72 : decode cX7_joinsSet 72 = .ok (.iload_n 3, 1) := by decide +kernel
theorem dX7_joinsSet_73 : decode cX7_joinsSet 73 = .ok (.aload_n 0, 1) := by decide +kernel
theorem dX7_joinsSet_74 : decode cX7_joinsSet 74 = .ok (.iload 5, 2) := by decide +kernel
theorem dX7_joinsSet_76 : decode cX7_joinsSet 76 = .ok (.iaload, 1) := by decide +kernel
theorem dX7_joinsSet_77 : decode cX7_joinsSet 77 = .ok (.iand, 1) := by decide +kernel
theorem dX7_joinsSet_78 : decode cX7_joinsSet 78 = .ok (.aload_n 0, 1) := by decide +kernel
theorem dX7_joinsSet_79 : decode cX7_joinsSet 79 = .ok (.iload 7, 2) := by decide +kernel
theorem dX7_joinsSet_81 : decode cX7_joinsSet 81 = .ok (.iaload, 1) := by decide +kernel
theorem dX7_joinsSet_82 : decode cX7_joinsSet 82 = .ok (.invokestatic 183, 3) := by decide +kernel
theorem dX7_joinsSet_85 : decode cX7_joinsSet 85 = .ok (.ifCond .eq 7, 3) := by decide +kernel
theorem dX7_joinsSet_88 : decode cX7_joinsSet 88 = .ok (.iconst 1, 1) := by decide +kernel
theorem dX7_joinsSet_89 : decode cX7_joinsSet 89 = .ok (.goto 4, 3) := by decide +kernel
theorem dX7_joinsSet_92 : decode cX7_joinsSet 92 = .ok (.iconst 0, 1) := by decide +kernel
theorem dX7_joinsSet_93 : decode cX7_joinsSet 93 = .ok (.istore 6, 2) := by decide +kernel
theorem dX7_joinsSet_95 : decode cX7_joinsSet 95 = .ok (.iinc 7 1, 3) := by decide +kernel
theorem dX7_joinsSet_98 : decode cX7_joinsSet 98 = .ok (.goto (-61), 3) := by decide +kernel
theorem dX7_joinsSet_101 : decode cX7_joinsSet 101 = .ok (.iload 6, 2) := by decide +kernel
theorem dX7_joinsSet_103 : decode cX7_joinsSet 103 = .ok (.ifCond .ne 5, 3) := by decide +kernel
theorem dX7_joinsSet_106 : decode cX7_joinsSet 106 = .ok (.iconst 0, 1) := by decide +kernel
theorem dX7_joinsSet_107 : decode cX7_joinsSet 107 = .ok (.ireturn, 1) := by decide +kernel
theorem dX7_joinsSet_108 : decode cX7_joinsSet 108 = .ok (.iinc 5 1, 3) := by decide +kernel
theorem dX7_joinsSet_111 : decode cX7_joinsSet 111 = .ok (.goto (-96), 3) := by decide +kernel
theorem dX7_joinsSet_114 : decode cX7_joinsSet 114 = .ok (.iconst 1, 1) := by decide +kernel
theorem dX7_joinsSet_115 : decode cX7_joinsSet 115 = .ok (.ireturn, 1) := by decide +kernel
theorem dX7_ahead_0 : decode cX7_ahead 0 = .ok (.iconst 0, 1) := by decide +kernel
theorem dX7_ahead_1 : decode cX7_ahead 1 = .ok (.istore_n 2, 1) := by decide +kernel
theorem dX7_ahead_2 : decode cX7_ahead 2 = .ok (.iconst 0, 1) := by decide +kernel
theorem dX7_ahead_3 : decode cX7_ahead 3 = .ok (.istore_n 3, 1) := by decide +kernel
theorem dX7_ahead_4 : decode cX7_ahead 4 = .ok (.iload_n 3, 1) := by decide +kernel
theorem dX7_ahead_5 : decode cX7_ahead 5 = .ok (.iload_n 1, 1) := by decide +kernel
theorem dX7_ahead_6 : decode cX7_ahead 6 = .ok (.if_icmp .ge 20, 3) := by decide +kernel
theorem dX7_ahead_9 : decode cX7_ahead 9 = .ok (.iload_n 2, 1) := by decide +kernel
theorem dX7_ahead_10 : decode cX7_ahead 10 = .ok (.iconst 1, 1) := by decide +kernel
theorem dX7_ahead_11 : decode cX7_ahead 11 = .ok (.aload_n 0, 1) := by decide +kernel
theorem dX7_ahead_12 : decode cX7_ahead 12 = .ok (.getfield 20, 3) := by decide +kernel
theorem dX7_ahead_15 : decode cX7_ahead 15 = .ok (.iload_n 3, 1) := by decide +kernel
theorem dX7_ahead_16 : decode cX7_ahead 16 = .ok (.iaload, 1) := by decide +kernel
theorem dX7_ahead_17 : decode cX7_ahead 17 = .ok (.ishl, 1) := by decide +kernel
theorem dX7_ahead_18 : decode cX7_ahead 18 = .ok (.ior, 1) := by decide +kernel
theorem dX7_ahead_19 : decode cX7_ahead 19 = .ok (.istore_n 2, 1) := by decide +kernel
theorem dX7_ahead_20 : decode cX7_ahead 20 = .ok (.iinc 3 1, 3) := by decide +kernel
theorem dX7_ahead_23 : decode cX7_ahead 23 = .ok (.goto (-19), 3) := by decide +kernel
theorem dX7_ahead_26 : decode cX7_ahead 26 = .ok (.iload_n 2, 1) := by decide +kernel
theorem dX7_ahead_27 : decode cX7_ahead 27 = .ok (.ireturn, 1) := by decide +kernel
theorem dX7_joinsAt_0 : decode cX7_joinsAt 0 = .ok (.aload_n 0, 1) := by decide +kernel
theorem dX7_joinsAt_1 : decode cX7_joinsAt 1 = .ok (.getfield 17, 3) := by decide +kernel
theorem dX7_joinsAt_4 : decode cX7_joinsAt 4 = .ok (.aload_n 0, 1) := by decide +kernel
theorem dX7_joinsAt_5 : decode cX7_joinsAt 5 = .ok (.getfield 20, 3) := by decide +kernel
theorem dX7_joinsAt_8 : decode cX7_joinsAt 8 = .ok (.iload_n 1, 1) := by decide +kernel
theorem dX7_joinsAt_9 : decode cX7_joinsAt 9 = .ok (.iaload, 1) := by decide +kernel
theorem dX7_joinsAt_10 : decode cX7_joinsAt 10 = .ok (.aload_n 0, 1) := by decide +kernel
theorem dX7_joinsAt_11 : decode cX7_joinsAt 11 = .ok (.iload_n 1, 1) := by decide +kernel
theorem dX7_joinsAt_12 : decode cX7_joinsAt 12 = .ok (.invokevirtual 259, 3) := by decide +kernel
theorem dX7_joinsAt_15 : decode cX7_joinsAt 15 = .ok (.invokestatic 262, 3) := by decide +kernel
theorem dX7_joinsAt_18 : decode cX7_joinsAt 18 = .ok (.ireturn, 1) := by decide +kernel
theorem dX7_restrictionAt_0 : decode cX7_restrictionAt 0 = .ok (.aload_n 0, 1) := by decide +kernel
theorem dX7_restrictionAt_1 : decode cX7_restrictionAt 1 = .ok (.getfield 17, 3) := by decide +kernel
theorem dX7_restrictionAt_4 : decode cX7_restrictionAt 4 = .ok (.aload_n 0, 1) := by decide +kernel
theorem dX7_restrictionAt_5 : decode cX7_restrictionAt 5 = .ok (.getfield 20, 3) := by decide +kernel
theorem dX7_restrictionAt_8 : decode cX7_restrictionAt 8 = .ok (.iload_n 1, 1) := by decide +kernel
theorem dX7_restrictionAt_9 : decode cX7_restrictionAt 9 = .ok (.iaload, 1) := by decide +kernel
theorem dX7_restrictionAt_10 : decode cX7_restrictionAt 10 = .ok (.iaload, 1) := by decide +kernel
theorem dX7_restrictionAt_11 : decode cX7_restrictionAt 11 = .ok (.istore_n 2, 1) := by decide +kernel
theorem dX7_restrictionAt_12 : decode cX7_restrictionAt 12 = .ok (.iconst 0, 1) := by decide +kernel
theorem dX7_restrictionAt_13 : decode cX7_restrictionAt 13 = .ok (.istore_n 3, 1) := by decide +kernel
theorem dX7_restrictionAt_14 : decode cX7_restrictionAt 14 = .ok (.iconst 0, 1) := by decide +kernel
theorem dX7_restrictionAt_15 : decode cX7_restrictionAt 15 = .ok (.istore 4, 2) := by decide +kernel
theorem dX7_restrictionAt_17 : decode cX7_restrictionAt 17 = .ok (.iload 4, 2) := by decide +kernel
theorem dX7_restrictionAt_19 : decode cX7_restrictionAt 19 = .ok (.bipush 7, 2) := by decide +kernel
theorem dX7_restrictionAt_21 : decode cX7_restrictionAt 21 = .ok (.if_icmp .ge 74, 3) := by decide +kernel
theorem dX7_restrictionAt_24 : decode cX7_restrictionAt 24 = .ok (.iload_n 2, 1) := by decide +kernel
theorem dX7_restrictionAt_25 : decode cX7_restrictionAt 25 = .ok (.iconst 1, 1) := by decide +kernel
theorem dX7_restrictionAt_26 : decode cX7_restrictionAt 26 = .ok (.iload 4, 2) := by decide +kernel
theorem dX7_restrictionAt_28 : decode cX7_restrictionAt 28 = .ok (.ishl, 1) := by decide +kernel
theorem dX7_restrictionAt_29 : decode cX7_restrictionAt 29 = .ok (.iconst (-1), 1) := by decide +kernel
theorem dX7_restrictionAt_30 : decode cX7_restrictionAt 30 = .ok (.ixor, 1) := by decide +kernel
theorem dX7_restrictionAt_31 : decode cX7_restrictionAt 31 = .ok (.iand, 1) := by decide +kernel
theorem dX7_restrictionAt_32 : decode cX7_restrictionAt 32 = .ok (.istore 5, 2) := by decide +kernel
theorem dX7_restrictionAt_34 : decode cX7_restrictionAt 34 = .ok (.iconst 0, 1) := by decide +kernel
theorem dX7_restrictionAt_35 : decode cX7_restrictionAt 35 = .ok (.istore 6, 2) := by decide +kernel
theorem dX7_restrictionAt_37 : decode cX7_restrictionAt 37 = .ok (.iload 6, 2) := by decide +kernel
theorem dX7_restrictionAt_39 : decode cX7_restrictionAt 39 = .ok (.iload_n 1, 1) := by decide +kernel
theorem dX7_restrictionAt_40 : decode cX7_restrictionAt 40 = .ok (.if_icmp .ge 49, 3) := by decide +kernel
theorem dX7_restrictionAt_43 : decode cX7_restrictionAt 43 = .ok (.iload_n 2, 1) := by decide +kernel
theorem dX7_restrictionAt_44 : decode cX7_restrictionAt 44 = .ok (.iload 4, 2) := by decide +kernel
theorem dX7_restrictionAt_46 : decode cX7_restrictionAt 46 = .ok (.invokestatic 132, 3) := by decide +kernel
theorem dX7_restrictionAt_49 : decode cX7_restrictionAt 49 = .ok (.ifCond .eq 40, 3) := by decide +kernel
theorem dX7_restrictionAt_52 : decode cX7_restrictionAt 52 = .ok (.iload_n 3, 1) := by decide +kernel
theorem dX7_restrictionAt_53 : decode cX7_restrictionAt 53 = .ok (.iload 5, 2) := by decide +kernel
theorem dX7_restrictionAt_55 : decode cX7_restrictionAt 55 = .ok (.aload_n 0, 1) := by decide +kernel
theorem dX7_restrictionAt_56 : decode cX7_restrictionAt 56 = .ok (.getfield 17, 3) := by decide +kernel
theorem dX7_restrictionAt_59 : decode cX7_restrictionAt 59 = .ok (.aload_n 0, 1) := by decide +kernel
theorem dX7_restrictionAt_60 : decode cX7_restrictionAt 60 = .ok (.getfield 20, 3) := by decide +kernel
theorem dX7_restrictionAt_63 : decode cX7_restrictionAt 63 = .ok (.iload 6, 2) := by decide +kernel
theorem dX7_restrictionAt_65 : decode cX7_restrictionAt 65 = .ok (.iaload, 1) := by decide +kernel
theorem dX7_restrictionAt_66 : decode cX7_restrictionAt 66 = .ok (.iaload, 1) := by decide +kernel
theorem dX7_restrictionAt_67 : decode cX7_restrictionAt 67 = .ok (.invokestatic 183, 3) := by decide +kernel
theorem dX7_restrictionAt_70 : decode cX7_restrictionAt 70 = .ok (.ifCond .eq 10, 3) := by decide +kernel
theorem dX7_restrictionAt_73 : decode cX7_restrictionAt 73 = .ok (.iconst 1, 1) := by decide +kernel
theorem dX7_restrictionAt_74 : decode cX7_restrictionAt 74 = .ok (.iload 4, 2) := by decide +kernel
theorem dX7_restrictionAt_76 : decode cX7_restrictionAt 76 = .ok (.ishl, 1) := by decide +kernel
theorem dX7_restrictionAt_77 : decode cX7_restrictionAt 77 = .ok (.goto 4, 3) := by decide +kernel
theorem dX7_restrictionAt_80 : decode cX7_restrictionAt 80 = .ok (.iconst 0, 1) := by decide +kernel
theorem dX7_restrictionAt_81 : decode cX7_restrictionAt 81 = .ok (.ior, 1) := by decide +kernel
theorem dX7_restrictionAt_82 : decode cX7_restrictionAt 82 = .ok (.istore_n 3, 1) := by decide +kernel
theorem dX7_restrictionAt_83 : decode cX7_restrictionAt 83 = .ok (.iinc 6 1, 3) := by decide +kernel
theorem dX7_restrictionAt_86 : decode cX7_restrictionAt 86 = .ok (.goto (-49), 3) := by decide +kernel
theorem dX7_restrictionAt_89 : decode cX7_restrictionAt 89 = .ok (.iinc 4 1, 3) := by decide +kernel
theorem dX7_restrictionAt_92 : decode cX7_restrictionAt 92 = .ok (.goto (-75), 3) := by decide +kernel
theorem dX7_restrictionAt_95 : decode cX7_restrictionAt 95 = .ok (.iload_n 3, 1) := by decide +kernel
theorem dX7_restrictionAt_96 : decode cX7_restrictionAt 96 = .ok (.ireturn, 1) := by decide +kernel
theorem dX7_ordered_0 : decode cX7_ordered 0 = .ok (.aload_n 0, 1) := by decide +kernel
theorem dX7_ordered_1 : decode cX7_ordered 1 = .ok (.aload_n 0, 1) := by decide +kernel
theorem dX7_ordered_2 : decode cX7_ordered 2 = .ok (.iload_n 1, 1) := by decide +kernel
theorem dX7_ordered_3 : decode cX7_ordered 3 = .ok (.invokevirtual 231, 3) := by decide +kernel
theorem dX7_ordered_6 : decode cX7_ordered 6 = .ok (.invokestatic 199, 3) := by decide +kernel
theorem dX7_ordered_9 : decode cX7_ordered 9 = .ok (.invokevirtual 159, 3) := by decide +kernel
theorem dX7_ordered_12 : decode cX7_ordered 12 = .ok (.ifCond .eq 7, 3) := by decide +kernel
theorem dX7_ordered_15 : decode cX7_ordered 15 = .ok (.iconst (-1), 1) := by decide +kernel
theorem dX7_ordered_16 : decode cX7_ordered 16 = .ok (.goto 9, 3) := by decide +kernel
theorem dX7_ordered_19 : decode cX7_ordered 19 = .ok (.aload_n 0, 1) := by decide +kernel
theorem dX7_ordered_20 : decode cX7_ordered 20 = .ok (.getfield 20, 3) := by decide +kernel
theorem dX7_ordered_23 : decode cX7_ordered 23 = .ok (.iload_n 1, 1) := by decide +kernel
theorem dX7_ordered_24 : decode cX7_ordered 24 = .ok (.iaload, 1) := by decide +kernel
theorem dX7_ordered_25 : decode cX7_ordered 25 = .ok (.ireturn, 1) := by decide +kernel
theorem dX7_joins_0 : decode cX7_joins 0 = .ok (.aload_n 0, 1) := by decide +kernel
theorem dX7_joins_1 : decode cX7_joins 1 = .ok (.aload_n 0, 1) := by decide +kernel
theorem dX7_joins_2 : decode cX7_joins 2 = .ok (.iload_n 1, 1) := by decide +kernel
theorem dX7_joins_3 : decode cX7_joins 3 = .ok (.invokevirtual 231, 3) := by decide +kernel
theorem dX7_joins_6 : decode cX7_joins 6 = .ok (.invokestatic 199, 3) := by decide +kernel
theorem dX7_joins_9 : decode cX7_joins 9 = .ok (.invokevirtual 159, 3) := by decide +kernel
theorem dX7_joins_12 : decode cX7_joins 12 = .ok (.ifCond .eq 5, 3) := by decide +kernel
theorem dX7_joins_15 : decode cX7_joins 15 = .ok (.iconst (-1), 1) := by decide +kernel
theorem dX7_joins_16 : decode cX7_joins 16 = .ok (.ireturn, 1) := by decide +kernel
theorem dX7_joins_17 : decode cX7_joins 17 = .ok (.aload_n 0, 1) := by decide +kernel
theorem dX7_joins_18 : decode cX7_joins 18 = .ok (.iload_n 1, 1) := by decide +kernel
theorem dX7_joins_19 : decode cX7_joins 19 = .ok (.invokevirtual 266, 3) := by decide +kernel
theorem dX7_joins_22 : decode cX7_joins 22 = .ok (.ifCond .eq 7, 3) := by decide +kernel
theorem dX7_joins_25 : decode cX7_joins 25 = .ok (.iconst 1, 1) := by decide +kernel
theorem dX7_joins_26 : decode cX7_joins 26 = .ok (.goto 4, 3) := by decide +kernel
theorem dX7_joins_29 : decode cX7_joins 29 = .ok (.iconst 0, 1) := by decide +kernel
theorem dX7_joins_30 : decode cX7_joins 30 = .ok (.ireturn, 1) := by decide +kernel
theorem dX7_restricted_0 : decode cX7_restricted 0 = .ok (.aload_n 0, 1) := by decide +kernel
theorem dX7_restricted_1 : decode cX7_restricted 1 = .ok (.aload_n 0, 1) := by decide +kernel
theorem dX7_restricted_2 : decode cX7_restricted 2 = .ok (.iload_n 1, 1) := by decide +kernel
theorem dX7_restricted_3 : decode cX7_restricted 3 = .ok (.invokevirtual 231, 3) := by decide +kernel
theorem dX7_restricted_6 : decode cX7_restricted 6 = .ok (.invokestatic 199, 3) := by decide +kernel
theorem dX7_restricted_9 : decode cX7_restricted 9 = .ok (.invokevirtual 159, 3) := by decide +kernel
theorem dX7_restricted_12 : decode cX7_restricted 12 = .ok (.ifCond .eq 7, 3) := by decide +kernel
theorem dX7_restricted_15 : decode cX7_restricted 15 = .ok (.iconst (-1), 1) := by decide +kernel
theorem dX7_restricted_16 : decode cX7_restricted 16 = .ok (.goto 8, 3) := by decide +kernel
theorem dX7_restricted_19 : decode cX7_restricted 19 = .ok (.aload_n 0, 1) := by decide +kernel
theorem dX7_restricted_20 : decode cX7_restricted 20 = .ok (.iload_n 1, 1) := by decide +kernel
theorem dX7_restricted_21 : decode cX7_restricted 21 = .ok (.invokevirtual 269, 3) := by decide +kernel
theorem dX7_restricted_24 : decode cX7_restricted 24 = .ok (.ireturn, 1) := by decide +kernel
theorem dX7_goodMany_0 : decode cX7_goodMany 0 = .ok (.iconst 0, 1) := by decide +kernel
theorem dX7_goodMany_1 : decode cX7_goodMany 1 = .ok (.istore_n 1, 1) := by decide +kernel
theorem dX7_goodMany_2 : decode cX7_goodMany 2 = .ok (.iload_n 1, 1) := by decide +kernel
theorem dX7_goodMany_3 : decode cX7_goodMany 3 = .ok (.aload_n 0, 1) := by decide +kernel
theorem dX7_goodMany_4 : decode cX7_goodMany 4 = .ok (.getfield 176, 3) := by decide +kernel
theorem dX7_goodMany_7 : decode cX7_goodMany 7 = .ok (.if_icmp .ge 17, 3) := by decide +kernel
theorem dX7_goodMany_10 : decode cX7_goodMany 10 = .ok (.aload_n 0, 1) := by decide +kernel
theorem dX7_goodMany_11 : decode cX7_goodMany 11 = .ok (.iload_n 1, 1) := by decide +kernel
theorem dX7_goodMany_12 : decode cX7_goodMany 12 = .ok (.invokevirtual 266, 3) := by decide +kernel
theorem dX7_goodMany_15 : decode cX7_goodMany 15 = .ok (.ifCond .eq 9, 3) := by decide +kernel
theorem dX7_goodMany_18 : decode cX7_goodMany 18 = .ok (.iinc 1 1, 3) := by decide +kernel
theorem dX7_goodMany_21 : decode cX7_goodMany 21 = .ok (.goto (-19), 3) := by decide +kernel
theorem dX7_goodMany_24 : decode cX7_goodMany 24 = .ok (.iload_n 1, 1) := by decide +kernel
theorem dX7_goodMany_25 : decode cX7_goodMany 25 = .ok (.ireturn, 1) := by decide +kernel
theorem dX7_good_0 : decode cX7_good 0 = .ok (.aload_n 0, 1) := by decide +kernel
theorem dX7_good_1 : decode cX7_good 1 = .ok (.aload_n 0, 1) := by decide +kernel
theorem dX7_good_2 : decode cX7_good 2 = .ok (.getfield 179, 3) := by decide +kernel
theorem dX7_good_5 : decode cX7_good 5 = .ok (.invokestatic 199, 3) := by decide +kernel
theorem dX7_good_8 : decode cX7_good 8 = .ok (.invokevirtual 159, 3) := by decide +kernel
theorem dX7_good_11 : decode cX7_good 11 = .ok (.ifCond .eq 7, 3) := by decide +kernel
theorem dX7_good_14 : decode cX7_good 14 = .ok (.iconst (-1), 1) := by decide +kernel
theorem dX7_good_15 : decode cX7_good 15 = .ok (.goto 7, 3) := by decide +kernel
theorem dX7_good_18 : decode cX7_good 18 = .ok (.aload_n 0, 1) := by decide +kernel
theorem dX7_good_19 : decode cX7_good 19 = .ok (.invokevirtual 272, 3) := by decide +kernel
theorem dX7_good_22 : decode cX7_good 22 = .ok (.ireturn, 1) := by decide +kernel
theorem dX7_sized_0 : decode cX7_sized 0 = .ok (.aload_n 0, 1) := by decide +kernel
theorem dX7_sized_1 : decode cX7_sized 1 = .ok (.iload_n 1, 1) := by decide +kernel
theorem dX7_sized_2 : decode cX7_sized 2 = .ok (.invokevirtual 240, 3) := by decide +kernel
theorem dX7_sized_5 : decode cX7_sized 5 = .ok (.ifCond .ne 5, 3) := by decide +kernel
theorem dX7_sized_8 : decode cX7_sized 8 = .ok (.iconst (-1), 1) := by decide +kernel
theorem dX7_sized_9 : decode cX7_sized 9 = .ok (.ireturn, 1) := by decide +kernel
theorem dX7_sized_10 : decode cX7_sized 10 = .ok (.iconst 0, 1) := by decide +kernel
theorem dX7_sized_11 : decode cX7_sized 11 = .ok (.istore_n 2, 1) := by decide +kernel
theorem dX7_sized_12 : decode cX7_sized 12 = .ok (.iconst 0, 1) := by decide +kernel
theorem dX7_sized_13 : decode cX7_sized 13 = .ok (.istore_n 3, 1) := by decide +kernel
theorem dX7_sized_14 : decode cX7_sized 14 = .ok (.iload_n 3, 1) := by decide +kernel
theorem dX7_sized_15 : decode cX7_sized 15 = .ok (.aload_n 0, 1) := by decide +kernel
theorem dX7_sized_16 : decode cX7_sized 16 = .ok (.getfield 176, 3) := by decide +kernel
theorem dX7_sized_19 : decode cX7_sized 19 = .ok (.if_icmp .ge 29, 3) := by decide +kernel
theorem dX7_sized_22 : decode cX7_sized 22 = .ok (.iload_n 2, 1) := by decide +kernel
theorem dX7_sized_23 : decode cX7_sized 23 = .ok (.aload_n 0, 1) := by decide +kernel
theorem dX7_sized_24 : decode cX7_sized 24 = .ok (.iload_n 3, 1) := by decide +kernel
theorem dX7_sized_25 : decode cX7_sized 25 = .ok (.invokevirtual 269, 3) := by decide +kernel
theorem dX7_sized_28 : decode cX7_sized 28 = .ok (.invokestatic 136, 3) := by decide +kernel
theorem dX7_sized_31 : decode cX7_sized 31 = .ok (.iload_n 1, 1) := by decide +kernel
theorem dX7_sized_32 : decode cX7_sized 32 = .ok (.if_icmp .ne 7, 3) := by decide +kernel
theorem dX7_sized_35 : decode cX7_sized 35 = .ok (.iconst 1, 1) := by decide +kernel
theorem dX7_sized_36 : decode cX7_sized 36 = .ok (.goto 4, 3) := by decide +kernel
theorem dX7_sized_39 : decode cX7_sized 39 = .ok (.iconst 0, 1) := by decide +kernel
theorem dX7_sized_40 : decode cX7_sized 40 = .ok (.iadd, 1) := by decide +kernel
theorem dX7_sized_41 : decode cX7_sized 41 = .ok (.istore_n 2, 1) := by decide +kernel
theorem dX7_sized_42 : decode cX7_sized 42 = .ok (.iinc 3 1, 3) := by decide +kernel
theorem dX7_sized_45 : decode cX7_sized 45 = .ok (.goto (-31), 3) := by decide +kernel
theorem dX7_sized_48 : decode cX7_sized 48 = .ok (.iload_n 2, 1) := by decide +kernel
theorem dX7_sized_49 : decode cX7_sized 49 = .ok (.ireturn, 1) := by decide +kernel
theorem dX7_isSpanning_0 : decode cX7_isSpanning 0 = .ok (.aload_n 0, 1) := by decide +kernel
theorem dX7_isSpanning_1 : decode cX7_isSpanning 1 = .ok (.iload_n 1, 1) := by decide +kernel
theorem dX7_isSpanning_2 : decode cX7_isSpanning 2 = .ok (.invokevirtual 269, 3) := by decide +kernel
theorem dX7_isSpanning_5 : decode cX7_isSpanning 5 = .ok (.aload_n 0, 1) := by decide +kernel
theorem dX7_isSpanning_6 : decode cX7_isSpanning 6 = .ok (.getfield 17, 3) := by decide +kernel
theorem dX7_isSpanning_9 : decode cX7_isSpanning 9 = .ok (.aload_n 0, 1) := by decide +kernel
theorem dX7_isSpanning_10 : decode cX7_isSpanning 10 = .ok (.getfield 20, 3) := by decide +kernel
theorem dX7_isSpanning_13 : decode cX7_isSpanning 13 = .ok (.iload_n 1, 1) := by decide +kernel
theorem dX7_isSpanning_14 : decode cX7_isSpanning 14 = .ok (.iaload, 1) := by decide +kernel
theorem dX7_isSpanning_15 : decode cX7_isSpanning 15 = .ok (.iaload, 1) := by decide +kernel
theorem dX7_isSpanning_16 : decode cX7_isSpanning 16 = .ok (.if_icmp .ne 7, 3) := by decide +kernel
theorem dX7_isSpanning_19 : decode cX7_isSpanning 19 = .ok (.iconst 1, 1) := by decide +kernel
theorem dX7_isSpanning_20 : decode cX7_isSpanning 20 = .ok (.goto 4, 3) := by decide +kernel
theorem dX7_isSpanning_23 : decode cX7_isSpanning 23 = .ok (.iconst 0, 1) := by decide +kernel
theorem dX7_isSpanning_24 : decode cX7_isSpanning 24 = .ok (.ireturn, 1) := by decide +kernel
theorem dX7_spanningAt_0 : decode cX7_spanningAt 0 = .ok (.iconst 0, 1) := by decide +kernel
theorem dX7_spanningAt_1 : decode cX7_spanningAt 1 = .ok (.istore_n 2, 1) := by decide +kernel
theorem dX7_spanningAt_2 : decode cX7_spanningAt 2 = .ok (.iconst 0, 1) := by decide +kernel
theorem dX7_spanningAt_3 : decode cX7_spanningAt 3 = .ok (.istore_n 3, 1) := by decide +kernel
theorem dX7_spanningAt_4 : decode cX7_spanningAt 4 = .ok (.iload_n 3, 1) := by decide +kernel
theorem dX7_spanningAt_5 : decode cX7_spanningAt 5 = .ok (.aload_n 0, 1) := by decide +kernel
theorem dX7_spanningAt_6 : decode cX7_spanningAt 6 = .ok (.getfield 176, 3) := by decide +kernel
theorem dX7_spanningAt_9 : decode cX7_spanningAt 9 = .ok (.if_icmp .ge 27, 3) := by decide +kernel
theorem dX7_spanningAt_12 : decode cX7_spanningAt 12 = .ok (.aload_n 0, 1) := by decide +kernel
theorem dX7_spanningAt_13 : decode cX7_spanningAt 13 = .ok (.iload_n 3, 1) := by decide +kernel
theorem dX7_spanningAt_14 : decode cX7_spanningAt 14 = .ok (.invokevirtual 275, 3) := by decide +kernel
theorem dX7_spanningAt_17 : decode cX7_spanningAt 17 = .ok (.ifCond .eq 13, 3) := by decide +kernel
theorem dX7_spanningAt_20 : decode cX7_spanningAt 20 = .ok (.iload_n 2, 1) := by decide +kernel
theorem dX7_spanningAt_21 : decode cX7_spanningAt 21 = .ok (.iload_n 1, 1) := by decide +kernel
theorem dX7_spanningAt_22 : decode cX7_spanningAt 22 = .ok (.if_icmp .ne 5, 3) := by decide +kernel
theorem dX7_spanningAt_25 : decode cX7_spanningAt 25 = .ok (.iload_n 3, 1) := by decide +kernel
theorem dX7_spanningAt_26 : decode cX7_spanningAt 26 = .ok (.ireturn, 1) := by decide +kernel
theorem dX7_spanningAt_27 : decode cX7_spanningAt 27 = .ok (.iinc 2 1, 3) := by decide +kernel
theorem dX7_spanningAt_30 : decode cX7_spanningAt 30 = .ok (.iinc 3 1, 3) := by decide +kernel
theorem dX7_spanningAt_33 : decode cX7_spanningAt 33 = .ok (.goto (-29), 3) := by decide +kernel
theorem dX7_spanningAt_36 : decode cX7_spanningAt 36 = .ok (.iconst (-1), 1) := by decide +kernel
theorem dX7_spanningAt_37 : decode cX7_spanningAt 37 = .ok (.ireturn, 1) := by decide +kernel
theorem dX7_spanning_0 : decode cX7_spanning 0 = .ok (.aload_n 0, 1) := by decide +kernel
theorem dX7_spanning_1 : decode cX7_spanning 1 = .ok (.aload_n 0, 1) := by decide +kernel
theorem dX7_spanning_2 : decode cX7_spanning 2 = .ok (.getfield 179, 3) := by decide +kernel
theorem dX7_spanning_5 : decode cX7_spanning 5 = .ok (.invokestatic 199, 3) := by decide +kernel
theorem dX7_spanning_8 : decode cX7_spanning 8 = .ok (.invokevirtual 159, 3) := by decide +kernel
theorem dX7_spanning_11 : decode cX7_spanning 11 = .ok (.ifCond .eq 5, 3) := by decide +kernel
theorem dX7_spanning_14 : decode cX7_spanning 14 = .ok (.iconst (-1), 1) := by decide +kernel
theorem dX7_spanning_15 : decode cX7_spanning 15 = .ok (.ireturn, 1) := by decide +kernel
theorem dX7_spanning_16 : decode cX7_spanning 16 = .ok (.aload_n 0, 1) := by decide +kernel
theorem dX7_spanning_17 : decode cX7_spanning 17 = .ok (.iload_n 1, 1) := by decide +kernel
theorem dX7_spanning_18 : decode cX7_spanning 18 = .ok (.invokevirtual 278, 3) := by decide +kernel
theorem dX7_spanning_21 : decode cX7_spanning 21 = .ok (.istore_n 2, 1) := by decide +kernel
theorem dX7_spanning_22 : decode cX7_spanning 22 = .ok (.iload_n 2, 1) := by decide +kernel
theorem dX7_spanning_23 : decode cX7_spanning 23 = .ok (.iconst (-1), 1) := by decide +kernel
theorem dX7_spanning_24 : decode cX7_spanning 24 = .ok (.if_icmp .ne 11, 3) := by decide +kernel
theorem dX7_spanning_27 : decode cX7_spanning 27 = .ok (.aload_n 0, 1) := by decide +kernel
theorem dX7_spanning_28 : decode cX7_spanning 28 = .ok (.iconst 1, 1) := by decide +kernel
theorem dX7_spanning_29 : decode cX7_spanning 29 = .ok (.invokevirtual 168, 3) := by decide +kernel
theorem dX7_spanning_32 : decode cX7_spanning 32 = .ok (.goto 4, 3) := by decide +kernel
theorem dX7_spanning_35 : decode cX7_spanning 35 = .ok (.iload_n 2, 1) := by decide +kernel
theorem dX7_spanning_36 : decode cX7_spanning 36 = .ok (.ireturn, 1) := by decide +kernel
theorem dX7_cycle_0 : decode cX7_cycle 0 = .ok (.aload_n 0, 1) := by decide +kernel
theorem dX7_cycle_1 : decode cX7_cycle 1 = .ok (.aload_n 0, 1) := by decide +kernel
theorem dX7_cycle_2 : decode cX7_cycle 2 = .ok (.getfield 179, 3) := by decide +kernel
theorem dX7_cycle_5 : decode cX7_cycle 5 = .ok (.invokestatic 199, 3) := by decide +kernel
theorem dX7_cycle_8 : decode cX7_cycle 8 = .ok (.invokevirtual 159, 3) := by decide +kernel
theorem dX7_cycle_11 : decode cX7_cycle 11 = .ok (.ifCond .eq 5, 3) := by decide +kernel
theorem dX7_cycle_14 : decode cX7_cycle 14 = .ok (.iconst (-1), 1) := by decide +kernel
theorem dX7_cycle_15 : decode cX7_cycle 15 = .ok (.ireturn, 1) := by decide +kernel
theorem dX7_cycle_16 : decode cX7_cycle 16 = .ok (.aload_n 0, 1) := by decide +kernel
theorem dX7_cycle_17 : decode cX7_cycle 17 = .ok (.iload_n 1, 1) := by decide +kernel
theorem dX7_cycle_18 : decode cX7_cycle 18 = .ok (.invokevirtual 278, 3) := by decide +kernel
theorem dX7_cycle_21 : decode cX7_cycle 21 = .ok (.istore_n 2, 1) := by decide +kernel
theorem dX7_cycle_22 : decode cX7_cycle 22 = .ok (.iload_n 2, 1) := by decide +kernel
theorem dX7_cycle_23 : decode cX7_cycle 23 = .ok (.iconst (-1), 1) := by decide +kernel
theorem dX7_cycle_24 : decode cX7_cycle 24 = .ok (.if_icmp .ne 9, 3) := by decide +kernel
theorem dX7_cycle_27 : decode cX7_cycle 27 = .ok (.aload_n 0, 1) := by decide +kernel
theorem dX7_cycle_28 : decode cX7_cycle 28 = .ok (.iconst 1, 1) := by decide +kernel
theorem dX7_cycle_29 : decode cX7_cycle 29 = .ok (.invokevirtual 168, 3) := by decide +kernel
theorem dX7_cycle_32 : decode cX7_cycle 32 = .ok (.ireturn, 1) := by decide +kernel
theorem dX7_cycle_33 : decode cX7_cycle 33 = .ok (.aload_n 0, 1) := by decide +kernel
theorem dX7_cycle_34 : decode cX7_cycle 34 = .ok (.invokevirtual 272, 3) := by decide +kernel
theorem dX7_cycle_37 : decode cX7_cycle 37 = .ok (.aload_n 0, 1) := by decide +kernel
theorem dX7_cycle_38 : decode cX7_cycle 38 = .ok (.getfield 176, 3) := by decide +kernel
theorem dX7_cycle_41 : decode cX7_cycle 41 = .ok (.if_icmp .ge 6, 3) := by decide +kernel
theorem dX7_cycle_44 : decode cX7_cycle 44 = .ok (.bipush (-2), 2) := by decide +kernel
theorem dX7_cycle_46 : decode cX7_cycle 46 = .ok (.ireturn, 1) := by decide +kernel
theorem dX7_cycle_47 : decode cX7_cycle 47 = .ok (.iconst 0, 1) := by decide +kernel
theorem dX7_cycle_48 : decode cX7_cycle 48 = .ok (.istore_n 3, 1) := by decide +kernel
theorem dX7_cycle_49 : decode cX7_cycle 49 = .ok (.iconst 0, 1) := by decide +kernel
theorem dX7_cycle_50 : decode cX7_cycle 50 = .ok (.istore 4, 2) := by decide +kernel
theorem dX7_cycle_52 : decode cX7_cycle 52 = .ok (.iload 4, 2) := by decide +kernel
theorem dX7_cycle_54 : decode cX7_cycle 54 = .ok (.aload_n 0, 1) := by decide +kernel
theorem dX7_cycle_55 : decode cX7_cycle 55 = .ok (.getfield 176, 3) := by decide +kernel
theorem dX7_cycle_58 : decode cX7_cycle 58 = .ok (.if_icmp .ge 34, 3) := by decide +kernel
theorem dX7_cycle_61 : decode cX7_cycle 61 = .ok (.iload_n 3, 1) := by decide +kernel
theorem dX7_cycle_62 : decode cX7_cycle 62 = .ok (.aload_n 0, 1) := by decide +kernel
theorem dX7_cycle_63 : decode cX7_cycle 63 = .ok (.iload 4, 2) := by decide +kernel
theorem dX7_cycle_65 : decode cX7_cycle 65 = .ok (.invokevirtual 275, 3) := by decide +kernel
theorem dX7_cycle_68 : decode cX7_cycle 68 = .ok (.ifCond .eq 7, 3) := by decide +kernel
theorem dX7_cycle_71 : decode cX7_cycle 71 = .ok (.iconst 0, 1) := by decide +kernel
theorem dX7_cycle_72 : decode cX7_cycle 72 = .ok (.goto 12, 3) := by decide +kernel
theorem dX7_cycle_75 : decode cX7_cycle 75 = .ok (.iconst 1, 1) := by decide +kernel
theorem dX7_cycle_76 : decode cX7_cycle 76 = .ok (.aload_n 0, 1) := by decide +kernel
theorem dX7_cycle_77 : decode cX7_cycle 77 = .ok (.getfield 20, 3) := by decide +kernel
theorem dX7_cycle_80 : decode cX7_cycle 80 = .ok (.iload 4, 2) := by decide +kernel
theorem dX7_cycle_82 : decode cX7_cycle 82 = .ok (.iaload, 1) := by decide +kernel
theorem dX7_cycle_83 : decode cX7_cycle 83 = .ok (.ishl, 1) := by decide +kernel
theorem dX7_cycle_84 : decode cX7_cycle 84 = .ok (.ior, 1) := by decide +kernel
theorem dX7_cycle_85 : decode cX7_cycle 85 = .ok (.istore_n 3, 1) := by decide +kernel
theorem dX7_cycle_86 : decode cX7_cycle 86 = .ok (.iinc 4 1, 3) := by decide +kernel
theorem dX7_cycle_89 : decode cX7_cycle 89 = .ok (.goto (-37), 3) := by decide +kernel
theorem dX7_cycle_92 : decode cX7_cycle 92 = .ok (.aload_n 0, 1) := by decide +kernel
theorem dX7_cycle_93 : decode cX7_cycle 93 = .ok (.aload_n 0, 1) := by decide +kernel
theorem dX7_cycle_94 : decode cX7_cycle 94 = .ok (.getfield 20, 3) := by decide +kernel
theorem dX7_cycle_97 : decode cX7_cycle 97 = .ok (.iload_n 2, 1) := by decide +kernel
theorem dX7_cycle_98 : decode cX7_cycle 98 = .ok (.iaload, 1) := by decide +kernel
theorem dX7_cycle_99 : decode cX7_cycle 99 = .ok (.iload_n 3, 1) := by decide +kernel
theorem dX7_cycle_100 : decode cX7_cycle 100 = .ok (.invokevirtual 281, 3) := by decide +kernel
theorem dX7_cycle_103 : decode cX7_cycle 103 = .ok (.ireturn, 1) := by decide +kernel
theorem dX7_solves_0 : decode cX7_solves 0 = .ok (.aload_n 0, 1) := by decide +kernel
theorem dX7_solves_1 : decode cX7_solves 1 = .ok (.invokevirtual 203, 3) := by decide +kernel
theorem dX7_solves_4 : decode cX7_solves 4 = .ok (.iconst 0, 1) := by decide +kernel
theorem dX7_solves_5 : decode cX7_solves 5 = .ok (.istore_n 3, 1) := by decide +kernel
theorem dX7_solves_6 : decode cX7_solves 6 = .ok (.iconst 0, 1) := by decide +kernel
theorem dX7_solves_7 : decode cX7_solves 7 = .ok (.istore 4, 2) := by decide +kernel
theorem dX7_solves_9 : decode cX7_solves 9 = .ok (.iload 4, 2) := by decide +kernel
theorem dX7_solves_11 : decode cX7_solves 11 = .ok (.sipush 128, 3) := by decide +kernel
theorem dX7_solves_14 : decode cX7_solves 14 = .ok (.if_icmp .ge 54, 3) := by decide +kernel
theorem dX7_solves_17 : decode cX7_solves 17 = .ok (.aload_n 0, 1) := by decide +kernel
theorem dX7_solves_18 : decode cX7_solves 18 = .ok (.getfield 26, 3) := by decide +kernel
theorem dX7_solves_21 : decode cX7_solves 21 = .ok (.iload 4, 2) := by decide +kernel
theorem dX7_solves_23 : decode cX7_solves 23 = .ok (.baload, 1) := by decide +kernel
theorem dX7_solves_24 : decode cX7_solves 24 = .ok (.ifCond .eq 38, 3) := by decide +kernel
theorem dX7_solves_27 : decode cX7_solves 27 = .ok (.iload 4, 2) := by decide +kernel
theorem dX7_solves_29 : decode cX7_solves 29 = .ok (.invokestatic 136, 3) := by decide +kernel
theorem dX7_solves_32 : decode cX7_solves 32 = .ok (.aload_n 0, 1) := by decide +kernel
theorem dX7_solves_33 : decode cX7_solves 33 = .ok (.getfield 173, 3) := by decide +kernel
theorem dX7_solves_36 : decode cX7_solves 36 = .ok (.iconst 1, 1) := by decide +kernel
theorem dX7_solves_37 : decode cX7_solves 37 = .ok (.isub, 1) := by decide +kernel
theorem dX7_solves_38 : decode cX7_solves 38 = .ok (.if_icmp .ne 24, 3) := by decide +kernel
theorem dX7_solves_41 : decode cX7_solves 41 = .ok (.aload_n 0, 1) := by decide +kernel
theorem dX7_solves_42 : decode cX7_solves 42 = .ok (.getfield 40, 3) := by decide +kernel
theorem dX7_solves_45 : decode cX7_solves 45 = .ok (.iload_n 3, 1) := by decide +kernel
theorem dX7_solves_46 : decode cX7_solves 46 = .ok (.aload_n 0, 1) := by decide +kernel
theorem dX7_solves_47 : decode cX7_solves 47 = .ok (.iload 4, 2) := by decide +kernel
theorem dX7_solves_49 : decode cX7_solves 49 = .ok (.invokevirtual 237, 3) := by decide +kernel
theorem dX7_solves_52 : decode cX7_solves 52 = .ok (.iload_n 2, 1) := by decide +kernel
theorem dX7_solves_53 : decode cX7_solves 53 = .ok (.iconst 1, 1) := by decide +kernel
theorem dX7_solves_54 : decode cX7_solves 54 = .ok (.iload_n 1, 1) := by decide +kernel
theorem dX7_solves_55 : decode cX7_solves 55 = .ok (.ishl, 1) := by decide +kernel
theorem dX7_solves_56 : decode cX7_solves 56 = .ok (.ior, 1) := by decide +kernel
theorem dX7_solves_57 : decode cX7_solves 57 = .ok (.iand, 1) := by decide +kernel
theorem dX7_solves_58 : decode cX7_solves 58 = .ok (.iastore, 1) := by decide +kernel
theorem dX7_solves_59 : decode cX7_solves 59 = .ok (.iinc 3 1, 3) := by decide +kernel
theorem dX7_solves_62 : decode cX7_solves 62 = .ok (.iinc 4 1, 3) := by decide +kernel
theorem dX7_solves_65 : decode cX7_solves 65 = .ok (.goto (-56), 3) := by decide +kernel
theorem dX7_solves_68 : decode cX7_solves 68 = .ok (.iconst 1, 1) := by decide +kernel
theorem dX7_solves_69 : decode cX7_solves 69 = .ok (.iload_n 1, 1) := by decide +kernel
theorem dX7_solves_70 : decode cX7_solves 70 = .ok (.ishl, 1) := by decide +kernel
theorem dX7_solves_71 : decode cX7_solves 71 = .ok (.istore 4, 2) := by decide +kernel
theorem dX7_solves_73 : decode cX7_solves 73 = .ok (.iconst 0, 1) := by decide +kernel
theorem dX7_solves_74 : decode cX7_solves 74 = .ok (.istore 5, 2) := by decide +kernel
theorem dX7_solves_76 : decode cX7_solves 76 = .ok (.iload 5, 2) := by decide +kernel
theorem dX7_solves_78 : decode cX7_solves 78 = .ok (.aload_n 0, 1) := by decide +kernel
theorem dX7_solves_79 : decode cX7_solves 79 = .ok (.getfield 176, 3) := by decide +kernel
theorem dX7_solves_82 : decode cX7_solves 82 = .ok (.if_icmp .ge 149, 3) := by decide +kernel
theorem dX7_solves_85 : decode cX7_solves 85 = .ok (.iconst (-1), 1) := by decide +kernel
theorem dX7_solves_86 : decode cX7_solves 86 = .ok (.istore 6, 2) := by decide +kernel
theorem dX7_solves_88 : decode cX7_solves 88 = .ok (.iconst 0, 1) := by decide +kernel
theorem dX7_solves_89 : decode cX7_solves 89 = .ok (.istore 7, 2) := by decide +kernel
theorem dX7_solves_91 : decode cX7_solves 91 = .ok (.iload 7, 2) := by decide +kernel
theorem dX7_solves_93 : decode cX7_solves 93 = .ok (.iload_n 3, 1) := by decide +kernel
theorem dX7_solves_94 : decode cX7_solves 94 = .ok (.if_icmp .ge 67, 3) := by decide +kernel
theorem dX7_solves_97 : decode cX7_solves 97 = .ok (.iload_n 2, 1) := by decide +kernel
theorem dX7_solves_98 : decode cX7_solves 98 = .ok (.iload 5, 2) := by decide +kernel
theorem dX7_solves_100 : decode cX7_solves 100 = .ok (.invokestatic 132, 3) := by decide +kernel
theorem dX7_solves_103 : decode cX7_solves 103 = .ok (.ifCond .eq 58, 3) := by decide +kernel
theorem dX7_solves_106 : decode cX7_solves 106 = .ok (.iload 6, 2) := by decide +kernel
theorem dX7_solves_108 : decode cX7_solves 108 = .ok (.iconst (-1), 1) := by decide +kernel
theorem dX7_solves_109 : decode cX7_solves 109 = .ok (.if_icmp .ne 52, 3) := by decide +kernel
theorem dX7_solves_112 : decode cX7_solves 112 = .ok (.aload_n 0, 1) := by decide +kernel
theorem dX7_solves_113 : decode cX7_solves 113 = .ok (.getfield 40, 3) := by decide +kernel
theorem dX7_solves_116 : decode cX7_solves 116 = .ok (.iload 7, 2) := by decide +kernel
theorem dX7_solves_118 : decode cX7_solves 118 = .ok (.iaload, 1) := by decide +kernel
theorem dX7_solves_119 : decode cX7_solves 119 = .ok (.iload 5, 2) := by decide +kernel
theorem dX7_solves_121 : decode cX7_solves 121 = .ok (.invokestatic 132, 3) := by decide +kernel
theorem dX7_solves_124 : decode cX7_solves 124 = .ok (.ifCond .eq 27, 3) := by decide +kernel
theorem dX7_solves_127 : decode cX7_solves 127 = .ok (.aload_n 0, 1) := by decide +kernel
theorem dX7_solves_128 : decode cX7_solves 128 = .ok (.getfield 40, 3) := by decide +kernel
theorem dX7_solves_131 : decode cX7_solves 131 = .ok (.iload 7, 2) := by decide +kernel
theorem dX7_solves_133 : decode cX7_solves 133 = .ok (.iaload, 1) := by decide +kernel
theorem dX7_solves_134 : decode cX7_solves 134 = .ok (.iload_n 2, 1) := by decide +kernel
theorem dX7_solves_135 : decode cX7_solves 135 = .ok (.iand, 1) := by decide +kernel
theorem dX7_solves_136 : decode cX7_solves 136 = .ok (.iconst 1, 1) := by decide +kernel
theorem dX7_solves_137 : decode cX7_solves 137 = .ok (.iload 5, 2) := by decide +kernel
theorem dX7_solves_139 : decode cX7_solves 139 = .ok (.ishl, 1) := by decide +kernel
theorem dX7_solves_140 : decode cX7_solves 140 = .ok (.iconst 1, 1) := by decide +kernel
theorem dX7_solves_141 : decode cX7_solves 141 = .ok (.isub, 1) := by decide +kernel
theorem dX7_solves_142 : decode cX7_solves 142 = .ok (.iand, 1) := by decide +kernel
theorem dX7_solves_143 : decode cX7_solves 143 = .ok (.ifCond .ne 8, 3) := by decide +kernel
theorem dX7_solves_146 : decode cX7_solves 146 = .ok (.iload 7, 2) := by decide +kernel
theorem dX7_solves_148 : decode cX7_solves 148 = .ok (.goto 5, 3) := by decide +kernel
theorem dX7_solves_151 : decode cX7_solves 151 = .ok (.iload 6, 2) := by decide +kernel
theorem dX7_solves_153 : decode cX7_solves 153 = .ok (.istore 6, 2) := by decide +kernel
theorem dX7_solves_155 : decode cX7_solves 155 = .ok (.iinc 7 1, 3) := by decide +kernel
theorem dX7_solves_158 : decode cX7_solves 158 = .ok (.goto (-67), 3) := by decide +kernel
theorem dX7_solves_161 : decode cX7_solves 161 = .ok (.iconst 0, 1) := by decide +kernel
theorem dX7_solves_162 : decode cX7_solves 162 = .ok (.istore 7, 2) := by decide +kernel
theorem dX7_solves_164 : decode cX7_solves 164 = .ok (.iload 7, 2) := by decide +kernel
theorem dX7_solves_166 : decode cX7_solves 166 = .ok (.iload_n 3, 1) := by decide +kernel
theorem dX7_solves_167 : decode cX7_solves 167 = .ok (.if_icmp .ge 58, 3) := by decide +kernel
theorem dX7_solves_170 : decode cX7_solves 170 = .ok (.iload 6, 2) := by decide +kernel
theorem dX7_solves_172 : decode cX7_solves 172 = .ok (.iconst (-1), 1) := by decide +kernel
theorem dX7_solves_173 : decode cX7_solves 173 = .ok (.if_icmp .eq 52, 3) := by decide +kernel
theorem dX7_solves_176 : decode cX7_solves 176 = .ok (.aload_n 0, 1) := by decide +kernel
theorem dX7_solves_177 : decode cX7_solves 177 = .ok (.getfield 40, 3) := by decide +kernel
theorem dX7_solves_180 : decode cX7_solves 180 = .ok (.iload 7, 2) := by decide +kernel
theorem dX7_solves_182 : decode cX7_solves 182 = .ok (.dup2, 1) := by decide +kernel
theorem dX7_solves_183 : decode cX7_solves 183 = .ok (.iaload, 1) := by decide +kernel
theorem dX7_solves_184 : decode cX7_solves 184 = .ok (.iload 7, 2) := by decide +kernel
theorem dX7_solves_186 : decode cX7_solves 186 = .ok (.iload 6, 2) := by decide +kernel
theorem dX7_solves_188 : decode cX7_solves 188 = .ok (.if_icmp .eq 28, 3) := by decide +kernel
theorem dX7_solves_191 : decode cX7_solves 191 = .ok (.aload_n 0, 1) := by decide +kernel
theorem dX7_solves_192 : decode cX7_solves 192 = .ok (.getfield 40, 3) := by decide +kernel
theorem dX7_solves_195 : decode cX7_solves 195 = .ok (.iload 7, 2) := by decide +kernel
theorem dX7_solves_197 : decode cX7_solves 197 = .ok (.iaload, 1) := by decide +kernel
theorem dX7_solves_198 : decode cX7_solves 198 = .ok (.iload 5, 2) := by decide +kernel
theorem dX7_solves_200 : decode cX7_solves 200 = .ok (.invokestatic 132, 3) := by decide +kernel
theorem dX7_solves_203 : decode cX7_solves 203 = .ok (.ifCond .eq 13, 3) := by decide +kernel
theorem dX7_solves_206 : decode cX7_solves 206 = .ok (.aload_n 0, 1) := by decide +kernel
theorem dX7_solves_207 : decode cX7_solves 207 = .ok (.getfield 40, 3) := by decide +kernel
theorem dX7_solves_210 : decode cX7_solves 210 = .ok (.iload 6, 2) := by decide +kernel
theorem dX7_solves_212 : decode cX7_solves 212 = .ok (.iaload, 1) := by decide +kernel
theorem dX7_solves_213 : decode cX7_solves 213 = .ok (.goto 4, 3) := by decide +kernel
theorem dX7_solves_216 : decode cX7_solves 216 = .ok (.iconst 0, 1) := by decide +kernel
theorem dX7_solves_217 : decode cX7_solves 217 = .ok (.ixor, 1) := by decide +kernel
theorem dX7_solves_218 : decode cX7_solves 218 = .ok (.iastore, 1) := by decide +kernel
theorem dX7_solves_219 : decode cX7_solves 219 = .ok (.iinc 7 1, 3) := by decide +kernel
theorem dX7_solves_222 : decode cX7_solves 222 = .ok (.goto (-58), 3) := by decide +kernel
theorem dX7_solves_225 : decode cX7_solves 225 = .ok (.iinc 5 1, 3) := by decide +kernel
theorem dX7_solves_228 : decode cX7_solves 228 = .ok (.goto (-152), 3) := by decide +kernel
theorem dX7_solves_231 : decode cX7_solves 231 = .ok (.iconst 0, 1) := by decide +kernel
theorem dX7_solves_232 : decode cX7_solves 232 = .ok (.istore 5, 2) := by decide +kernel
theorem dX7_solves_234 : decode cX7_solves 234 = .ok (.iload 5, 2) := by decide +kernel
theorem dX7_solves_236 : decode cX7_solves 236 = .ok (.aload_n 0, 1) := by decide +kernel
theorem dX7_solves_237 : decode cX7_solves 237 = .ok (.getfield 176, 3) := by decide +kernel
theorem dX7_solves_240 : decode cX7_solves 240 = .ok (.if_icmp .ge 88, 3) := by decide +kernel
theorem dX7_solves_243 : decode cX7_solves 243 = .ok (.iconst 0, 1) := by decide +kernel
theorem dX7_solves_244 : decode cX7_solves 244 = .ok (.istore 6, 2) := by decide +kernel
theorem dX7_solves_246 : decode cX7_solves 246 = .ok (.iload 6, 2) := by decide +kernel
theorem dX7_solves_248 : decode cX7_solves 248 = .ok (.iload_n 3, 1) := by decide +kernel
theorem dX7_solves_249 : decode cX7_solves 249 = .ok (.if_icmp .ge 73, 3) := by decide +kernel
theorem dX7_solves_252 : decode cX7_solves 252 = .ok (.iload_n 2, 1) := by decide +kernel
theorem dX7_solves_253 : decode cX7_solves 253 = .ok (.iload 5, 2) := by decide +kernel
theorem dX7_solves_255 : decode cX7_solves 255 = .ok (.invokestatic 132, 3) := by decide +kernel
theorem dX7_solves_258 : decode cX7_solves 258 = .ok (.ifCond .eq 23, 3) := by decide +kernel
theorem dX7_solves_261 : decode cX7_solves 261 = .ok (.aload_n 0, 1) := by decide +kernel
theorem dX7_solves_262 : decode cX7_solves 262 = .ok (.getfield 40, 3) := by decide +kernel
theorem dX7_solves_265 : decode cX7_solves 265 = .ok (.iload 6, 2) := by decide +kernel
theorem dX7_solves_267 : decode cX7_solves 267 = .ok (.iaload, 1) := by decide +kernel
theorem dX7_solves_268 : decode cX7_solves 268 = .ok (.iload_n 2, 1) := by decide +kernel
theorem dX7_solves_269 : decode cX7_solves 269 = .ok (.iand, 1) := by decide +kernel
theorem dX7_solves_270 : decode cX7_solves 270 = .ok (.iconst 1, 1) := by decide +kernel
theorem dX7_solves_271 : decode cX7_solves 271 = .ok (.iload 5, 2) := by decide +kernel
theorem dX7_solves_273 : decode cX7_solves 273 = .ok (.ishl, 1) := by decide +kernel
theorem dX7_solves_274 : decode cX7_solves 274 = .ok (.if_icmp .ne 7, 3) := by decide +kernel
theorem dX7_solves_277 : decode cX7_solves 277 = .ok (.iconst 1, 1) := by decide +kernel
theorem dX7_solves_278 : decode cX7_solves 278 = .ok (.goto 4, 3) := by decide +kernel
theorem dX7_solves_281 : decode cX7_solves 281 = .ok (.iconst 0, 1) := by decide +kernel
theorem dX7_solves_282 : decode cX7_solves 282 = .ok (.istore 7, 2) := by decide +kernel
theorem dX7_solves_284 : decode cX7_solves 284 = .ok (.iload 4, 2) := by decide +kernel
theorem dX7_solves_286 : decode cX7_solves 286 = .ok (.iload 7, 2) := by decide +kernel
theorem dX7_solves_288 : decode cX7_solves 288 = .ok (.ifCond .eq 24, 3) := by decide +kernel
theorem dX7_solves_291 : decode cX7_solves 291 = .ok (.aload_n 0, 1) := by decide +kernel
theorem dX7_solves_292 : decode cX7_solves 292 = .ok (.getfield 40, 3) := by decide +kernel
theorem dX7_solves_295 : decode cX7_solves 295 = .ok (.iload 6, 2) := by decide +kernel
theorem dX7_solves_297 : decode cX7_solves 297 = .ok (.iaload, 1) := by decide +kernel
theorem dX7_solves_298 : decode cX7_solves 298 = .ok (.iload_n 1, 1) := by decide +kernel
theorem dX7_solves_299 : decode cX7_solves 299 = .ok (.invokestatic 132, 3) := by decide +kernel
theorem dX7_solves_302 : decode cX7_solves 302 = .ok (.ifCond .eq 10, 3) := by decide +kernel
theorem dX7_solves_305 : decode cX7_solves 305 = .ok (.iconst 1, 1) := by decide +kernel
theorem dX7_solves_306 : decode cX7_solves 306 = .ok (.iload 5, 2) := by decide +kernel
theorem dX7_solves_308 : decode cX7_solves 308 = .ok (.ishl, 1) := by decide +kernel
theorem dX7_solves_309 : decode cX7_solves 309 = .ok (.goto 4, 3) := by decide +kernel
theorem dX7_solves_312 : decode cX7_solves 312 = .ok (.iconst 0, 1) := by decide +kernel
theorem dX7_solves_313 : decode cX7_solves 313 = .ok (.ior, 1) := by decide +kernel
theorem dX7_solves_314 : decode cX7_solves 314 = .ok (.istore 4, 2) := by decide +kernel
theorem dX7_solves_316 : decode cX7_solves 316 = .ok (.iinc 6 1, 3) := by decide +kernel
theorem dX7_solves_319 : decode cX7_solves 319 = .ok (.goto (-73), 3) := by decide +kernel
theorem dX7_solves_322 : decode cX7_solves 322 = .ok (.iinc 5 1, 3) := by decide +kernel
theorem dX7_solves_325 : decode cX7_solves 325 = .ok (.goto (-91), 3) := by decide +kernel
theorem dX7_solves_328 : decode cX7_solves 328 = .ok (.iload 4, 2) := by decide +kernel
theorem dX7_solves_330 : decode cX7_solves 330 = .ok (.ireturn, 1) := by decide +kernel
theorem dX7_mean_0 : decode cX7_mean 0 = .ok (.aload_n 0, 1) := by decide +kernel
theorem dX7_mean_1 : decode cX7_mean 1 = .ok (.aload_n 0, 1) := by decide +kernel
theorem dX7_mean_2 : decode cX7_mean 2 = .ok (.getfield 179, 3) := by decide +kernel
theorem dX7_mean_5 : decode cX7_mean 5 = .ok (.invokestatic 199, 3) := by decide +kernel
theorem dX7_mean_8 : decode cX7_mean 8 = .ok (.invokevirtual 159, 3) := by decide +kernel
theorem dX7_mean_11 : decode cX7_mean 11 = .ok (.ifCond .eq 7, 3) := by decide +kernel
theorem dX7_mean_14 : decode cX7_mean 14 = .ok (.ldc2_w 284, 3) := by decide +kernel
theorem dX7_mean_17 : decode cX7_mean 17 = .ok (.dreturn, 1) := by decide +kernel
theorem dX7_mean_18 : decode cX7_mean 18 = .ok (.iconst 0, 1) := by decide +kernel
theorem dX7_mean_19 : decode cX7_mean 19 = .ok (.istore_n 1, 1) := by decide +kernel
theorem dX7_mean_20 : decode cX7_mean 20 = .ok (.iconst 0, 1) := by decide +kernel
theorem dX7_mean_21 : decode cX7_mean 21 = .ok (.istore_n 2, 1) := by decide +kernel
theorem dX7_mean_22 : decode cX7_mean 22 = .ok (.iload_n 2, 1) := by decide +kernel
theorem dX7_mean_23 : decode cX7_mean 23 = .ok (.aload_n 0, 1) := by decide +kernel
theorem dX7_mean_24 : decode cX7_mean 24 = .ok (.getfield 176, 3) := by decide +kernel
theorem dX7_mean_27 : decode cX7_mean 27 = .ok (.if_icmp .ge 20, 3) := by decide +kernel
theorem dX7_mean_30 : decode cX7_mean 30 = .ok (.iload_n 1, 1) := by decide +kernel
theorem dX7_mean_31 : decode cX7_mean 31 = .ok (.aload_n 0, 1) := by decide +kernel
theorem dX7_mean_32 : decode cX7_mean 32 = .ok (.iload_n 2, 1) := by decide +kernel
theorem dX7_mean_33 : decode cX7_mean 33 = .ok (.invokevirtual 269, 3) := by decide +kernel
theorem dX7_mean_36 : decode cX7_mean 36 = .ok (.invokestatic 136, 3) := by decide +kernel
theorem dX7_mean_39 : decode cX7_mean 39 = .ok (.iadd, 1) := by decide +kernel
theorem dX7_mean_40 : decode cX7_mean 40 = .ok (.istore_n 1, 1) := by decide +kernel
theorem dX7_mean_41 : decode cX7_mean 41 = .ok (.iinc 2 1, 3) := by decide +kernel
theorem dX7_mean_44 : decode cX7_mean 44 = .ok (.goto (-22), 3) := by decide +kernel
theorem dX7_mean_47 : decode cX7_mean 47 = .ok (.iload_n 1, 1) := by decide +kernel
theorem dX7_mean_48 : decode cX7_mean 48 = .ok (.i2d, 1) := by decide +kernel
theorem dX7_mean_49 : decode cX7_mean 49 = .ok (.aload_n 0, 1) := by decide +kernel
theorem dX7_mean_50 : decode cX7_mean 50 = .ok (.getfield 176, 3) := by decide +kernel
theorem dX7_mean_53 : decode cX7_mean 53 = .ok (.i2d, 1) := by decide +kernel
theorem dX7_mean_54 : decode cX7_mean 54 = .ok (.ddiv, 1) := by decide +kernel
theorem dX7_mean_55 : decode cX7_mean 55 = .ok (.dreturn, 1) := by decide +kernel
theorem dX7_cellOf_0 : decode cX7_cellOf 0 = .ok (.iconst 0, 1) := by decide +kernel
theorem dX7_cellOf_1 : decode cX7_cellOf 1 = .ok (.istore_n 2, 1) := by decide +kernel
theorem dX7_cellOf_2 : decode cX7_cellOf 2 = .ok (.iload_n 2, 1) := by decide +kernel
theorem dX7_cellOf_3 : decode cX7_cellOf 3 = .ok (.aload_n 0, 1) := by decide +kernel
theorem dX7_cellOf_4 : decode cX7_cellOf 4 = .ok (.getfield 176, 3) := by decide +kernel
theorem dX7_cellOf_7 : decode cX7_cellOf 7 = .ok (.if_icmp .ge 29, 3) := by decide +kernel
theorem dX7_cellOf_10 : decode cX7_cellOf 10 = .ok (.iload_n 1, 1) := by decide +kernel
theorem dX7_cellOf_11 : decode cX7_cellOf 11 = .ok (.aload_n 0, 1) := by decide +kernel
theorem dX7_cellOf_12 : decode cX7_cellOf 12 = .ok (.getfield 17, 3) := by decide +kernel
theorem dX7_cellOf_15 : decode cX7_cellOf 15 = .ok (.aload_n 0, 1) := by decide +kernel
theorem dX7_cellOf_16 : decode cX7_cellOf 16 = .ok (.getfield 20, 3) := by decide +kernel
theorem dX7_cellOf_19 : decode cX7_cellOf 19 = .ok (.iload_n 2, 1) := by decide +kernel
theorem dX7_cellOf_20 : decode cX7_cellOf 20 = .ok (.iaload, 1) := by decide +kernel
theorem dX7_cellOf_21 : decode cX7_cellOf 21 = .ok (.iaload, 1) := by decide +kernel
theorem dX7_cellOf_22 : decode cX7_cellOf 22 = .ok (.invokestatic 183, 3) := by decide +kernel
theorem dX7_cellOf_25 : decode cX7_cellOf 25 = .ok (.ifCond .eq 5, 3) := by decide +kernel
theorem dX7_cellOf_28 : decode cX7_cellOf 28 = .ok (.iload_n 2, 1) := by decide +kernel
theorem dX7_cellOf_29 : decode cX7_cellOf 29 = .ok (.ireturn, 1) := by decide +kernel
theorem dX7_cellOf_30 : decode cX7_cellOf 30 = .ok (.iinc 2 1, 3) := by decide +kernel
theorem dX7_cellOf_33 : decode cX7_cellOf 33 = .ok (.goto (-31), 3) := by decide +kernel
theorem dX7_cellOf_36 : decode cX7_cellOf 36 = .ok (.bipush (-2), 2) := by decide +kernel
theorem dX7_cellOf_38 : decode cX7_cellOf 38 = .ok (.ireturn, 1) := by decide +kernel
theorem dX7_cell_0 : decode cX7_cell 0 = .ok (.aload_n 0, 1) := by decide +kernel
theorem dX7_cell_1 : decode cX7_cell 1 = .ok (.aload_n 0, 1) := by decide +kernel
theorem dX7_cell_2 : decode cX7_cell 2 = .ok (.getfield 179, 3) := by decide +kernel
theorem dX7_cell_5 : decode cX7_cell 5 = .ok (.aload_n 0, 1) := by decide +kernel
theorem dX7_cell_6 : decode cX7_cell 6 = .ok (.iload_n 1, 1) := by decide +kernel
theorem dX7_cell_7 : decode cX7_cell 7 = .ok (.invokevirtual 234, 3) := by decide +kernel
theorem dX7_cell_10 : decode cX7_cell 10 = .ok (.invokestatic 206, 3) := by decide +kernel
theorem dX7_cell_13 : decode cX7_cell 13 = .ok (.invokevirtual 159, 3) := by decide +kernel
theorem dX7_cell_16 : decode cX7_cell 16 = .ok (.ifCond .eq 7, 3) := by decide +kernel
theorem dX7_cell_19 : decode cX7_cell 19 = .ok (.iconst (-1), 1) := by decide +kernel
theorem dX7_cell_20 : decode cX7_cell 20 = .ok (.goto 8, 3) := by decide +kernel
theorem dX7_cell_23 : decode cX7_cell 23 = .ok (.aload_n 0, 1) := by decide +kernel
theorem dX7_cell_24 : decode cX7_cell 24 = .ok (.iload_n 1, 1) := by decide +kernel
theorem dX7_cell_25 : decode cX7_cell 25 = .ok (.invokevirtual 286, 3) := by decide +kernel
theorem dX7_cell_28 : decode cX7_cell 28 = .ok (.ireturn, 1) := by decide +kernel
theorem dX7_fresh_0 : decode cX7_fresh 0 = .ok (.aload_n 0, 1) := by decide +kernel
theorem dX7_fresh_1 : decode cX7_fresh 1 = .ok (.aload_n 0, 1) := by decide +kernel
theorem dX7_fresh_2 : decode cX7_fresh 2 = .ok (.iload_n 1, 1) := by decide +kernel
theorem dX7_fresh_3 : decode cX7_fresh 3 = .ok (.invokevirtual 231, 3) := by decide +kernel
theorem dX7_fresh_6 : decode cX7_fresh 6 = .ok (.invokestatic 199, 3) := by decide +kernel
theorem dX7_fresh_9 : decode cX7_fresh 9 = .ok (.invokevirtual 159, 3) := by decide +kernel
theorem dX7_fresh_12 : decode cX7_fresh 12 = .ok (.ifCond .eq 5, 3) := by decide +kernel
theorem dX7_fresh_15 : decode cX7_fresh 15 = .ok (.iconst (-1), 1) := by decide +kernel
theorem dX7_fresh_16 : decode cX7_fresh 16 = .ok (.ireturn, 1) := by decide +kernel
theorem dX7_fresh_17 : decode cX7_fresh 17 = .ok (.iconst 0, 1) := by decide +kernel
theorem dX7_fresh_18 : decode cX7_fresh 18 = .ok (.istore_n 2, 1) := by decide +kernel
theorem dX7_fresh_19 : decode cX7_fresh 19 = .ok (.iconst 0, 1) := by decide +kernel
theorem dX7_fresh_20 : decode cX7_fresh 20 = .ok (.istore_n 3, 1) := by decide +kernel
theorem dX7_fresh_21 : decode cX7_fresh 21 = .ok (.iload_n 3, 1) := by decide +kernel
theorem dX7_fresh_22 : decode cX7_fresh 22 = .ok (.aload_n 0, 1) := by decide +kernel
theorem dX7_fresh_23 : decode cX7_fresh 23 = .ok (.invokevirtual 212, 3) := by decide +kernel
theorem dX7_fresh_26 : decode cX7_fresh 26 = .ok (.if_icmp .gt 26, 3) := by decide +kernel
theorem dX7_fresh_29 : decode cX7_fresh 29 = .ok (.iload_n 2, 1) := by decide +kernel
theorem dX7_fresh_30 : decode cX7_fresh 30 = .ok (.aload_n 0, 1) := by decide +kernel
theorem dX7_fresh_31 : decode cX7_fresh 31 = .ok (.iload_n 3, 1) := by decide +kernel
theorem dX7_fresh_32 : decode cX7_fresh 32 = .ok (.invokevirtual 286, 3) := by decide +kernel
theorem dX7_fresh_35 : decode cX7_fresh 35 = .ok (.iload_n 1, 1) := by decide +kernel
theorem dX7_fresh_36 : decode cX7_fresh 36 = .ok (.if_icmp .ne 7, 3) := by decide +kernel
theorem dX7_fresh_39 : decode cX7_fresh 39 = .ok (.iconst 1, 1) := by decide +kernel
theorem dX7_fresh_40 : decode cX7_fresh 40 = .ok (.goto 4, 3) := by decide +kernel
theorem dX7_fresh_43 : decode cX7_fresh 43 = .ok (.iconst 0, 1) := by decide +kernel
theorem dX7_fresh_44 : decode cX7_fresh 44 = .ok (.iadd, 1) := by decide +kernel
theorem dX7_fresh_45 : decode cX7_fresh 45 = .ok (.istore_n 2, 1) := by decide +kernel
theorem dX7_fresh_46 : decode cX7_fresh 46 = .ok (.iinc 3 1, 3) := by decide +kernel
theorem dX7_fresh_49 : decode cX7_fresh 49 = .ok (.goto (-28), 3) := by decide +kernel
theorem dX7_fresh_52 : decode cX7_fresh 52 = .ok (.iload_n 2, 1) := by decide +kernel
theorem dX7_fresh_53 : decode cX7_fresh 53 = .ok (.ireturn, 1) := by decide +kernel
theorem dX7_betweenOf_0 : decode cX7_betweenOf 0 = .ok (.iconst 0, 1) := by decide +kernel
theorem dX7_betweenOf_1 : decode cX7_betweenOf 1 = .ok (.istore_n 2, 1) := by decide +kernel
theorem dX7_betweenOf_2 : decode cX7_betweenOf 2 = .ok (.iconst 0, 1) := by decide +kernel
theorem dX7_betweenOf_3 : decode cX7_betweenOf 3 = .ok (.istore_n 3, 1) := by decide +kernel
theorem dX7_betweenOf_4 : decode cX7_betweenOf 4 = .ok (.iload_n 3, 1) := by decide +kernel
theorem dX7_betweenOf_5 : decode cX7_betweenOf 5 = .ok (.aload_n 0, 1) := by decide +kernel
theorem dX7_betweenOf_6 : decode cX7_betweenOf 6 = .ok (.getfield 176, 3) := by decide +kernel
theorem dX7_betweenOf_9 : decode cX7_betweenOf 9 = .ok (.if_icmp .ge 47, 3) := by decide +kernel
theorem dX7_betweenOf_12 : decode cX7_betweenOf 12 = .ok (.iload_n 2, 1) := by decide +kernel
theorem dX7_betweenOf_13 : decode cX7_betweenOf 13 = .ok (.iload_n 1, 1) := by decide +kernel
theorem dX7_betweenOf_14 : decode cX7_betweenOf 14 = .ok (.aload_n 0, 1) := by decide +kernel
theorem dX7_betweenOf_15 : decode cX7_betweenOf 15 = .ok (.getfield 17, 3) := by decide +kernel
theorem dX7_betweenOf_18 : decode cX7_betweenOf 18 = .ok (.aload_n 0, 1) := by decide +kernel
theorem dX7_betweenOf_19 : decode cX7_betweenOf 19 = .ok (.getfield 20, 3) := by decide +kernel
theorem dX7_betweenOf_22 : decode cX7_betweenOf 22 = .ok (.iload_n 3, 1) := by decide +kernel
theorem dX7_betweenOf_23 : decode cX7_betweenOf 23 = .ok (.iaload, 1) := by decide +kernel
theorem dX7_betweenOf_24 : decode cX7_betweenOf 24 = .ok (.iaload, 1) := by decide +kernel
theorem dX7_betweenOf_25 : decode cX7_betweenOf 25 = .ok (.invokestatic 183, 3) := by decide +kernel
theorem dX7_betweenOf_28 : decode cX7_betweenOf 28 = .ok (.ifCond .eq 19, 3) := by decide +kernel
theorem dX7_betweenOf_31 : decode cX7_betweenOf 31 = .ok (.aload_n 0, 1) := by decide +kernel
theorem dX7_betweenOf_32 : decode cX7_betweenOf 32 = .ok (.iload_n 3, 1) := by decide +kernel
theorem dX7_betweenOf_33 : decode cX7_betweenOf 33 = .ok (.invokevirtual 269, 3) := by decide +kernel
theorem dX7_betweenOf_36 : decode cX7_betweenOf 36 = .ok (.iload_n 1, 1) := by decide +kernel
theorem dX7_betweenOf_37 : decode cX7_betweenOf 37 = .ok (.invokestatic 183, 3) := by decide +kernel
theorem dX7_betweenOf_40 : decode cX7_betweenOf 40 = .ok (.ifCond .eq 7, 3) := by decide +kernel
theorem dX7_betweenOf_43 : decode cX7_betweenOf 43 = .ok (.iconst 1, 1) := by decide +kernel
theorem dX7_betweenOf_44 : decode cX7_betweenOf 44 = .ok (.goto 4, 3) := by decide +kernel
theorem dX7_betweenOf_47 : decode cX7_betweenOf 47 = .ok (.iconst 0, 1) := by decide +kernel
theorem dX7_betweenOf_48 : decode cX7_betweenOf 48 = .ok (.iadd, 1) := by decide +kernel
theorem dX7_betweenOf_49 : decode cX7_betweenOf 49 = .ok (.istore_n 2, 1) := by decide +kernel
theorem dX7_betweenOf_50 : decode cX7_betweenOf 50 = .ok (.iinc 3 1, 3) := by decide +kernel
theorem dX7_betweenOf_53 : decode cX7_betweenOf 53 = .ok (.goto (-49), 3) := by decide +kernel
theorem dX7_betweenOf_56 : decode cX7_betweenOf 56 = .ok (.iload_n 2, 1) := by decide +kernel
theorem dX7_betweenOf_57 : decode cX7_betweenOf 57 = .ok (.ireturn, 1) := by decide +kernel
theorem dX7_between_0 : decode cX7_between 0 = .ok (.aload_n 0, 1) := by decide +kernel
theorem dX7_between_1 : decode cX7_between 1 = .ok (.aload_n 0, 1) := by decide +kernel
theorem dX7_between_2 : decode cX7_between 2 = .ok (.getfield 179, 3) := by decide +kernel
theorem dX7_between_5 : decode cX7_between 5 = .ok (.aload_n 0, 1) := by decide +kernel
theorem dX7_between_6 : decode cX7_between 6 = .ok (.iload_n 1, 1) := by decide +kernel
theorem dX7_between_7 : decode cX7_between 7 = .ok (.invokevirtual 234, 3) := by decide +kernel
theorem dX7_between_10 : decode cX7_between 10 = .ok (.invokestatic 206, 3) := by decide +kernel
theorem dX7_between_13 : decode cX7_between 13 = .ok (.invokevirtual 159, 3) := by decide +kernel
theorem dX7_between_16 : decode cX7_between 16 = .ok (.ifCond .eq 7, 3) := by decide +kernel
theorem dX7_between_19 : decode cX7_between 19 = .ok (.iconst (-1), 1) := by decide +kernel
theorem dX7_between_20 : decode cX7_between 20 = .ok (.goto 8, 3) := by decide +kernel
theorem dX7_between_23 : decode cX7_between 23 = .ok (.aload_n 0, 1) := by decide +kernel
theorem dX7_between_24 : decode cX7_between 24 = .ok (.iload_n 1, 1) := by decide +kernel
theorem dX7_between_25 : decode cX7_between 25 = .ok (.invokevirtual 289, 3) := by decide +kernel
theorem dX7_between_28 : decode cX7_between 28 = .ok (.ireturn, 1) := by decide +kernel
theorem dX7_unparted_0 : decode cX7_unparted 0 = .ok (.aload_n 0, 1) := by decide +kernel
theorem dX7_unparted_1 : decode cX7_unparted 1 = .ok (.aload_n 0, 1) := by decide +kernel
theorem dX7_unparted_2 : decode cX7_unparted 2 = .ok (.getfield 179, 3) := by decide +kernel
theorem dX7_unparted_5 : decode cX7_unparted 5 = .ok (.invokestatic 199, 3) := by decide +kernel
theorem dX7_unparted_8 : decode cX7_unparted 8 = .ok (.invokevirtual 159, 3) := by decide +kernel
theorem dX7_unparted_11 : decode cX7_unparted 11 = .ok (.ifCond .eq 5, 3) := by decide +kernel
theorem dX7_unparted_14 : decode cX7_unparted 14 = .ok (.iconst (-1), 1) := by decide +kernel
theorem dX7_unparted_15 : decode cX7_unparted 15 = .ok (.ireturn, 1) := by decide +kernel
theorem dX7_unparted_16 : decode cX7_unparted 16 = .ok (.iconst 0, 1) := by decide +kernel
theorem dX7_unparted_17 : decode cX7_unparted 17 = .ok (.istore_n 1, 1) := by decide +kernel
theorem dX7_unparted_18 : decode cX7_unparted 18 = .ok (.iconst 0, 1) := by decide +kernel
theorem dX7_unparted_19 : decode cX7_unparted 19 = .ok (.istore_n 2, 1) := by decide +kernel
theorem dX7_unparted_20 : decode cX7_unparted 20 = .ok (.iload_n 2, 1) := by decide +kernel
theorem dX7_unparted_21 : decode cX7_unparted 21 = .ok (.aload_n 0, 1) := by decide +kernel
theorem dX7_unparted_22 : decode cX7_unparted 22 = .ok (.invokevirtual 212, 3) := by decide +kernel
theorem dX7_unparted_25 : decode cX7_unparted 25 = .ok (.if_icmp .gt 34, 3) := by decide +kernel
theorem dX7_unparted_28 : decode cX7_unparted 28 = .ok (.iload_n 1, 1) := by decide +kernel
theorem dX7_unparted_29 : decode cX7_unparted 29 = .ok (.aload_n 0, 1) := by decide +kernel
theorem dX7_unparted_30 : decode cX7_unparted 30 = .ok (.iload_n 2, 1) := by decide +kernel
theorem dX7_unparted_31 : decode cX7_unparted 31 = .ok (.invokevirtual 237, 3) := by decide +kernel
theorem dX7_unparted_34 : decode cX7_unparted 34 = .ok (.ifCond .eq 16, 3) := by decide +kernel
theorem dX7_unparted_37 : decode cX7_unparted 37 = .ok (.aload_n 0, 1) := by decide +kernel
theorem dX7_unparted_38 : decode cX7_unparted 38 = .ok (.iload_n 2, 1) := by decide +kernel
theorem dX7_unparted_39 : decode cX7_unparted 39 = .ok (.invokevirtual 289, 3) := by decide +kernel
theorem dX7_unparted_42 : decode cX7_unparted 42 = .ok (.iconst 1, 1) := by decide +kernel
theorem dX7_unparted_43 : decode cX7_unparted 43 = .ok (.if_icmp .eq 7, 3) := by decide +kernel
theorem dX7_unparted_46 : decode cX7_unparted 46 = .ok (.iconst 1, 1) := by decide +kernel
theorem dX7_unparted_47 : decode cX7_unparted 47 = .ok (.goto 4, 3) := by decide +kernel
theorem dX7_unparted_50 : decode cX7_unparted 50 = .ok (.iconst 0, 1) := by decide +kernel
theorem dX7_unparted_51 : decode cX7_unparted 51 = .ok (.iadd, 1) := by decide +kernel
theorem dX7_unparted_52 : decode cX7_unparted 52 = .ok (.istore_n 1, 1) := by decide +kernel
theorem dX7_unparted_53 : decode cX7_unparted 53 = .ok (.iinc 2 1, 3) := by decide +kernel
theorem dX7_unparted_56 : decode cX7_unparted 56 = .ok (.goto (-36), 3) := by decide +kernel
theorem dX7_unparted_59 : decode cX7_unparted 59 = .ok (.iload_n 1, 1) := by decide +kernel
theorem dX7_unparted_60 : decode cX7_unparted 60 = .ok (.ireturn, 1) := by decide +kernel
theorem dX7_rebuilt_0 : decode cX7_rebuilt 0 = .ok (.aload_n 0, 1) := by decide +kernel
theorem dX7_rebuilt_1 : decode cX7_rebuilt 1 = .ok (.iload_n 1, 1) := by decide +kernel
theorem dX7_rebuilt_2 : decode cX7_rebuilt 2 = .ok (.invokevirtual 240, 3) := by decide +kernel
theorem dX7_rebuilt_5 : decode cX7_rebuilt 5 = .ok (.ifCond .ne 5, 3) := by decide +kernel
theorem dX7_rebuilt_8 : decode cX7_rebuilt 8 = .ok (.iconst (-1), 1) := by decide +kernel
theorem dX7_rebuilt_9 : decode cX7_rebuilt 9 = .ok (.ireturn, 1) := by decide +kernel
theorem dX7_rebuilt_10 : decode cX7_rebuilt 10 = .ok (.iconst 0, 1) := by decide +kernel
theorem dX7_rebuilt_11 : decode cX7_rebuilt 11 = .ok (.istore_n 2, 1) := by decide +kernel
theorem dX7_rebuilt_12 : decode cX7_rebuilt 12 = .ok (.iconst 0, 1) := by decide +kernel
theorem dX7_rebuilt_13 : decode cX7_rebuilt 13 = .ok (.istore_n 3, 1) := by decide +kernel
theorem dX7_rebuilt_14 : decode cX7_rebuilt 14 = .ok (.iload_n 3, 1) := by decide +kernel
theorem dX7_rebuilt_15 : decode cX7_rebuilt 15 = .ok (.aload_n 0, 1) := by decide +kernel
theorem dX7_rebuilt_16 : decode cX7_rebuilt 16 = .ok (.getfield 176, 3) := by decide +kernel
theorem dX7_rebuilt_19 : decode cX7_rebuilt 19 = .ok (.if_icmp .ge 46, 3) := by decide +kernel
theorem dX7_rebuilt_22 : decode cX7_rebuilt 22 = .ok (.aload_n 0, 1) := by decide +kernel
theorem dX7_rebuilt_23 : decode cX7_rebuilt 23 = .ok (.iload_n 3, 1) := by decide +kernel
theorem dX7_rebuilt_24 : decode cX7_rebuilt 24 = .ok (.invokevirtual 269, 3) := by decide +kernel
theorem dX7_rebuilt_27 : decode cX7_rebuilt 27 = .ok (.invokestatic 136, 3) := by decide +kernel
theorem dX7_rebuilt_30 : decode cX7_rebuilt 30 = .ok (.istore 4, 2) := by decide +kernel
theorem dX7_rebuilt_32 : decode cX7_rebuilt 32 = .ok (.iload_n 2, 1) := by decide +kernel
theorem dX7_rebuilt_33 : decode cX7_rebuilt 33 = .ok (.iload 4, 2) := by decide +kernel
theorem dX7_rebuilt_35 : decode cX7_rebuilt 35 = .ok (.iload_n 1, 1) := by decide +kernel
theorem dX7_rebuilt_36 : decode cX7_rebuilt 36 = .ok (.if_icmp .gt 20, 3) := by decide +kernel
theorem dX7_rebuilt_39 : decode cX7_rebuilt 39 = .ok (.aload_n 0, 1) := by decide +kernel
theorem dX7_rebuilt_40 : decode cX7_rebuilt 40 = .ok (.getfield 173, 3) := by decide +kernel
theorem dX7_rebuilt_43 : decode cX7_rebuilt 43 = .ok (.iload 4, 2) := by decide +kernel
theorem dX7_rebuilt_45 : decode cX7_rebuilt 45 = .ok (.isub, 1) := by decide +kernel
theorem dX7_rebuilt_46 : decode cX7_rebuilt 46 = .ok (.iload_n 1, 1) := by decide +kernel
theorem dX7_rebuilt_47 : decode cX7_rebuilt 47 = .ok (.iload 4, 2) := by decide +kernel
theorem dX7_rebuilt_49 : decode cX7_rebuilt 49 = .ok (.isub, 1) := by decide +kernel
theorem dX7_rebuilt_50 : decode cX7_rebuilt 50 = .ok (.invokestatic 246, 3) := by decide +kernel
theorem dX7_rebuilt_53 : decode cX7_rebuilt 53 = .ok (.goto 4, 3) := by decide +kernel
theorem dX7_rebuilt_56 : decode cX7_rebuilt 56 = .ok (.iconst 0, 1) := by decide +kernel
theorem dX7_rebuilt_57 : decode cX7_rebuilt 57 = .ok (.iadd, 1) := by decide +kernel
theorem dX7_rebuilt_58 : decode cX7_rebuilt 58 = .ok (.istore_n 2, 1) := by decide +kernel
theorem dX7_rebuilt_59 : decode cX7_rebuilt 59 = .ok (.iinc 3 1, 3) := by decide +kernel
theorem dX7_rebuilt_62 : decode cX7_rebuilt 62 = .ok (.goto (-48), 3) := by decide +kernel
theorem dX7_rebuilt_65 : decode cX7_rebuilt 65 = .ok (.iload_n 2, 1) := by decide +kernel
theorem dX7_rebuilt_66 : decode cX7_rebuilt 66 = .ok (.ireturn, 1) := by decide +kernel
theorem dX7_changes_0 : decode cX7_changes 0 = .ok (.aload_n 0, 1) := by decide +kernel
theorem dX7_changes_1 : decode cX7_changes 1 = .ok (.getfield 20, 3) := by decide +kernel
theorem dX7_changes_4 : decode cX7_changes 4 = .ok (.iload_n 1, 1) := by decide +kernel
theorem dX7_changes_5 : decode cX7_changes 5 = .ok (.iaload, 1) := by decide +kernel
theorem dX7_changes_6 : decode cX7_changes 6 = .ok (.istore_n 2, 1) := by decide +kernel
theorem dX7_changes_7 : decode cX7_changes 7 = .ok (.aload_n 0, 1) := by decide +kernel
theorem dX7_changes_8 : decode cX7_changes 8 = .ok (.getfield 20, 3) := by decide +kernel
theorem dX7_changes_11 : decode cX7_changes 11 = .ok (.iload_n 1, 1) := by decide +kernel
theorem dX7_changes_12 : decode cX7_changes 12 = .ok (.aload_n 0, 1) := by decide +kernel
theorem dX7_changes_13 : decode cX7_changes 13 = .ok (.getfield 20, 3) := by decide +kernel
theorem dX7_changes_16 : decode cX7_changes 16 = .ok (.iload_n 1, 1) := by decide +kernel
theorem dX7_changes_17 : decode cX7_changes 17 = .ok (.iconst 1, 1) := by decide +kernel
theorem dX7_changes_18 : decode cX7_changes 18 = .ok (.iadd, 1) := by decide +kernel
theorem dX7_changes_19 : decode cX7_changes 19 = .ok (.iaload, 1) := by decide +kernel
theorem dX7_changes_20 : decode cX7_changes 20 = .ok (.iastore, 1) := by decide +kernel
theorem dX7_changes_21 : decode cX7_changes 21 = .ok (.aload_n 0, 1) := by decide +kernel
theorem dX7_changes_22 : decode cX7_changes 22 = .ok (.getfield 20, 3) := by decide +kernel
theorem dX7_changes_25 : decode cX7_changes 25 = .ok (.iload_n 1, 1) := by decide +kernel
theorem dX7_changes_26 : decode cX7_changes 26 = .ok (.iconst 1, 1) := by decide +kernel
theorem dX7_changes_27 : decode cX7_changes 27 = .ok (.iadd, 1) := by decide +kernel
theorem dX7_changes_28 : decode cX7_changes 28 = .ok (.iload_n 2, 1) := by decide +kernel
theorem dX7_changes_29 : decode cX7_changes 29 = .ok (.iastore, 1) := by decide +kernel
theorem dX7_changes_30 : decode cX7_changes 30 = .ok (.return_, 1) := by decide +kernel
theorem dX7_swaps_0 : decode cX7_swaps 0 = .ok (.aload_n 0, 1) := by decide +kernel
theorem dX7_swaps_1 : decode cX7_swaps 1 = .ok (.aload_n 0, 1) := by decide +kernel
theorem dX7_swaps_2 : decode cX7_swaps 2 = .ok (.getfield 179, 3) := by decide +kernel
theorem dX7_swaps_5 : decode cX7_swaps 5 = .ok (.invokestatic 199, 3) := by decide +kernel
theorem dX7_swaps_8 : decode cX7_swaps 8 = .ok (.invokevirtual 159, 3) := by decide +kernel
theorem dX7_swaps_11 : decode cX7_swaps 11 = .ok (.ifCond .eq 5, 3) := by decide +kernel
theorem dX7_swaps_14 : decode cX7_swaps 14 = .ok (.iconst (-1), 1) := by decide +kernel
theorem dX7_swaps_15 : decode cX7_swaps 15 = .ok (.ireturn, 1) := by decide +kernel
theorem dX7_swaps_16 : decode cX7_swaps 16 = .ok (.iconst 0, 1) := by decide +kernel
theorem dX7_swaps_17 : decode cX7_swaps 17 = .ok (.istore_n 1, 1) := by decide +kernel
theorem dX7_swaps_18 : decode cX7_swaps 18 = .ok (.iconst 0, 1) := by decide +kernel
theorem dX7_swaps_19 : decode cX7_swaps 19 = .ok (.istore_n 2, 1) := by decide +kernel
theorem dX7_swaps_20 : decode cX7_swaps 20 = .ok (.iload_n 2, 1) := by decide +kernel
theorem dX7_swaps_21 : decode cX7_swaps 21 = .ok (.iconst 1, 1) := by decide +kernel
theorem dX7_swaps_22 : decode cX7_swaps 22 = .ok (.iadd, 1) := by decide +kernel
theorem dX7_swaps_23 : decode cX7_swaps 23 = .ok (.aload_n 0, 1) := by decide +kernel
theorem dX7_swaps_24 : decode cX7_swaps 24 = .ok (.getfield 176, 3) := by decide +kernel
theorem dX7_swaps_27 : decode cX7_swaps 27 = .ok (.if_icmp .ge 40, 3) := by decide +kernel
theorem dX7_swaps_30 : decode cX7_swaps 30 = .ok (.aload_n 0, 1) := by decide +kernel
theorem dX7_swaps_31 : decode cX7_swaps 31 = .ok (.iload_n 2, 1) := by decide +kernel
theorem dX7_swaps_32 : decode cX7_swaps 32 = .ok (.invokevirtual 292, 3) := by decide +kernel
theorem dX7_swaps_35 : decode cX7_swaps 35 = .ok (.iload_n 1, 1) := by decide +kernel
theorem dX7_swaps_36 : decode cX7_swaps 36 = .ok (.aload_n 0, 1) := by decide +kernel
theorem dX7_swaps_37 : decode cX7_swaps 37 = .ok (.invokevirtual 272, 3) := by decide +kernel
theorem dX7_swaps_40 : decode cX7_swaps 40 = .ok (.aload_n 0, 1) := by decide +kernel
theorem dX7_swaps_41 : decode cX7_swaps 41 = .ok (.getfield 176, 3) := by decide +kernel
theorem dX7_swaps_44 : decode cX7_swaps 44 = .ok (.if_icmp .ne 9, 3) := by decide +kernel
theorem dX7_swaps_47 : decode cX7_swaps 47 = .ok (.iconst 1, 1) := by decide +kernel
theorem dX7_swaps_48 : decode cX7_swaps 48 = .ok (.iload_n 2, 1) := by decide +kernel
theorem dX7_swaps_49 : decode cX7_swaps 49 = .ok (.ishl, 1) := by decide +kernel
theorem dX7_swaps_50 : decode cX7_swaps 50 = .ok (.goto 4, 3) := by decide +kernel
theorem dX7_swaps_53 : decode cX7_swaps 53 = .ok (.iconst 0, 1) := by decide +kernel
theorem dX7_swaps_54 : decode cX7_swaps 54 = .ok (.ior, 1) := by decide +kernel
theorem dX7_swaps_55 : decode cX7_swaps 55 = .ok (.istore_n 1, 1) := by decide +kernel
theorem dX7_swaps_56 : decode cX7_swaps 56 = .ok (.aload_n 0, 1) := by decide +kernel
theorem dX7_swaps_57 : decode cX7_swaps 57 = .ok (.iload_n 2, 1) := by decide +kernel
theorem dX7_swaps_58 : decode cX7_swaps 58 = .ok (.invokevirtual 292, 3) := by decide +kernel
theorem dX7_swaps_61 : decode cX7_swaps 61 = .ok (.iinc 2 1, 3) := by decide +kernel
theorem dX7_swaps_64 : decode cX7_swaps 64 = .ok (.goto (-44), 3) := by decide +kernel
theorem dX7_swaps_67 : decode cX7_swaps 67 = .ok (.iload_n 1, 1) := by decide +kernel
theorem dX7_swaps_68 : decode cX7_swaps 68 = .ok (.ireturn, 1) := by decide +kernel
theorem dX7_isLeap_0 : decode cX7_isLeap 0 = .ok (.iconst 0, 1) := by decide +kernel
theorem dX7_isLeap_1 : decode cX7_isLeap 1 = .ok (.istore_n 3, 1) := by decide +kernel
theorem dX7_isLeap_2 : decode cX7_isLeap 2 = .ok (.iload_n 3, 1) := by decide +kernel
theorem dX7_isLeap_3 : decode cX7_isLeap 3 = .ok (.iload_n 1, 1) := by decide +kernel
theorem dX7_isLeap_4 : decode cX7_isLeap 4 = .ok (.if_icmp .ge 40, 3) := by decide +kernel
theorem dX7_isLeap_7 : decode cX7_isLeap 7 = .ok (.aload_n 0, 1) := by decide +kernel
theorem dX7_isLeap_8 : decode cX7_isLeap 8 = .ok (.getfield 17, 3) := by decide +kernel
theorem dX7_isLeap_11 : decode cX7_isLeap 11 = .ok (.aload_n 0, 1) := by decide +kernel
theorem dX7_isLeap_12 : decode cX7_isLeap 12 = .ok (.getfield 20, 3) := by decide +kernel
theorem dX7_isLeap_15 : decode cX7_isLeap 15 = .ok (.iload_n 1, 1) := by decide +kernel
theorem dX7_isLeap_16 : decode cX7_isLeap 16 = .ok (.iaload, 1) := by decide +kernel
theorem dX7_isLeap_17 : decode cX7_isLeap 17 = .ok (.iaload, 1) := by decide +kernel
theorem dX7_isLeap_18 : decode cX7_isLeap 18 = .ok (.aload_n 0, 1) := by decide +kernel
theorem dX7_isLeap_19 : decode cX7_isLeap 19 = .ok (.getfield 17, 3) := by decide +kernel
theorem dX7_isLeap_22 : decode cX7_isLeap 22 = .ok (.aload_n 0, 1) := by decide +kernel
theorem dX7_isLeap_23 : decode cX7_isLeap 23 = .ok (.getfield 20, 3) := by decide +kernel
theorem dX7_isLeap_26 : decode cX7_isLeap 26 = .ok (.iload_n 3, 1) := by decide +kernel
theorem dX7_isLeap_27 : decode cX7_isLeap 27 = .ok (.iaload, 1) := by decide +kernel
theorem dX7_isLeap_28 : decode cX7_isLeap 28 = .ok (.iaload, 1) := by decide +kernel
theorem dX7_isLeap_29 : decode cX7_isLeap 29 = .ok (.iconst (-1), 1) := by decide +kernel
theorem dX7_isLeap_30 : decode cX7_isLeap 30 = .ok (.ixor, 1) := by decide +kernel
theorem dX7_isLeap_31 : decode cX7_isLeap 31 = .ok (.iand, 1) := by decide +kernel
theorem dX7_isLeap_32 : decode cX7_isLeap 32 = .ok (.iload_n 2, 1) := by decide +kernel
theorem dX7_isLeap_33 : decode cX7_isLeap 33 = .ok (.if_icmp .ne 5, 3) := by decide +kernel
theorem dX7_isLeap_36 : decode cX7_isLeap 36 = .ok (.iconst 1, 1) := by decide +kernel
theorem dX7_isLeap_37 : decode cX7_isLeap 37 = .ok (.ireturn, 1) := by decide +kernel
theorem dX7_isLeap_38 : decode cX7_isLeap 38 = .ok (.iinc 3 1, 3) := by decide +kernel
theorem dX7_isLeap_41 : decode cX7_isLeap 41 = .ok (.goto (-39), 3) := by decide +kernel
theorem dX7_isLeap_44 : decode cX7_isLeap 44 = .ok (.iconst 0, 1) := by decide +kernel
theorem dX7_isLeap_45 : decode cX7_isLeap 45 = .ok (.ireturn, 1) := by decide +kernel
theorem dX7_isLeastLeap_0 : decode cX7_isLeastLeap 0 = .ok (.aload_n 0, 1) := by decide +kernel
theorem dX7_isLeastLeap_1 : decode cX7_isLeastLeap 1 = .ok (.iload_n 1, 1) := by decide +kernel
theorem dX7_isLeastLeap_2 : decode cX7_isLeastLeap 2 = .ok (.iload_n 2, 1) := by decide +kernel
theorem dX7_isLeastLeap_3 : decode cX7_isLeastLeap 3 = .ok (.invokevirtual 295, 3) := by decide +kernel
theorem dX7_isLeastLeap_6 : decode cX7_isLeastLeap 6 = .ok (.ifCond .ne 5, 3) := by decide +kernel
theorem dX7_isLeastLeap_9 : decode cX7_isLeastLeap 9 = .ok (.iconst 0, 1) := by decide +kernel
theorem dX7_isLeastLeap_10 : decode cX7_isLeastLeap 10 = .ok (.ireturn, 1) := by decide +kernel
theorem dX7_isLeastLeap_11 : decode cX7_isLeastLeap 11 = .ok (.iconst 0, 1) := by decide +kernel
theorem dX7_isLeastLeap_12 : decode cX7_isLeastLeap 12 = .ok (.istore_n 3, 1) := by decide +kernel
theorem dX7_isLeastLeap_13 : decode cX7_isLeastLeap 13 = .ok (.iload_n 3, 1) := by decide +kernel
theorem dX7_isLeastLeap_14 : decode cX7_isLeastLeap 14 = .ok (.iload_n 2, 1) := by decide +kernel
theorem dX7_isLeastLeap_15 : decode cX7_isLeastLeap 15 = .ok (.if_icmp .ge 28, 3) := by decide +kernel
theorem dX7_isLeastLeap_18 : decode cX7_isLeastLeap 18 = .ok (.iload_n 3, 1) := by decide +kernel
theorem dX7_isLeastLeap_19 : decode cX7_isLeastLeap 19 = .ok (.iload_n 2, 1) := by decide +kernel
theorem dX7_isLeastLeap_20 : decode cX7_isLeastLeap 20 = .ok (.invokestatic 183, 3) := by decide +kernel
theorem dX7_isLeastLeap_23 : decode cX7_isLeastLeap 23 = .ok (.ifCond .eq 14, 3) := by decide +kernel
theorem dX7_isLeastLeap_26 : decode cX7_isLeastLeap 26 = .ok (.aload_n 0, 1) := by decide +kernel
theorem dX7_isLeastLeap_27 : decode cX7_isLeastLeap 27 = .ok (.iload_n 1, 1) := by decide +kernel
theorem dX7_isLeastLeap_28 : decode cX7_isLeastLeap 28 = .ok (.iload_n 3, 1) := by decide +kernel
theorem dX7_isLeastLeap_29 : decode cX7_isLeastLeap 29 = .ok (.invokevirtual 295, 3) := by decide +kernel
theorem dX7_isLeastLeap_32 : decode cX7_isLeastLeap 32 = .ok (.ifCond .eq 5, 3) := by decide +kernel
theorem dX7_isLeastLeap_35 : decode cX7_isLeastLeap 35 = .ok (.iconst 0, 1) := by decide +kernel
theorem dX7_isLeastLeap_36 : decode cX7_isLeastLeap 36 = .ok (.ireturn, 1) := by decide +kernel
theorem dX7_isLeastLeap_37 : decode cX7_isLeastLeap 37 = .ok (.iinc 3 1, 3) := by decide +kernel
theorem dX7_isLeastLeap_40 : decode cX7_isLeastLeap 40 = .ok (.goto (-27), 3) := by decide +kernel
theorem dX7_isLeastLeap_43 : decode cX7_isLeastLeap 43 = .ok (.iconst 1, 1) := by decide +kernel
theorem dX7_isLeastLeap_44 : decode cX7_isLeastLeap 44 = .ok (.ireturn, 1) := by decide +kernel
theorem dX7_leaps_0 : decode cX7_leaps 0 = .ok (.aload_n 0, 1) := by decide +kernel
theorem dX7_leaps_1 : decode cX7_leaps 1 = .ok (.aload_n 0, 1) := by decide +kernel
theorem dX7_leaps_2 : decode cX7_leaps 2 = .ok (.iload_n 1, 1) := by decide +kernel
theorem dX7_leaps_3 : decode cX7_leaps 3 = .ok (.invokevirtual 231, 3) := by decide +kernel
theorem dX7_leaps_6 : decode cX7_leaps 6 = .ok (.invokestatic 199, 3) := by decide +kernel
theorem dX7_leaps_9 : decode cX7_leaps 9 = .ok (.invokevirtual 159, 3) := by decide +kernel
theorem dX7_leaps_12 : decode cX7_leaps 12 = .ok (.ifCond .eq 5, 3) := by decide +kernel
theorem dX7_leaps_15 : decode cX7_leaps 15 = .ok (.iconst (-1), 1) := by decide +kernel
theorem dX7_leaps_16 : decode cX7_leaps 16 = .ok (.ireturn, 1) := by decide +kernel
theorem dX7_leaps_17 : decode cX7_leaps 17 = .ok (.iconst 0, 1) := by decide +kernel
theorem dX7_leaps_18 : decode cX7_leaps 18 = .ok (.istore_n 2, 1) := by decide +kernel
theorem dX7_leaps_19 : decode cX7_leaps 19 = .ok (.iconst 0, 1) := by decide +kernel
theorem dX7_leaps_20 : decode cX7_leaps 20 = .ok (.istore_n 3, 1) := by decide +kernel
theorem dX7_leaps_21 : decode cX7_leaps 21 = .ok (.iload_n 3, 1) := by decide +kernel
theorem dX7_leaps_22 : decode cX7_leaps 22 = .ok (.aload_n 0, 1) := by decide +kernel
theorem dX7_leaps_23 : decode cX7_leaps 23 = .ok (.invokevirtual 212, 3) := by decide +kernel
theorem dX7_leaps_26 : decode cX7_leaps 26 = .ok (.if_icmp .gt 26, 3) := by decide +kernel
theorem dX7_leaps_29 : decode cX7_leaps 29 = .ok (.iload_n 2, 1) := by decide +kernel
theorem dX7_leaps_30 : decode cX7_leaps 30 = .ok (.aload_n 0, 1) := by decide +kernel
theorem dX7_leaps_31 : decode cX7_leaps 31 = .ok (.iload_n 1, 1) := by decide +kernel
theorem dX7_leaps_32 : decode cX7_leaps 32 = .ok (.iload_n 3, 1) := by decide +kernel
theorem dX7_leaps_33 : decode cX7_leaps 33 = .ok (.invokevirtual 298, 3) := by decide +kernel
theorem dX7_leaps_36 : decode cX7_leaps 36 = .ok (.ifCond .eq 7, 3) := by decide +kernel
theorem dX7_leaps_39 : decode cX7_leaps 39 = .ok (.iconst 1, 1) := by decide +kernel
theorem dX7_leaps_40 : decode cX7_leaps 40 = .ok (.goto 4, 3) := by decide +kernel
theorem dX7_leaps_43 : decode cX7_leaps 43 = .ok (.iconst 0, 1) := by decide +kernel
theorem dX7_leaps_44 : decode cX7_leaps 44 = .ok (.iadd, 1) := by decide +kernel
theorem dX7_leaps_45 : decode cX7_leaps 45 = .ok (.istore_n 2, 1) := by decide +kernel
theorem dX7_leaps_46 : decode cX7_leaps 46 = .ok (.iinc 3 1, 3) := by decide +kernel
theorem dX7_leaps_49 : decode cX7_leaps 49 = .ok (.goto (-28), 3) := by decide +kernel
theorem dX7_leaps_52 : decode cX7_leaps 52 = .ok (.iload_n 2, 1) := by decide +kernel
theorem dX7_leaps_53 : decode cX7_leaps 53 = .ok (.ireturn, 1) := by decide +kernel
theorem dX7_leap_0 : decode cX7_leap 0 = .ok (.aload_n 0, 1) := by decide +kernel
theorem dX7_leap_1 : decode cX7_leap 1 = .ok (.aload_n 0, 1) := by decide +kernel
theorem dX7_leap_2 : decode cX7_leap 2 = .ok (.iload_n 1, 1) := by decide +kernel
theorem dX7_leap_3 : decode cX7_leap 3 = .ok (.invokevirtual 231, 3) := by decide +kernel
theorem dX7_leap_6 : decode cX7_leap 6 = .ok (.invokestatic 199, 3) := by decide +kernel
theorem dX7_leap_9 : decode cX7_leap 9 = .ok (.invokevirtual 159, 3) := by decide +kernel
theorem dX7_leap_12 : decode cX7_leap 12 = .ok (.ifCond .eq 5, 3) := by decide +kernel
theorem dX7_leap_15 : decode cX7_leap 15 = .ok (.iconst (-1), 1) := by decide +kernel
theorem dX7_leap_16 : decode cX7_leap 16 = .ok (.ireturn, 1) := by decide +kernel
theorem dX7_leap_17 : decode cX7_leap 17 = .ok (.iconst 0, 1) := by decide +kernel
theorem dX7_leap_18 : decode cX7_leap 18 = .ok (.istore_n 3, 1) := by decide +kernel
theorem dX7_leap_19 : decode cX7_leap 19 = .ok (.iconst 0, 1) := by decide +kernel
theorem dX7_leap_20 : decode cX7_leap 20 = .ok (.istore 4, 2) := by decide +kernel
theorem dX7_leap_22 : decode cX7_leap 22 = .ok (.iload 4, 2) := by decide +kernel
theorem dX7_leap_24 : decode cX7_leap 24 = .ok (.aload_n 0, 1) := by decide +kernel
theorem dX7_leap_25 : decode cX7_leap 25 = .ok (.invokevirtual 212, 3) := by decide +kernel
theorem dX7_leap_28 : decode cX7_leap 28 = .ok (.if_icmp .gt 30, 3) := by decide +kernel
theorem dX7_leap_31 : decode cX7_leap 31 = .ok (.aload_n 0, 1) := by decide +kernel
theorem dX7_leap_32 : decode cX7_leap 32 = .ok (.iload_n 1, 1) := by decide +kernel
theorem dX7_leap_33 : decode cX7_leap 33 = .ok (.iload 4, 2) := by decide +kernel
theorem dX7_leap_35 : decode cX7_leap 35 = .ok (.invokevirtual 298, 3) := by decide +kernel
theorem dX7_leap_38 : decode cX7_leap 38 = .ok (.ifCond .eq 14, 3) := by decide +kernel
theorem dX7_leap_41 : decode cX7_leap 41 = .ok (.iload_n 3, 1) := by decide +kernel
theorem dX7_leap_42 : decode cX7_leap 42 = .ok (.iload_n 2, 1) := by decide +kernel
theorem dX7_leap_43 : decode cX7_leap 43 = .ok (.if_icmp .ne 6, 3) := by decide +kernel
theorem dX7_leap_46 : decode cX7_leap 46 = .ok (.iload 4, 2) := by decide +kernel
theorem dX7_leap_48 : decode cX7_leap 48 = .ok (.ireturn, 1) := by decide +kernel
theorem dX7_leap_49 : decode cX7_leap 49 = .ok (.iinc 3 1, 3) := by decide +kernel
theorem dX7_leap_52 : decode cX7_leap 52 = .ok (.iinc 4 1, 3) := by decide +kernel
theorem dX7_leap_55 : decode cX7_leap 55 = .ok (.goto (-33), 3) := by decide +kernel
theorem dX7_leap_58 : decode cX7_leap 58 = .ok (.aload_n 0, 1) := by decide +kernel
theorem dX7_leap_59 : decode cX7_leap 59 = .ok (.iconst 1, 1) := by decide +kernel
theorem dX7_leap_60 : decode cX7_leap 60 = .ok (.invokevirtual 168, 3) := by decide +kernel
theorem dX7_leap_63 : decode cX7_leap 63 = .ok (.ireturn, 1) := by decide +kernel
theorem dX7_linear_0 : decode cX7_linear 0 = .ok (.aload_n 0, 1) := by decide +kernel
theorem dX7_linear_1 : decode cX7_linear 1 = .ok (.aload_n 0, 1) := by decide +kernel
theorem dX7_linear_2 : decode cX7_linear 2 = .ok (.getfield 179, 3) := by decide +kernel
theorem dX7_linear_5 : decode cX7_linear 5 = .ok (.invokestatic 199, 3) := by decide +kernel
theorem dX7_linear_8 : decode cX7_linear 8 = .ok (.invokevirtual 159, 3) := by decide +kernel
theorem dX7_linear_11 : decode cX7_linear 11 = .ok (.ifCond .eq 5, 3) := by decide +kernel
theorem dX7_linear_14 : decode cX7_linear 14 = .ok (.iconst (-1), 1) := by decide +kernel
theorem dX7_linear_15 : decode cX7_linear 15 = .ok (.ireturn, 1) := by decide +kernel
theorem dX7_linear_16 : decode cX7_linear 16 = .ok (.iconst 0, 1) := by decide +kernel
theorem dX7_linear_17 : decode cX7_linear 17 = .ok (.istore_n 1, 1) := by decide +kernel
theorem dX7_linear_18 : decode cX7_linear 18 = .ok (.iload_n 1, 1) := by decide +kernel
theorem dX7_linear_19 : decode cX7_linear 19 = .ok (.aload_n 0, 1) := by decide +kernel
theorem dX7_linear_20 : decode cX7_linear 20 = .ok (.getfield 176, 3) := by decide +kernel
theorem dX7_linear_23 : decode cX7_linear 23 = .ok (.if_icmp .ge 44, 3) := by decide +kernel
theorem dX7_linear_26 : decode cX7_linear 26 = .ok (.iconst 0, 1) := by decide +kernel
theorem dX7_linear_27 : decode cX7_linear 27 = .ok (.istore_n 2, 1) := by decide +kernel
theorem dX7_linear_28 : decode cX7_linear 28 = .ok (.iload_n 2, 1) := by decide +kernel
theorem dX7_linear_29 : decode cX7_linear 29 = .ok (.aload_n 0, 1) := by decide +kernel
theorem dX7_linear_30 : decode cX7_linear 30 = .ok (.invokevirtual 212, 3) := by decide +kernel
theorem dX7_linear_33 : decode cX7_linear 33 = .ok (.if_icmp .gt 28, 3) := by decide +kernel
theorem dX7_linear_36 : decode cX7_linear 36 = .ok (.iload_n 2, 1) := by decide +kernel
theorem dX7_linear_37 : decode cX7_linear 37 = .ok (.invokestatic 136, 3) := by decide +kernel
theorem dX7_linear_40 : decode cX7_linear 40 = .ok (.iconst 1, 1) := by decide +kernel
theorem dX7_linear_41 : decode cX7_linear 41 = .ok (.if_icmp .eq 14, 3) := by decide +kernel
theorem dX7_linear_44 : decode cX7_linear 44 = .ok (.aload_n 0, 1) := by decide +kernel
theorem dX7_linear_45 : decode cX7_linear 45 = .ok (.iload_n 1, 1) := by decide +kernel
theorem dX7_linear_46 : decode cX7_linear 46 = .ok (.iload_n 2, 1) := by decide +kernel
theorem dX7_linear_47 : decode cX7_linear 47 = .ok (.invokevirtual 298, 3) := by decide +kernel
theorem dX7_linear_50 : decode cX7_linear 50 = .ok (.ifCond .eq 5, 3) := by decide +kernel
theorem dX7_linear_53 : decode cX7_linear 53 = .ok (.iconst 0, 1) := by decide +kernel
theorem dX7_linear_54 : decode cX7_linear 54 = .ok (.ireturn, 1) := by decide +kernel
theorem dX7_linear_55 : decode cX7_linear 55 = .ok (.iinc 2 1, 3) := by decide +kernel
theorem dX7_linear_58 : decode cX7_linear 58 = .ok (.goto (-30), 3) := by decide +kernel
theorem dX7_linear_61 : decode cX7_linear 61 = .ok (.iinc 1 1, 3) := by decide +kernel
theorem dX7_linear_64 : decode cX7_linear 64 = .ok (.goto (-46), 3) := by decide +kernel
theorem dX7_linear_67 : decode cX7_linear 67 = .ok (.iconst 1, 1) := by decide +kernel
theorem dX7_linear_68 : decode cX7_linear 68 = .ok (.ireturn, 1) := by decide +kernel
theorem dX7_laysWays_0 : decode cX7_laysWays 0 = .ok (.iconst 1, 1) := by decide +kernel
theorem dX7_laysWays_1 : decode cX7_laysWays 1 = .ok (.iload_n 2, 1) := by decide +kernel
theorem dX7_laysWays_2 : decode cX7_laysWays 2 = .ok (.ishl, 1) := by decide +kernel
theorem dX7_laysWays_3 : decode cX7_laysWays 3 = .ok (.iconst 1, 1) := by decide +kernel
theorem dX7_laysWays_4 : decode cX7_laysWays 4 = .ok (.isub, 1) := by decide +kernel
theorem dX7_laysWays_5 : decode cX7_laysWays 5 = .ok (.istore_n 3, 1) := by decide +kernel
theorem dX7_laysWays_6 : decode cX7_laysWays 6 = .ok (.iconst 0, 1) := by decide +kernel
theorem dX7_laysWays_7 : decode cX7_laysWays 7 = .ok (.istore 4, 2) := by decide +kernel
theorem dX7_laysWays_9 : decode cX7_laysWays 9 = .ok (.iload 4, 2) := by decide +kernel
theorem dX7_laysWays_11 : decode cX7_laysWays 11 = .ok (.iload_n 3, 1) := by decide +kernel
theorem dX7_laysWays_12 : decode cX7_laysWays 12 = .ok (.if_icmp .gt 104, 3) := by decide +kernel
theorem dX7_laysWays_15 : decode cX7_laysWays 15 = .ok (.aload_n 0, 1) := by decide +kernel
theorem dX7_laysWays_16 : decode cX7_laysWays 16 = .ok (.getfield 43, 3) := by decide +kernel
theorem dX7_laysWays_19 : decode cX7_laysWays 19 = .ok (.iload 4, 2) := by decide +kernel
theorem dX7_laysWays_21 : decode cX7_laysWays 21 = .ok (.iload 4, 2) := by decide +kernel
theorem dX7_laysWays_23 : decode cX7_laysWays 23 = .ok (.ifCond .ne 7, 3) := by decide +kernel
theorem dX7_laysWays_26 : decode cX7_laysWays 26 = .ok (.iconst 1, 1) := by decide +kernel
theorem dX7_laysWays_27 : decode cX7_laysWays 27 = .ok (.goto 4, 3) := by decide +kernel
theorem dX7_laysWays_30 : decode cX7_laysWays 30 = .ok (.iconst 0, 1) := by decide +kernel
theorem dX7_laysWays_31 : decode cX7_laysWays 31 = .ok (.iastore, 1) := by decide +kernel
theorem dX7_laysWays_32 : decode cX7_laysWays 32 = .ok (.iconst 0, 1) := by decide +kernel
theorem dX7_laysWays_33 : decode cX7_laysWays 33 = .ok (.istore 5, 2) := by decide +kernel
theorem dX7_laysWays_35 : decode cX7_laysWays 35 = .ok (.iload 5, 2) := by decide +kernel
theorem dX7_laysWays_37 : decode cX7_laysWays 37 = .ok (.iload_n 2, 1) := by decide +kernel
theorem dX7_laysWays_38 : decode cX7_laysWays 38 = .ok (.if_icmp .ge 72, 3) := by decide +kernel
theorem dX7_laysWays_41 : decode cX7_laysWays 41 = .ok (.iload 4, 2) := by decide +kernel
theorem dX7_laysWays_43 : decode cX7_laysWays 43 = .ok (.iconst 1, 1) := by decide +kernel
theorem dX7_laysWays_44 : decode cX7_laysWays 44 = .ok (.iload 5, 2) := by decide +kernel
theorem dX7_laysWays_46 : decode cX7_laysWays 46 = .ok (.ishl, 1) := by decide +kernel
theorem dX7_laysWays_47 : decode cX7_laysWays 47 = .ok (.iconst (-1), 1) := by decide +kernel
theorem dX7_laysWays_48 : decode cX7_laysWays 48 = .ok (.ixor, 1) := by decide +kernel
theorem dX7_laysWays_49 : decode cX7_laysWays 49 = .ok (.iand, 1) := by decide +kernel
theorem dX7_laysWays_50 : decode cX7_laysWays 50 = .ok (.istore 6, 2) := by decide +kernel
theorem dX7_laysWays_52 : decode cX7_laysWays 52 = .ok (.aload_n 0, 1) := by decide +kernel
theorem dX7_laysWays_53 : decode cX7_laysWays 53 = .ok (.getfield 43, 3) := by decide +kernel
theorem dX7_laysWays_56 : decode cX7_laysWays 56 = .ok (.iload 4, 2) := by decide +kernel
theorem dX7_laysWays_58 : decode cX7_laysWays 58 = .ok (.dup2, 1) := by decide +kernel
theorem dX7_laysWays_59 : decode cX7_laysWays 59 = .ok (.iaload, 1) := by decide +kernel
theorem dX7_laysWays_60 : decode cX7_laysWays 60 = .ok (.iload 4, 2) := by decide +kernel
theorem dX7_laysWays_62 : decode cX7_laysWays 62 = .ok (.iload 5, 2) := by decide +kernel
theorem dX7_laysWays_64 : decode cX7_laysWays 64 = .ok (.invokestatic 132, 3) := by decide +kernel
theorem dX7_laysWays_67 : decode cX7_laysWays 67 = .ok (.ifCond .eq 34, 3) := by decide +kernel
theorem dX7_laysWays_70 : decode cX7_laysWays 70 = .ok (.aload_n 0, 1) := by decide +kernel
theorem dX7_laysWays_71 : decode cX7_laysWays 71 = .ok (.getfield 43, 3) := by decide +kernel
theorem dX7_laysWays_74 : decode cX7_laysWays 74 = .ok (.iload 6, 2) := by decide +kernel
theorem dX7_laysWays_76 : decode cX7_laysWays 76 = .ok (.iaload, 1) := by decide +kernel
theorem dX7_laysWays_77 : decode cX7_laysWays 77 = .ok (.ifCond .le 24, 3) := by decide +kernel
theorem dX7_laysWays_80 : decode cX7_laysWays 80 = .ok (.aload_n 1, 1) := by decide +kernel
theorem dX7_laysWays_81 : decode cX7_laysWays 81 = .ok (.iload 5, 2) := by decide +kernel
theorem dX7_laysWays_83 : decode cX7_laysWays 83 = .ok (.iload 6, 2) := by decide +kernel
theorem dX7_laysWays_85 : decode cX7_laysWays 85 = .ok (.invokestatic 262, 3) := by decide +kernel
theorem dX7_laysWays_88 : decode cX7_laysWays 88 = .ok (.ifCond .eq 13, 3) := by decide +kernel
theorem dX7_laysWays_91 : decode cX7_laysWays 91 = .ok (.aload_n 0, 1) := by decide +kernel
theorem dX7_laysWays_92 : decode cX7_laysWays 92 = .ok (.getfield 43, 3) := by decide +kernel
theorem dX7_laysWays_95 : decode cX7_laysWays 95 = .ok (.iload 6, 2) := by decide +kernel
theorem dX7_laysWays_97 : decode cX7_laysWays 97 = .ok (.iaload, 1) := by decide +kernel
theorem dX7_laysWays_98 : decode cX7_laysWays 98 = .ok (.goto 4, 3) := by decide +kernel
theorem dX7_laysWays_101 : decode cX7_laysWays 101 = .ok (.iconst 0, 1) := by decide +kernel
theorem dX7_laysWays_102 : decode cX7_laysWays 102 = .ok (.iadd, 1) := by decide +kernel
theorem dX7_laysWays_103 : decode cX7_laysWays 103 = .ok (.iastore, 1) := by decide +kernel
theorem dX7_laysWays_104 : decode cX7_laysWays 104 = .ok (.iinc 5 1, 3) := by decide +kernel
theorem dX7_laysWays_107 : decode cX7_laysWays 107 = .ok (.goto (-72), 3) := by decide +kernel
theorem dX7_laysWays_110 : decode cX7_laysWays 110 = .ok (.iinc 4 1, 3) := by decide +kernel
theorem dX7_laysWays_113 : decode cX7_laysWays 113 = .ok (.goto (-104), 3) := by decide +kernel
theorem dX7_laysWays_116 : decode cX7_laysWays 116 = .ok (.iload_n 3, 1) := by decide +kernel
theorem dX7_laysWays_117 : decode cX7_laysWays 117 = .ok (.istore 4, 2) := by decide +kernel
theorem dX7_laysWays_119 : decode cX7_laysWays 119 = .ok (.iload 4, 2) := by decide +kernel
theorem dX7_laysWays_121 : decode cX7_laysWays 121 = .ok (.ifCond .lt 103, 3) := by decide +kernel
theorem dX7_laysWays_124 : decode cX7_laysWays 124 = .ok (.aload_n 0, 1) := by decide +kernel
theorem dX7_laysWays_125 : decode cX7_laysWays 125 = .ok (.getfield 46, 3) := by decide +kernel
theorem dX7_laysWays_128 : decode cX7_laysWays 128 = .ok (.iload 4, 2) := by decide +kernel
theorem dX7_laysWays_130 : decode cX7_laysWays 130 = .ok (.iload 4, 2) := by decide +kernel
theorem dX7_laysWays_132 : decode cX7_laysWays 132 = .ok (.iload_n 3, 1) := by decide +kernel
theorem dX7_laysWays_133 : decode cX7_laysWays 133 = .ok (.if_icmp .ne 7, 3) := by decide +kernel
theorem dX7_laysWays_136 : decode cX7_laysWays 136 = .ok (.iconst 1, 1) := by decide +kernel
theorem dX7_laysWays_137 : decode cX7_laysWays 137 = .ok (.goto 4, 3) := by decide +kernel
theorem dX7_laysWays_140 : decode cX7_laysWays 140 = .ok (.iconst 0, 1) := by decide +kernel
theorem dX7_laysWays_141 : decode cX7_laysWays 141 = .ok (.iastore, 1) := by decide +kernel
theorem dX7_laysWays_142 : decode cX7_laysWays 142 = .ok (.iconst 0, 1) := by decide +kernel
theorem dX7_laysWays_143 : decode cX7_laysWays 143 = .ok (.istore 5, 2) := by decide +kernel
theorem dX7_laysWays_145 : decode cX7_laysWays 145 = .ok (.iload 5, 2) := by decide +kernel
theorem dX7_laysWays_147 : decode cX7_laysWays 147 = .ok (.iload_n 2, 1) := by decide +kernel
theorem dX7_laysWays_148 : decode cX7_laysWays 148 = .ok (.if_icmp .ge 70, 3) := by decide +kernel
theorem dX7_laysWays_151 : decode cX7_laysWays 151 = .ok (.iload 4, 2) := by decide +kernel
theorem dX7_laysWays_153 : decode cX7_laysWays 153 = .ok (.iconst 1, 1) := by decide +kernel
theorem dX7_laysWays_154 : decode cX7_laysWays 154 = .ok (.iload 5, 2) := by decide +kernel
theorem dX7_laysWays_156 : decode cX7_laysWays 156 = .ok (.ishl, 1) := by decide +kernel
theorem dX7_laysWays_157 : decode cX7_laysWays 157 = .ok (.ior, 1) := by decide +kernel
theorem dX7_laysWays_158 : decode cX7_laysWays 158 = .ok (.istore 6, 2) := by decide +kernel
theorem dX7_laysWays_160 : decode cX7_laysWays 160 = .ok (.aload_n 0, 1) := by decide +kernel
theorem dX7_laysWays_161 : decode cX7_laysWays 161 = .ok (.getfield 46, 3) := by decide +kernel
theorem dX7_laysWays_164 : decode cX7_laysWays 164 = .ok (.iload 4, 2) := by decide +kernel
theorem dX7_laysWays_166 : decode cX7_laysWays 166 = .ok (.dup2, 1) := by decide +kernel
theorem dX7_laysWays_167 : decode cX7_laysWays 167 = .ok (.iaload, 1) := by decide +kernel
theorem dX7_laysWays_168 : decode cX7_laysWays 168 = .ok (.iload 4, 2) := by decide +kernel
theorem dX7_laysWays_170 : decode cX7_laysWays 170 = .ok (.iload 5, 2) := by decide +kernel
theorem dX7_laysWays_172 : decode cX7_laysWays 172 = .ok (.invokestatic 132, 3) := by decide +kernel
theorem dX7_laysWays_175 : decode cX7_laysWays 175 = .ok (.ifCond .ne 34, 3) := by decide +kernel
theorem dX7_laysWays_178 : decode cX7_laysWays 178 = .ok (.aload_n 0, 1) := by decide +kernel
theorem dX7_laysWays_179 : decode cX7_laysWays 179 = .ok (.getfield 46, 3) := by decide +kernel
theorem dX7_laysWays_182 : decode cX7_laysWays 182 = .ok (.iload 6, 2) := by decide +kernel
theorem dX7_laysWays_184 : decode cX7_laysWays 184 = .ok (.iaload, 1) := by decide +kernel
theorem dX7_laysWays_185 : decode cX7_laysWays 185 = .ok (.ifCond .le 24, 3) := by decide +kernel
theorem dX7_laysWays_188 : decode cX7_laysWays 188 = .ok (.aload_n 1, 1) := by decide +kernel
theorem dX7_laysWays_189 : decode cX7_laysWays 189 = .ok (.iload 5, 2) := by decide +kernel
theorem dX7_laysWays_191 : decode cX7_laysWays 191 = .ok (.iload 4, 2) := by decide +kernel
theorem dX7_laysWays_193 : decode cX7_laysWays 193 = .ok (.invokestatic 262, 3) := by decide +kernel
theorem dX7_laysWays_196 : decode cX7_laysWays 196 = .ok (.ifCond .eq 13, 3) := by decide +kernel
theorem dX7_laysWays_199 : decode cX7_laysWays 199 = .ok (.aload_n 0, 1) := by decide +kernel
theorem dX7_laysWays_200 : decode cX7_laysWays 200 = .ok (.getfield 46, 3) := by decide +kernel
theorem dX7_laysWays_203 : decode cX7_laysWays 203 = .ok (.iload 6, 2) := by decide +kernel
theorem dX7_laysWays_205 : decode cX7_laysWays 205 = .ok (.iaload, 1) := by decide +kernel
theorem dX7_laysWays_206 : decode cX7_laysWays 206 = .ok (.goto 4, 3) := by decide +kernel
theorem dX7_laysWays_209 : decode cX7_laysWays 209 = .ok (.iconst 0, 1) := by decide +kernel
theorem dX7_laysWays_210 : decode cX7_laysWays 210 = .ok (.iadd, 1) := by decide +kernel
theorem dX7_laysWays_211 : decode cX7_laysWays 211 = .ok (.iastore, 1) := by decide +kernel
theorem dX7_laysWays_212 : decode cX7_laysWays 212 = .ok (.iinc 5 1, 3) := by decide +kernel
theorem dX7_laysWays_215 : decode cX7_laysWays 215 = .ok (.goto (-70), 3) := by decide +kernel
theorem dX7_laysWays_218 : decode cX7_laysWays 218 = .ok (.iinc 4 (-1), 3) := by decide +kernel
theorem dX7_laysWays_221 : decode cX7_laysWays 221 = .ok (.goto (-102), 3) := by decide +kernel
theorem dX7_laysWays_224 : decode cX7_laysWays 224 = .ok (.return_, 1) := by decide +kernel
theorem dX7_isLaid_0 : decode cX7_isLaid 0 = .ok (.aload_n 0, 1) := by decide +kernel
theorem dX7_isLaid_1 : decode cX7_isLaid 1 = .ok (.aload_n 0, 1) := by decide +kernel
theorem dX7_isLaid_2 : decode cX7_isLaid 2 = .ok (.getfield 179, 3) := by decide +kernel
theorem dX7_isLaid_5 : decode cX7_isLaid 5 = .ok (.invokestatic 199, 3) := by decide +kernel
theorem dX7_isLaid_8 : decode cX7_isLaid 8 = .ok (.invokevirtual 159, 3) := by decide +kernel
theorem dX7_isLaid_11 : decode cX7_isLaid 11 = .ok (.ifCond .eq 5, 3) := by decide +kernel
theorem dX7_isLaid_14 : decode cX7_isLaid 14 = .ok (.iconst 0, 1) := by decide +kernel
theorem dX7_isLaid_15 : decode cX7_isLaid 15 = .ok (.ireturn, 1) := by decide +kernel
theorem dX7_isLaid_16 : decode cX7_isLaid 16 = .ok (.aload_n 0, 1) := by decide +kernel
theorem dX7_isLaid_17 : decode cX7_isLaid 17 = .ok (.aload_n 0, 1) := by decide +kernel
theorem dX7_isLaid_18 : decode cX7_isLaid 18 = .ok (.getfield 17, 3) := by decide +kernel
theorem dX7_isLaid_21 : decode cX7_isLaid 21 = .ok (.aload_n 0, 1) := by decide +kernel
theorem dX7_isLaid_22 : decode cX7_isLaid 22 = .ok (.getfield 176, 3) := by decide +kernel
theorem dX7_isLaid_25 : decode cX7_isLaid 25 = .ok (.invokevirtual 301, 3) := by decide +kernel
theorem dX7_isLaid_28 : decode cX7_isLaid 28 = .ok (.iconst 1, 1) := by decide +kernel
theorem dX7_isLaid_29 : decode cX7_isLaid 29 = .ok (.ireturn, 1) := by decide +kernel
theorem dX7_shellings_0 : decode cX7_shellings 0 = .ok (.aload_n 0, 1) := by decide +kernel
theorem dX7_shellings_1 : decode cX7_shellings 1 = .ok (.invokevirtual 304, 3) := by decide +kernel
theorem dX7_shellings_4 : decode cX7_shellings 4 = .ok (.ifCond .eq 12, 3) := by decide +kernel
theorem dX7_shellings_7 : decode cX7_shellings 7 = .ok (.aload_n 0, 1) := by decide +kernel
theorem dX7_shellings_8 : decode cX7_shellings 8 = .ok (.getfield 46, 3) := by decide +kernel
theorem dX7_shellings_11 : decode cX7_shellings 11 = .ok (.iconst 0, 1) := by decide +kernel
theorem dX7_shellings_12 : decode cX7_shellings 12 = .ok (.iaload, 1) := by decide +kernel
theorem dX7_shellings_13 : decode cX7_shellings 13 = .ok (.goto 4, 3) := by decide +kernel
theorem dX7_shellings_16 : decode cX7_shellings 16 = .ok (.iconst (-1), 1) := by decide +kernel
theorem dX7_shellings_17 : decode cX7_shellings 17 = .ok (.ireturn, 1) := by decide +kernel
theorem dX7_laysLeast_0 : decode cX7_laysLeast 0 = .ok (.iconst 0, 1) := by decide +kernel
theorem dX7_laysLeast_1 : decode cX7_laysLeast 1 = .ok (.istore_n 1, 1) := by decide +kernel
theorem dX7_laysLeast_2 : decode cX7_laysLeast 2 = .ok (.iconst 0, 1) := by decide +kernel
theorem dX7_laysLeast_3 : decode cX7_laysLeast 3 = .ok (.istore_n 2, 1) := by decide +kernel
theorem dX7_laysLeast_4 : decode cX7_laysLeast 4 = .ok (.iload_n 2, 1) := by decide +kernel
theorem dX7_laysLeast_5 : decode cX7_laysLeast 5 = .ok (.aload_n 0, 1) := by decide +kernel
theorem dX7_laysLeast_6 : decode cX7_laysLeast 6 = .ok (.getfield 176, 3) := by decide +kernel
theorem dX7_laysLeast_9 : decode cX7_laysLeast 9 = .ok (.if_icmp .ge 86, 3) := by decide +kernel
theorem dX7_laysLeast_12 : decode cX7_laysLeast 12 = .ok (.iconst (-1), 1) := by decide +kernel
theorem dX7_laysLeast_13 : decode cX7_laysLeast 13 = .ok (.istore_n 3, 1) := by decide +kernel
theorem dX7_laysLeast_14 : decode cX7_laysLeast 14 = .ok (.aload_n 0, 1) := by decide +kernel
theorem dX7_laysLeast_15 : decode cX7_laysLeast 15 = .ok (.getfield 176, 3) := by decide +kernel
theorem dX7_laysLeast_18 : decode cX7_laysLeast 18 = .ok (.iconst 1, 1) := by decide +kernel
theorem dX7_laysLeast_19 : decode cX7_laysLeast 19 = .ok (.isub, 1) := by decide +kernel
theorem dX7_laysLeast_20 : decode cX7_laysLeast 20 = .ok (.istore 4, 2) := by decide +kernel
theorem dX7_laysLeast_22 : decode cX7_laysLeast 22 = .ok (.iload 4, 2) := by decide +kernel
theorem dX7_laysLeast_24 : decode cX7_laysLeast 24 = .ok (.ifCond .lt 52, 3) := by decide +kernel
theorem dX7_laysLeast_27 : decode cX7_laysLeast 27 = .ok (.iload_n 1, 1) := by decide +kernel
theorem dX7_laysLeast_28 : decode cX7_laysLeast 28 = .ok (.iload 4, 2) := by decide +kernel
theorem dX7_laysLeast_30 : decode cX7_laysLeast 30 = .ok (.invokestatic 132, 3) := by decide +kernel
theorem dX7_laysLeast_33 : decode cX7_laysLeast 33 = .ok (.ifCond .ne 35, 3) := by decide +kernel
theorem dX7_laysLeast_36 : decode cX7_laysLeast 36 = .ok (.aload_n 0, 1) := by decide +kernel
theorem dX7_laysLeast_37 : decode cX7_laysLeast 37 = .ok (.getfield 46, 3) := by decide +kernel
theorem dX7_laysLeast_40 : decode cX7_laysLeast 40 = .ok (.iload_n 1, 1) := by decide +kernel
theorem dX7_laysLeast_41 : decode cX7_laysLeast 41 = .ok (.iconst 1, 1) := by decide +kernel
theorem dX7_laysLeast_42 : decode cX7_laysLeast 42 = .ok (.iload 4, 2) := by decide +kernel
theorem dX7_laysLeast_44 : decode cX7_laysLeast 44 = .ok (.ishl, 1) := by decide +kernel
theorem dX7_laysLeast_45 : decode cX7_laysLeast 45 = .ok (.ior, 1) := by decide +kernel
theorem dX7_laysLeast_46 : decode cX7_laysLeast 46 = .ok (.iaload, 1) := by decide +kernel
theorem dX7_laysLeast_47 : decode cX7_laysLeast 47 = .ok (.ifCond .le 21, 3) := by decide +kernel
theorem dX7_laysLeast_50 : decode cX7_laysLeast 50 = .ok (.aload_n 0, 1) := by decide +kernel
theorem dX7_laysLeast_51 : decode cX7_laysLeast 51 = .ok (.getfield 17, 3) := by decide +kernel
theorem dX7_laysLeast_54 : decode cX7_laysLeast 54 = .ok (.iload 4, 2) := by decide +kernel
theorem dX7_laysLeast_56 : decode cX7_laysLeast 56 = .ok (.iload_n 1, 1) := by decide +kernel
theorem dX7_laysLeast_57 : decode cX7_laysLeast 57 = .ok (.invokestatic 262, 3) := by decide +kernel
theorem dX7_laysLeast_60 : decode cX7_laysLeast 60 = .ok (.ifCond .eq 8, 3) := by decide +kernel
theorem dX7_laysLeast_63 : decode cX7_laysLeast 63 = .ok (.iload 4, 2) := by decide +kernel
theorem dX7_laysLeast_65 : decode cX7_laysLeast 65 = .ok (.goto 4, 3) := by decide +kernel
theorem dX7_laysLeast_68 : decode cX7_laysLeast 68 = .ok (.iload_n 3, 1) := by decide +kernel
theorem dX7_laysLeast_69 : decode cX7_laysLeast 69 = .ok (.istore_n 3, 1) := by decide +kernel
theorem dX7_laysLeast_70 : decode cX7_laysLeast 70 = .ok (.iinc 4 (-1), 3) := by decide +kernel
theorem dX7_laysLeast_73 : decode cX7_laysLeast 73 = .ok (.goto (-51), 3) := by decide +kernel
theorem dX7_laysLeast_76 : decode cX7_laysLeast 76 = .ok (.aload_n 0, 1) := by decide +kernel
theorem dX7_laysLeast_77 : decode cX7_laysLeast 77 = .ok (.getfield 49, 3) := by decide +kernel
theorem dX7_laysLeast_80 : decode cX7_laysLeast 80 = .ok (.iload_n 2, 1) := by decide +kernel
theorem dX7_laysLeast_81 : decode cX7_laysLeast 81 = .ok (.iload_n 3, 1) := by decide +kernel
theorem dX7_laysLeast_82 : decode cX7_laysLeast 82 = .ok (.iastore, 1) := by decide +kernel
theorem dX7_laysLeast_83 : decode cX7_laysLeast 83 = .ok (.iload_n 1, 1) := by decide +kernel
theorem dX7_laysLeast_84 : decode cX7_laysLeast 84 = .ok (.iconst 1, 1) := by decide +kernel
theorem dX7_laysLeast_85 : decode cX7_laysLeast 85 = .ok (.iload_n 3, 1) := by decide +kernel
theorem dX7_laysLeast_86 : decode cX7_laysLeast 86 = .ok (.ishl, 1) := by decide +kernel
theorem dX7_laysLeast_87 : decode cX7_laysLeast 87 = .ok (.ior, 1) := by decide +kernel
theorem dX7_laysLeast_88 : decode cX7_laysLeast 88 = .ok (.istore_n 1, 1) := by decide +kernel
theorem dX7_laysLeast_89 : decode cX7_laysLeast 89 = .ok (.iinc 2 1, 3) := by decide +kernel
theorem dX7_laysLeast_92 : decode cX7_laysLeast 92 = .ok (.goto (-88), 3) := by decide +kernel
theorem dX7_laysLeast_95 : decode cX7_laysLeast 95 = .ok (.return_, 1) := by decide +kernel
theorem dX7_shelled_0 : decode cX7_shelled 0 = .ok (.aload_n 0, 1) := by decide +kernel
theorem dX7_shelled_1 : decode cX7_shelled 1 = .ok (.aload_n 0, 1) := by decide +kernel
theorem dX7_shelled_2 : decode cX7_shelled 2 = .ok (.iload_n 1, 1) := by decide +kernel
theorem dX7_shelled_3 : decode cX7_shelled 3 = .ok (.invokevirtual 231, 3) := by decide +kernel
theorem dX7_shelled_6 : decode cX7_shelled 6 = .ok (.invokestatic 199, 3) := by decide +kernel
theorem dX7_shelled_9 : decode cX7_shelled 9 = .ok (.invokevirtual 159, 3) := by decide +kernel
theorem dX7_shelled_12 : decode cX7_shelled 12 = .ok (.ifCond .eq 5, 3) := by decide +kernel
theorem dX7_shelled_15 : decode cX7_shelled 15 = .ok (.iconst (-1), 1) := by decide +kernel
theorem dX7_shelled_16 : decode cX7_shelled 16 = .ok (.ireturn, 1) := by decide +kernel
theorem dX7_shelled_17 : decode cX7_shelled 17 = .ok (.aload_n 0, 1) := by decide +kernel
theorem dX7_shelled_18 : decode cX7_shelled 18 = .ok (.aload_n 0, 1) := by decide +kernel
theorem dX7_shelled_19 : decode cX7_shelled 19 = .ok (.getfield 17, 3) := by decide +kernel
theorem dX7_shelled_22 : decode cX7_shelled 22 = .ok (.aload_n 0, 1) := by decide +kernel
theorem dX7_shelled_23 : decode cX7_shelled 23 = .ok (.getfield 176, 3) := by decide +kernel
theorem dX7_shelled_26 : decode cX7_shelled 26 = .ok (.invokevirtual 301, 3) := by decide +kernel
theorem dX7_shelled_29 : decode cX7_shelled 29 = .ok (.aload_n 0, 1) := by decide +kernel
theorem dX7_shelled_30 : decode cX7_shelled 30 = .ok (.getfield 46, 3) := by decide +kernel
theorem dX7_shelled_33 : decode cX7_shelled 33 = .ok (.iconst 0, 1) := by decide +kernel
theorem dX7_shelled_34 : decode cX7_shelled 34 = .ok (.iaload, 1) := by decide +kernel
theorem dX7_shelled_35 : decode cX7_shelled 35 = .ok (.ifCond .ne 6, 3) := by decide +kernel
theorem dX7_shelled_38 : decode cX7_shelled 38 = .ok (.bipush (-2), 2) := by decide +kernel
theorem dX7_shelled_40 : decode cX7_shelled 40 = .ok (.ireturn, 1) := by decide +kernel
theorem dX7_shelled_41 : decode cX7_shelled 41 = .ok (.aload_n 0, 1) := by decide +kernel
theorem dX7_shelled_42 : decode cX7_shelled 42 = .ok (.invokevirtual 307, 3) := by decide +kernel
theorem dX7_shelled_45 : decode cX7_shelled 45 = .ok (.aload_n 0, 1) := by decide +kernel
theorem dX7_shelled_46 : decode cX7_shelled 46 = .ok (.getfield 49, 3) := by decide +kernel
theorem dX7_shelled_49 : decode cX7_shelled 49 = .ok (.iload_n 1, 1) := by decide +kernel
theorem dX7_shelled_50 : decode cX7_shelled 50 = .ok (.iaload, 1) := by decide +kernel
theorem dX7_shelled_51 : decode cX7_shelled 51 = .ok (.ireturn, 1) := by decide +kernel
theorem dX7_peelable_0 : decode cX7_peelable 0 = .ok (.aload_n 0, 1) := by decide +kernel
theorem dX7_peelable_1 : decode cX7_peelable 1 = .ok (.invokevirtual 304, 3) := by decide +kernel
theorem dX7_peelable_4 : decode cX7_peelable 4 = .ok (.ifCond .ne 5, 3) := by decide +kernel
theorem dX7_peelable_7 : decode cX7_peelable 7 = .ok (.iconst (-1), 1) := by decide +kernel
theorem dX7_peelable_8 : decode cX7_peelable 8 = .ok (.ireturn, 1) := by decide +kernel
theorem dX7_peelable_9 : decode cX7_peelable 9 = .ok (.iconst 1, 1) := by decide +kernel
theorem dX7_peelable_10 : decode cX7_peelable 10 = .ok (.aload_n 0, 1) := by decide +kernel
theorem dX7_peelable_11 : decode cX7_peelable 11 = .ok (.getfield 176, 3) := by decide +kernel
theorem dX7_peelable_14 : decode cX7_peelable 14 = .ok (.ishl, 1) := by decide +kernel
theorem dX7_peelable_15 : decode cX7_peelable 15 = .ok (.iconst 1, 1) := by decide +kernel
theorem dX7_peelable_16 : decode cX7_peelable 16 = .ok (.isub, 1) := by decide +kernel
theorem dX7_peelable_17 : decode cX7_peelable 17 = .ok (.istore_n 1, 1) := by decide +kernel
theorem dX7_peelable_18 : decode cX7_peelable 18 = .ok (.iconst 0, 1) := by decide +kernel
theorem dX7_peelable_19 : decode cX7_peelable 19 = .ok (.istore_n 2, 1) := by decide +kernel
theorem dX7_peelable_20 : decode cX7_peelable 20 = .ok (.iconst 0, 1) := by decide +kernel
theorem dX7_peelable_21 : decode cX7_peelable 21 = .ok (.istore_n 3, 1) := by decide +kernel
theorem dX7_peelable_22 : decode cX7_peelable 22 = .ok (.iload_n 3, 1) := by decide +kernel
theorem dX7_peelable_23 : decode cX7_peelable 23 = .ok (.aload_n 0, 1) := by decide +kernel
theorem dX7_peelable_24 : decode cX7_peelable 24 = .ok (.getfield 176, 3) := by decide +kernel
theorem dX7_peelable_27 : decode cX7_peelable 27 = .ok (.if_icmp .ge 51, 3) := by decide +kernel
theorem dX7_peelable_30 : decode cX7_peelable 30 = .ok (.iload_n 1, 1) := by decide +kernel
theorem dX7_peelable_31 : decode cX7_peelable 31 = .ok (.iconst 1, 1) := by decide +kernel
theorem dX7_peelable_32 : decode cX7_peelable 32 = .ok (.iload_n 3, 1) := by decide +kernel
theorem dX7_peelable_33 : decode cX7_peelable 33 = .ok (.ishl, 1) := by decide +kernel
theorem dX7_peelable_34 : decode cX7_peelable 34 = .ok (.iconst (-1), 1) := by decide +kernel
theorem dX7_peelable_35 : decode cX7_peelable 35 = .ok (.ixor, 1) := by decide +kernel
theorem dX7_peelable_36 : decode cX7_peelable 36 = .ok (.iand, 1) := by decide +kernel
theorem dX7_peelable_37 : decode cX7_peelable 37 = .ok (.istore 4, 2) := by decide +kernel
theorem dX7_peelable_39 : decode cX7_peelable 39 = .ok (.iload_n 2, 1) := by decide +kernel
theorem dX7_peelable_40 : decode cX7_peelable 40 = .ok (.aload_n 0, 1) := by decide +kernel
theorem dX7_peelable_41 : decode cX7_peelable 41 = .ok (.getfield 43, 3) := by decide +kernel
theorem dX7_peelable_44 : decode cX7_peelable 44 = .ok (.iload 4, 2) := by decide +kernel
theorem dX7_peelable_46 : decode cX7_peelable 46 = .ok (.iaload, 1) := by decide +kernel
theorem dX7_peelable_47 : decode cX7_peelable 47 = .ok (.ifCond .le 22, 3) := by decide +kernel
theorem dX7_peelable_50 : decode cX7_peelable 50 = .ok (.aload_n 0, 1) := by decide +kernel
theorem dX7_peelable_51 : decode cX7_peelable 51 = .ok (.getfield 17, 3) := by decide +kernel
theorem dX7_peelable_54 : decode cX7_peelable 54 = .ok (.iload_n 3, 1) := by decide +kernel
theorem dX7_peelable_55 : decode cX7_peelable 55 = .ok (.iload 4, 2) := by decide +kernel
theorem dX7_peelable_57 : decode cX7_peelable 57 = .ok (.invokestatic 262, 3) := by decide +kernel
theorem dX7_peelable_60 : decode cX7_peelable 60 = .ok (.ifCond .eq 9, 3) := by decide +kernel
theorem dX7_peelable_63 : decode cX7_peelable 63 = .ok (.iconst 1, 1) := by decide +kernel
theorem dX7_peelable_64 : decode cX7_peelable 64 = .ok (.iload_n 3, 1) := by decide +kernel
theorem dX7_peelable_65 : decode cX7_peelable 65 = .ok (.ishl, 1) := by decide +kernel
theorem dX7_peelable_66 : decode cX7_peelable 66 = .ok (.goto 4, 3) := by decide +kernel
theorem dX7_peelable_69 : decode cX7_peelable 69 = .ok (.iconst 0, 1) := by decide +kernel
theorem dX7_peelable_70 : decode cX7_peelable 70 = .ok (.ior, 1) := by decide +kernel
theorem dX7_peelable_71 : decode cX7_peelable 71 = .ok (.istore_n 2, 1) := by decide +kernel
theorem dX7_peelable_72 : decode cX7_peelable 72 = .ok (.iinc 3 1, 3) := by decide +kernel
theorem dX7_peelable_75 : decode cX7_peelable 75 = .ok (.goto (-53), 3) := by decide +kernel
theorem dX7_peelable_78 : decode cX7_peelable 78 = .ok (.iload_n 2, 1) := by decide +kernel
theorem dX7_peelable_79 : decode cX7_peelable 79 = .ok (.ireturn, 1) := by decide +kernel
theorem dX7_goesOn__0 : decode cX7_goesOn_ 0 = .ok (.aload_n 0, 1) := by decide +kernel
theorem dX7_goesOn__1 : decode cX7_goesOn_ 1 = .ok (.aload_n 0, 1) := by decide +kernel
theorem dX7_goesOn__2 : decode cX7_goesOn_ 2 = .ok (.getfield 179, 3) := by decide +kernel
theorem dX7_goesOn__5 : decode cX7_goesOn_ 5 = .ok (.iload_n 1, 1) := by decide +kernel
theorem dX7_goesOn__6 : decode cX7_goesOn_ 6 = .ok (.iconst 0, 1) := by decide +kernel
theorem dX7_goesOn__7 : decode cX7_goesOn_ 7 = .ok (.aload_n 0, 1) := by decide +kernel
theorem dX7_goesOn__8 : decode cX7_goesOn_ 8 = .ok (.getfield 176, 3) := by decide +kernel
theorem dX7_goesOn__11 : decode cX7_goesOn_ 11 = .ok (.invokestatic 84, 3) := by decide +kernel
theorem dX7_goesOn__14 : decode cX7_goesOn_ 14 = .ok (.invokestatic 206, 3) := by decide +kernel
theorem dX7_goesOn__17 : decode cX7_goesOn_ 17 = .ok (.invokevirtual 159, 3) := by decide +kernel
theorem dX7_goesOn__20 : decode cX7_goesOn_ 20 = .ok (.ifCond .eq 5, 3) := by decide +kernel
theorem dX7_goesOn__23 : decode cX7_goesOn_ 23 = .ok (.iconst (-1), 1) := by decide +kernel
theorem dX7_goesOn__24 : decode cX7_goesOn_ 24 = .ok (.ireturn, 1) := by decide +kernel
theorem dX7_goesOn__25 : decode cX7_goesOn_ 25 = .ok (.aload_n 0, 1) := by decide +kernel
theorem dX7_goesOn__26 : decode cX7_goesOn_ 26 = .ok (.aload_n 0, 1) := by decide +kernel
theorem dX7_goesOn__27 : decode cX7_goesOn_ 27 = .ok (.getfield 17, 3) := by decide +kernel
theorem dX7_goesOn__30 : decode cX7_goesOn_ 30 = .ok (.aload_n 0, 1) := by decide +kernel
theorem dX7_goesOn__31 : decode cX7_goesOn_ 31 = .ok (.getfield 176, 3) := by decide +kernel
theorem dX7_goesOn__34 : decode cX7_goesOn_ 34 = .ok (.invokevirtual 301, 3) := by decide +kernel
theorem dX7_goesOn__37 : decode cX7_goesOn_ 37 = .ok (.aload_n 0, 1) := by decide +kernel
theorem dX7_goesOn__38 : decode cX7_goesOn_ 38 = .ok (.invokevirtual 272, 3) := by decide +kernel
theorem dX7_goesOn__41 : decode cX7_goesOn_ 41 = .ok (.iload_n 1, 1) := by decide +kernel
theorem dX7_goesOn__42 : decode cX7_goesOn_ 42 = .ok (.if_icmp .ge 7, 3) := by decide +kernel
theorem dX7_goesOn__45 : decode cX7_goesOn_ 45 = .ok (.iconst 0, 1) := by decide +kernel
theorem dX7_goesOn__46 : decode cX7_goesOn_ 46 = .ok (.goto 13, 3) := by decide +kernel
theorem dX7_goesOn__49 : decode cX7_goesOn_ 49 = .ok (.aload_n 0, 1) := by decide +kernel
theorem dX7_goesOn__50 : decode cX7_goesOn_ 50 = .ok (.getfield 46, 3) := by decide +kernel
theorem dX7_goesOn__53 : decode cX7_goesOn_ 53 = .ok (.aload_n 0, 1) := by decide +kernel
theorem dX7_goesOn__54 : decode cX7_goesOn_ 54 = .ok (.iload_n 1, 1) := by decide +kernel
theorem dX7_goesOn__55 : decode cX7_goesOn_ 55 = .ok (.invokevirtual 259, 3) := by decide +kernel
theorem dX7_goesOn__58 : decode cX7_goesOn_ 58 = .ok (.iaload, 1) := by decide +kernel
theorem dX7_goesOn__59 : decode cX7_goesOn_ 59 = .ok (.ireturn, 1) := by decide +kernel
theorem dX7_stuck_0 : decode cX7_stuck 0 = .ok (.aload_n 0, 1) := by decide +kernel
theorem dX7_stuck_1 : decode cX7_stuck 1 = .ok (.invokevirtual 304, 3) := by decide +kernel
theorem dX7_stuck_4 : decode cX7_stuck 4 = .ok (.ifCond .ne 5, 3) := by decide +kernel
theorem dX7_stuck_7 : decode cX7_stuck 7 = .ok (.iconst (-1), 1) := by decide +kernel
theorem dX7_stuck_8 : decode cX7_stuck 8 = .ok (.ireturn, 1) := by decide +kernel
theorem dX7_stuck_9 : decode cX7_stuck 9 = .ok (.bipush (-2), 2) := by decide +kernel
theorem dX7_stuck_11 : decode cX7_stuck 11 = .ok (.istore_n 1, 1) := by decide +kernel
theorem dX7_stuck_12 : decode cX7_stuck 12 = .ok (.iconst 0, 1) := by decide +kernel
theorem dX7_stuck_13 : decode cX7_stuck 13 = .ok (.istore_n 2, 1) := by decide +kernel
theorem dX7_stuck_14 : decode cX7_stuck 14 = .ok (.iload_n 2, 1) := by decide +kernel
theorem dX7_stuck_15 : decode cX7_stuck 15 = .ok (.iconst 1, 1) := by decide +kernel
theorem dX7_stuck_16 : decode cX7_stuck 16 = .ok (.aload_n 0, 1) := by decide +kernel
theorem dX7_stuck_17 : decode cX7_stuck 17 = .ok (.getfield 176, 3) := by decide +kernel
theorem dX7_stuck_20 : decode cX7_stuck 20 = .ok (.ishl, 1) := by decide +kernel
theorem dX7_stuck_21 : decode cX7_stuck 21 = .ok (.if_icmp .ge 60, 3) := by decide +kernel
theorem dX7_stuck_24 : decode cX7_stuck 24 = .ok (.aload_n 0, 1) := by decide +kernel
theorem dX7_stuck_25 : decode cX7_stuck 25 = .ok (.getfield 43, 3) := by decide +kernel
theorem dX7_stuck_28 : decode cX7_stuck 28 = .ok (.iload_n 2, 1) := by decide +kernel
theorem dX7_stuck_29 : decode cX7_stuck 29 = .ok (.iaload, 1) := by decide +kernel
theorem dX7_stuck_30 : decode cX7_stuck 30 = .ok (.ifCond .le 16, 3) := by decide +kernel
theorem dX7_stuck_33 : decode cX7_stuck 33 = .ok (.aload_n 0, 1) := by decide +kernel
theorem dX7_stuck_34 : decode cX7_stuck 34 = .ok (.getfield 46, 3) := by decide +kernel
theorem dX7_stuck_37 : decode cX7_stuck 37 = .ok (.iload_n 2, 1) := by decide +kernel
theorem dX7_stuck_38 : decode cX7_stuck 38 = .ok (.iaload, 1) := by decide +kernel
theorem dX7_stuck_39 : decode cX7_stuck 39 = .ok (.ifCond .ne 7, 3) := by decide +kernel
theorem dX7_stuck_42 : decode cX7_stuck 42 = .ok (.iconst 1, 1) := by decide +kernel
theorem dX7_stuck_43 : decode cX7_stuck 43 = .ok (.goto 4, 3) := by decide +kernel
theorem dX7_stuck_46 : decode cX7_stuck 46 = .ok (.iconst 0, 1) := by decide +kernel
theorem dX7_stuck_47 : decode cX7_stuck 47 = .ok (.istore_n 3, 1) := by decide +kernel
theorem dX7_stuck_48 : decode cX7_stuck 48 = .ok (.iload_n 3, 1) := by decide +kernel
theorem dX7_stuck_49 : decode cX7_stuck 49 = .ok (.ifCond .eq 24, 3) := by decide +kernel
theorem dX7_stuck_52 : decode cX7_stuck 52 = .ok (.iload_n 1, 1) := by decide +kernel
theorem dX7_stuck_53 : decode cX7_stuck 53 = .ok (.bipush (-2), 2) := by decide +kernel
theorem dX7_stuck_55 : decode cX7_stuck 55 = .ok (.if_icmp .eq 14, 3) := by decide +kernel
theorem dX7_stuck_58 : decode cX7_stuck 58 = .ok (.iload_n 2, 1) := by decide +kernel
theorem dX7_stuck_59 : decode cX7_stuck 59 = .ok (.invokestatic 136, 3) := by decide +kernel
theorem dX7_stuck_62 : decode cX7_stuck 62 = .ok (.iload_n 1, 1) := by decide +kernel
theorem dX7_stuck_63 : decode cX7_stuck 63 = .ok (.invokestatic 136, 3) := by decide +kernel
theorem dX7_stuck_66 : decode cX7_stuck 66 = .ok (.if_icmp .ge 7, 3) := by decide +kernel
theorem dX7_stuck_69 : decode cX7_stuck 69 = .ok (.iload_n 2, 1) := by decide +kernel
theorem dX7_stuck_70 : decode cX7_stuck 70 = .ok (.goto 4, 3) := by decide +kernel
theorem dX7_stuck_73 : decode cX7_stuck 73 = .ok (.iload_n 1, 1) := by decide +kernel
theorem dX7_stuck_74 : decode cX7_stuck 74 = .ok (.istore_n 1, 1) := by decide +kernel
theorem dX7_stuck_75 : decode cX7_stuck 75 = .ok (.iinc 2 1, 3) := by decide +kernel
theorem dX7_stuck_78 : decode cX7_stuck 78 = .ok (.goto (-64), 3) := by decide +kernel
theorem dX7_stuck_81 : decode cX7_stuck 81 = .ok (.iload_n 1, 1) := by decide +kernel
theorem dX7_stuck_82 : decode cX7_stuck 82 = .ok (.ireturn, 1) := by decide +kernel
theorem dX7_peeled_0 : decode cX7_peeled 0 = .ok (.aload_n 0, 1) := by decide +kernel
theorem dX7_peeled_1 : decode cX7_peeled 1 = .ok (.aload_n 0, 1) := by decide +kernel
theorem dX7_peeled_2 : decode cX7_peeled 2 = .ok (.getfield 179, 3) := by decide +kernel
theorem dX7_peeled_5 : decode cX7_peeled 5 = .ok (.iload_n 1, 1) := by decide +kernel
theorem dX7_peeled_6 : decode cX7_peeled 6 = .ok (.iconst 0, 1) := by decide +kernel
theorem dX7_peeled_7 : decode cX7_peeled 7 = .ok (.ldc_w 310, 3) := by decide +kernel
theorem dX7_peeled_10 : decode cX7_peeled 10 = .ok (.invokestatic 84, 3) := by decide +kernel
theorem dX7_peeled_13 : decode cX7_peeled 13 = .ok (.invokestatic 206, 3) := by decide +kernel
theorem dX7_peeled_16 : decode cX7_peeled 16 = .ok (.invokevirtual 159, 3) := by decide +kernel
theorem dX7_peeled_19 : decode cX7_peeled 19 = .ok (.ifCond .eq 5, 3) := by decide +kernel
theorem dX7_peeled_22 : decode cX7_peeled 22 = .ok (.iconst (-1), 1) := by decide +kernel
theorem dX7_peeled_23 : decode cX7_peeled 23 = .ok (.ireturn, 1) := by decide +kernel
theorem dX7_peeled_24 : decode cX7_peeled 24 = .ok (.iconst 1, 1) := by decide +kernel
theorem dX7_peeled_25 : decode cX7_peeled 25 = .ok (.aload_n 0, 1) := by decide +kernel
theorem dX7_peeled_26 : decode cX7_peeled 26 = .ok (.getfield 176, 3) := by decide +kernel
theorem dX7_peeled_29 : decode cX7_peeled 29 = .ok (.ishl, 1) := by decide +kernel
theorem dX7_peeled_30 : decode cX7_peeled 30 = .ok (.iconst 1, 1) := by decide +kernel
theorem dX7_peeled_31 : decode cX7_peeled 31 = .ok (.isub, 1) := by decide +kernel
theorem dX7_peeled_32 : decode cX7_peeled 32 = .ok (.istore_n 2, 1) := by decide +kernel
theorem dX7_peeled_33 : decode cX7_peeled 33 = .ok (.iload_n 1, 1) := by decide +kernel
theorem dX7_peeled_34 : decode cX7_peeled 34 = .ok (.istore_n 3, 1) := by decide +kernel
theorem dX7_peeled_35 : decode cX7_peeled 35 = .ok (.aload_n 0, 1) := by decide +kernel
theorem dX7_peeled_36 : decode cX7_peeled 36 = .ok (.iload_n 2, 1) := by decide +kernel
theorem dX7_peeled_37 : decode cX7_peeled 37 = .ok (.invokevirtual 311, 3) := by decide +kernel
theorem dX7_peeled_40 : decode cX7_peeled 40 = .ok (.istore 4, 2) := by decide +kernel
theorem dX7_peeled_42 : decode cX7_peeled 42 = .ok (.iload_n 2, 1) := by decide +kernel
theorem dX7_peeled_43 : decode cX7_peeled 43 = .ok (.invokestatic 136, 3) := by decide +kernel
theorem dX7_peeled_46 : decode cX7_peeled 46 = .ok (.iconst 1, 1) := by decide +kernel
theorem dX7_peeled_47 : decode cX7_peeled 47 = .ok (.if_icmp .le 70, 3) := by decide +kernel
theorem dX7_peeled_50 : decode cX7_peeled 50 = .ok (.iload 4, 2) := by decide +kernel
theorem dX7_peeled_52 : decode cX7_peeled 52 = .ok (.ifCond .eq 65, 3) := by decide +kernel
theorem dX7_peeled_55 : decode cX7_peeled 55 = .ok (.bipush 75, 2) := by decide +kernel
theorem dX7_peeled_57 : decode cX7_peeled 57 = .ok (.iload_n 3, 1) := by decide +kernel
theorem dX7_peeled_58 : decode cX7_peeled 58 = .ok (.imul, 1) := by decide +kernel
theorem dX7_peeled_59 : decode cX7_peeled 59 = .ok (.bipush 74, 2) := by decide +kernel
theorem dX7_peeled_61 : decode cX7_peeled 61 = .ok (.iadd, 1) := by decide +kernel
theorem dX7_peeled_62 : decode cX7_peeled 62 = .ok (.ldc_w 314, 3) := by decide +kernel
theorem dX7_peeled_65 : decode cX7_peeled 65 = .ok (.irem, 1) := by decide +kernel
theorem dX7_peeled_66 : decode cX7_peeled 66 = .ok (.istore_n 3, 1) := by decide +kernel
theorem dX7_peeled_67 : decode cX7_peeled 67 = .ok (.iload_n 3, 1) := by decide +kernel
theorem dX7_peeled_68 : decode cX7_peeled 68 = .ok (.iload 4, 2) := by decide +kernel
theorem dX7_peeled_70 : decode cX7_peeled 70 = .ok (.invokestatic 136, 3) := by decide +kernel
theorem dX7_peeled_73 : decode cX7_peeled 73 = .ok (.irem, 1) := by decide +kernel
theorem dX7_peeled_74 : decode cX7_peeled 74 = .ok (.istore 5, 2) := by decide +kernel
theorem dX7_peeled_76 : decode cX7_peeled 76 = .ok (.iload 5, 2) := by decide +kernel
theorem dX7_peeled_78 : decode cX7_peeled 78 = .ok (.ifCond .le 18, 3) := by decide +kernel
theorem dX7_peeled_81 : decode cX7_peeled 81 = .ok (.iload 4, 2) := by decide +kernel
theorem dX7_peeled_83 : decode cX7_peeled 83 = .ok (.iload 4, 2) := by decide +kernel
theorem dX7_peeled_85 : decode cX7_peeled 85 = .ok (.iconst 1, 1) := by decide +kernel
theorem dX7_peeled_86 : decode cX7_peeled 86 = .ok (.isub, 1) := by decide +kernel
theorem dX7_peeled_87 : decode cX7_peeled 87 = .ok (.iand, 1) := by decide +kernel
theorem dX7_peeled_88 : decode cX7_peeled 88 = .ok (.istore 4, 2) := by decide +kernel
theorem dX7_peeled_90 : decode cX7_peeled 90 = .ok (.iinc 5 (-1), 3) := by decide +kernel
theorem dX7_peeled_93 : decode cX7_peeled 93 = .ok (.goto (-17), 3) := by decide +kernel
theorem dX7_peeled_96 : decode cX7_peeled 96 = .ok (.iload_n 2, 1) := by decide +kernel
theorem dX7_peeled_97 : decode cX7_peeled 97 = .ok (.iload 4, 2) := by decide +kernel
theorem dX7_peeled_99 : decode cX7_peeled 99 = .ok (.iload 4, 2) := by decide +kernel
theorem dX7_peeled_101 : decode cX7_peeled 101 = .ok (.ineg, 1) := by decide +kernel
theorem dX7_peeled_102 : decode cX7_peeled 102 = .ok (.iand, 1) := by decide +kernel
theorem dX7_peeled_103 : decode cX7_peeled 103 = .ok (.iconst (-1), 1) := by decide +kernel
theorem dX7_peeled_104 : decode cX7_peeled 104 = .ok (.ixor, 1) := by decide +kernel
theorem dX7_peeled_105 : decode cX7_peeled 105 = .ok (.iand, 1) := by decide +kernel
theorem dX7_peeled_106 : decode cX7_peeled 106 = .ok (.istore_n 2, 1) := by decide +kernel
theorem dX7_peeled_107 : decode cX7_peeled 107 = .ok (.aload_n 0, 1) := by decide +kernel
theorem dX7_peeled_108 : decode cX7_peeled 108 = .ok (.iload_n 2, 1) := by decide +kernel
theorem dX7_peeled_109 : decode cX7_peeled 109 = .ok (.invokevirtual 311, 3) := by decide +kernel
theorem dX7_peeled_112 : decode cX7_peeled 112 = .ok (.istore 4, 2) := by decide +kernel
theorem dX7_peeled_114 : decode cX7_peeled 114 = .ok (.goto (-72), 3) := by decide +kernel
theorem dX7_peeled_117 : decode cX7_peeled 117 = .ok (.iload_n 2, 1) := by decide +kernel
theorem dX7_peeled_118 : decode cX7_peeled 118 = .ok (.invokestatic 136, 3) := by decide +kernel
theorem dX7_peeled_121 : decode cX7_peeled 121 = .ok (.ireturn, 1) := by decide +kernel
theorem dX7_canGo_0 : decode cX7_canGo 0 = .ok (.iconst 0, 1) := by decide +kernel
theorem dX7_canGo_1 : decode cX7_canGo 1 = .ok (.istore_n 2, 1) := by decide +kernel
theorem dX7_canGo_2 : decode cX7_canGo 2 = .ok (.iconst 0, 1) := by decide +kernel
theorem dX7_canGo_3 : decode cX7_canGo 3 = .ok (.istore_n 3, 1) := by decide +kernel
theorem dX7_canGo_4 : decode cX7_canGo 4 = .ok (.iload_n 3, 1) := by decide +kernel
theorem dX7_canGo_5 : decode cX7_canGo 5 = .ok (.aload_n 0, 1) := by decide +kernel
theorem dX7_canGo_6 : decode cX7_canGo 6 = .ok (.getfield 176, 3) := by decide +kernel
theorem dX7_canGo_9 : decode cX7_canGo 9 = .ok (.if_icmp .ge 45, 3) := by decide +kernel
theorem dX7_canGo_12 : decode cX7_canGo 12 = .ok (.iload_n 2, 1) := by decide +kernel
theorem dX7_canGo_13 : decode cX7_canGo 13 = .ok (.iload_n 1, 1) := by decide +kernel
theorem dX7_canGo_14 : decode cX7_canGo 14 = .ok (.iload_n 3, 1) := by decide +kernel
theorem dX7_canGo_15 : decode cX7_canGo 15 = .ok (.invokestatic 132, 3) := by decide +kernel
theorem dX7_canGo_18 : decode cX7_canGo 18 = .ok (.ifCond .eq 27, 3) := by decide +kernel
theorem dX7_canGo_21 : decode cX7_canGo 21 = .ok (.aload_n 0, 1) := by decide +kernel
theorem dX7_canGo_22 : decode cX7_canGo 22 = .ok (.getfield 17, 3) := by decide +kernel
theorem dX7_canGo_25 : decode cX7_canGo 25 = .ok (.iload_n 3, 1) := by decide +kernel
theorem dX7_canGo_26 : decode cX7_canGo 26 = .ok (.iload_n 1, 1) := by decide +kernel
theorem dX7_canGo_27 : decode cX7_canGo 27 = .ok (.iconst 1, 1) := by decide +kernel
theorem dX7_canGo_28 : decode cX7_canGo 28 = .ok (.iload_n 3, 1) := by decide +kernel
theorem dX7_canGo_29 : decode cX7_canGo 29 = .ok (.ishl, 1) := by decide +kernel
theorem dX7_canGo_30 : decode cX7_canGo 30 = .ok (.iconst (-1), 1) := by decide +kernel
theorem dX7_canGo_31 : decode cX7_canGo 31 = .ok (.ixor, 1) := by decide +kernel
theorem dX7_canGo_32 : decode cX7_canGo 32 = .ok (.iand, 1) := by decide +kernel
theorem dX7_canGo_33 : decode cX7_canGo 33 = .ok (.invokestatic 262, 3) := by decide +kernel
theorem dX7_canGo_36 : decode cX7_canGo 36 = .ok (.ifCond .eq 9, 3) := by decide +kernel
theorem dX7_canGo_39 : decode cX7_canGo 39 = .ok (.iconst 1, 1) := by decide +kernel
theorem dX7_canGo_40 : decode cX7_canGo 40 = .ok (.iload_n 3, 1) := by decide +kernel
theorem dX7_canGo_41 : decode cX7_canGo 41 = .ok (.ishl, 1) := by decide +kernel
theorem dX7_canGo_42 : decode cX7_canGo 42 = .ok (.goto 4, 3) := by decide +kernel
theorem dX7_canGo_45 : decode cX7_canGo 45 = .ok (.iconst 0, 1) := by decide +kernel
theorem dX7_canGo_46 : decode cX7_canGo 46 = .ok (.ior, 1) := by decide +kernel
theorem dX7_canGo_47 : decode cX7_canGo 47 = .ok (.istore_n 2, 1) := by decide +kernel
theorem dX7_canGo_48 : decode cX7_canGo 48 = .ok (.iinc 3 1, 3) := by decide +kernel
theorem dX7_canGo_51 : decode cX7_canGo 51 = .ok (.goto (-47), 3) := by decide +kernel
theorem dX7_canGo_54 : decode cX7_canGo 54 = .ok (.iload_n 2, 1) := by decide +kernel
theorem dX7_canGo_55 : decode cX7_canGo 55 = .ok (.ireturn, 1) := by decide +kernel
theorem dX7_laysLink_0 : decode cX7_laysLink 0 = .ok (.aload_n 0, 1) := by decide +kernel
theorem dX7_laysLink_1 : decode cX7_laysLink 1 = .ok (.iconst 0, 1) := by decide +kernel
theorem dX7_laysLink_2 : decode cX7_laysLink 2 = .ok (.putfield 315, 3) := by decide +kernel
theorem dX7_laysLink_5 : decode cX7_laysLink 5 = .ok (.iconst 0, 1) := by decide +kernel
theorem dX7_laysLink_6 : decode cX7_laysLink 6 = .ok (.istore_n 2, 1) := by decide +kernel
theorem dX7_laysLink_7 : decode cX7_laysLink 7 = .ok (.iload_n 2, 1) := by decide +kernel
theorem dX7_laysLink_8 : decode cX7_laysLink 8 = .ok (.aload_n 0, 1) := by decide +kernel
theorem dX7_laysLink_9 : decode cX7_laysLink 9 = .ok (.getfield 176, 3) := by decide +kernel
theorem dX7_laysLink_12 : decode cX7_laysLink 12 = .ok (.if_icmp .ge 51, 3) := by decide +kernel
theorem dX7_laysLink_15 : decode cX7_laysLink 15 = .ok (.iload_n 1, 1) := by decide +kernel
theorem dX7_laysLink_16 : decode cX7_laysLink 16 = .ok (.aload_n 0, 1) := by decide +kernel
theorem dX7_laysLink_17 : decode cX7_laysLink 17 = .ok (.getfield 17, 3) := by decide +kernel
theorem dX7_laysLink_20 : decode cX7_laysLink 20 = .ok (.iload_n 2, 1) := by decide +kernel
theorem dX7_laysLink_21 : decode cX7_laysLink 21 = .ok (.iaload, 1) := by decide +kernel
theorem dX7_laysLink_22 : decode cX7_laysLink 22 = .ok (.invokestatic 183, 3) := by decide +kernel
theorem dX7_laysLink_25 : decode cX7_laysLink 25 = .ok (.ifCond .eq 32, 3) := by decide +kernel
theorem dX7_laysLink_28 : decode cX7_laysLink 28 = .ok (.aload_n 0, 1) := by decide +kernel
theorem dX7_laysLink_29 : decode cX7_laysLink 29 = .ok (.getfield 52, 3) := by decide +kernel
theorem dX7_laysLink_32 : decode cX7_laysLink 32 = .ok (.aload_n 0, 1) := by decide +kernel
theorem dX7_laysLink_33 : decode cX7_laysLink 33 = .ok (.getfield 315, 3) := by decide +kernel
theorem dX7_laysLink_36 : decode cX7_laysLink 36 = .ok (.aload_n 0, 1) := by decide +kernel
theorem dX7_laysLink_37 : decode cX7_laysLink 37 = .ok (.getfield 17, 3) := by decide +kernel
theorem dX7_laysLink_40 : decode cX7_laysLink 40 = .ok (.iload_n 2, 1) := by decide +kernel
theorem dX7_laysLink_41 : decode cX7_laysLink 41 = .ok (.iaload, 1) := by decide +kernel
theorem dX7_laysLink_42 : decode cX7_laysLink 42 = .ok (.iload_n 1, 1) := by decide +kernel
theorem dX7_laysLink_43 : decode cX7_laysLink 43 = .ok (.iconst (-1), 1) := by decide +kernel
theorem dX7_laysLink_44 : decode cX7_laysLink 44 = .ok (.ixor, 1) := by decide +kernel
theorem dX7_laysLink_45 : decode cX7_laysLink 45 = .ok (.iand, 1) := by decide +kernel
theorem dX7_laysLink_46 : decode cX7_laysLink 46 = .ok (.iastore, 1) := by decide +kernel
theorem dX7_laysLink_47 : decode cX7_laysLink 47 = .ok (.aload_n 0, 1) := by decide +kernel
theorem dX7_laysLink_48 : decode cX7_laysLink 48 = .ok (.dup, 1) := by decide +kernel
theorem dX7_laysLink_49 : decode cX7_laysLink 49 = .ok (.getfield 315, 3) := by decide +kernel
theorem dX7_laysLink_52 : decode cX7_laysLink 52 = .ok (.iconst 1, 1) := by decide +kernel
theorem dX7_laysLink_53 : decode cX7_laysLink 53 = .ok (.iadd, 1) := by decide +kernel
theorem dX7_laysLink_54 : decode cX7_laysLink 54 = .ok (.putfield 315, 3) := by decide +kernel
theorem dX7_laysLink_57 : decode cX7_laysLink 57 = .ok (.iinc 2 1, 3) := by decide +kernel
theorem dX7_laysLink_60 : decode cX7_laysLink 60 = .ok (.goto (-53), 3) := by decide +kernel
theorem dX7_laysLink_63 : decode cX7_laysLink 63 = .ok (.return_, 1) := by decide +kernel
theorem dX7_linkWhy_0 : decode cX7_linkWhy 0 = .ok (.aload_n 0, 1) := by decide +kernel
theorem dX7_linkWhy_1 : decode cX7_linkWhy 1 = .ok (.getfield 179, 3) := by decide +kernel
theorem dX7_linkWhy_4 : decode cX7_linkWhy 4 = .ok (.ifCond .ne 7, 3) := by decide +kernel
theorem dX7_linkWhy_7 : decode cX7_linkWhy 7 = .ok (.iconst 1, 1) := by decide +kernel
theorem dX7_linkWhy_8 : decode cX7_linkWhy 8 = .ok (.goto 28, 3) := by decide +kernel
theorem dX7_linkWhy_11 : decode cX7_linkWhy 11 = .ok (.aload_n 0, 1) := by decide +kernel
theorem dX7_linkWhy_12 : decode cX7_linkWhy 12 = .ok (.iload_n 1, 1) := by decide +kernel
theorem dX7_linkWhy_13 : decode cX7_linkWhy 13 = .ok (.invokevirtual 234, 3) := by decide +kernel
theorem dX7_linkWhy_16 : decode cX7_linkWhy 16 = .ok (.ifCond .ne 7, 3) := by decide +kernel
theorem dX7_linkWhy_19 : decode cX7_linkWhy 19 = .ok (.iconst 2, 1) := by decide +kernel
theorem dX7_linkWhy_20 : decode cX7_linkWhy 20 = .ok (.goto 16, 3) := by decide +kernel
theorem dX7_linkWhy_23 : decode cX7_linkWhy 23 = .ok (.aload_n 0, 1) := by decide +kernel
theorem dX7_linkWhy_24 : decode cX7_linkWhy 24 = .ok (.iload_n 1, 1) := by decide +kernel
theorem dX7_linkWhy_25 : decode cX7_linkWhy 25 = .ok (.invokevirtual 237, 3) := by decide +kernel
theorem dX7_linkWhy_28 : decode cX7_linkWhy 28 = .ok (.ifCond .ne 7, 3) := by decide +kernel
theorem dX7_linkWhy_31 : decode cX7_linkWhy 31 = .ok (.iconst 5, 1) := by decide +kernel
theorem dX7_linkWhy_32 : decode cX7_linkWhy 32 = .ok (.goto 4, 3) := by decide +kernel
theorem dX7_linkWhy_35 : decode cX7_linkWhy 35 = .ok (.iconst 0, 1) := by decide +kernel
theorem dX7_linkWhy_36 : decode cX7_linkWhy 36 = .ok (.ireturn, 1) := by decide +kernel
theorem dX7_link_0 : decode cX7_link 0 = .ok (.aload_n 0, 1) := by decide +kernel
theorem dX7_link_1 : decode cX7_link 1 = .ok (.aload_n 0, 1) := by decide +kernel
theorem dX7_link_2 : decode cX7_link 2 = .ok (.iload_n 1, 1) := by decide +kernel
theorem dX7_link_3 : decode cX7_link 3 = .ok (.invokevirtual 318, 3) := by decide +kernel
theorem dX7_link_6 : decode cX7_link 6 = .ok (.invokevirtual 159, 3) := by decide +kernel
theorem dX7_link_9 : decode cX7_link 9 = .ok (.ifCond .eq 7, 3) := by decide +kernel
theorem dX7_link_12 : decode cX7_link 12 = .ok (.iconst (-1), 1) := by decide +kernel
theorem dX7_link_13 : decode cX7_link 13 = .ok (.goto 11, 3) := by decide +kernel
theorem dX7_link_16 : decode cX7_link 16 = .ok (.aload_n 0, 1) := by decide +kernel
theorem dX7_link_17 : decode cX7_link 17 = .ok (.iload_n 1, 1) := by decide +kernel
theorem dX7_link_18 : decode cX7_link 18 = .ok (.invokevirtual 237, 3) := by decide +kernel
theorem dX7_link_21 : decode cX7_link 21 = .ok (.invokestatic 136, 3) := by decide +kernel
theorem dX7_link_24 : decode cX7_link 24 = .ok (.ireturn, 1) := by decide +kernel
theorem dX7_linkRound_0 : decode cX7_linkRound 0 = .ok (.aload_n 0, 1) := by decide +kernel
theorem dX7_linkRound_1 : decode cX7_linkRound 1 = .ok (.aload_n 0, 1) := by decide +kernel
theorem dX7_linkRound_2 : decode cX7_linkRound 2 = .ok (.iload_n 1, 1) := by decide +kernel
theorem dX7_linkRound_3 : decode cX7_linkRound 3 = .ok (.invokevirtual 318, 3) := by decide +kernel
theorem dX7_linkRound_6 : decode cX7_linkRound 6 = .ok (.invokevirtual 159, 3) := by decide +kernel
theorem dX7_linkRound_9 : decode cX7_linkRound 9 = .ok (.ifCond .eq 5, 3) := by decide +kernel
theorem dX7_linkRound_12 : decode cX7_linkRound 12 = .ok (.iconst (-1), 1) := by decide +kernel
theorem dX7_linkRound_13 : decode cX7_linkRound 13 = .ok (.ireturn, 1) := by decide +kernel
theorem dX7_linkRound_14 : decode cX7_linkRound 14 = .ok (.iload_n 2, 1) := by decide +kernel
theorem dX7_linkRound_15 : decode cX7_linkRound 15 = .ok (.iconst 0, 1) := by decide +kernel
theorem dX7_linkRound_16 : decode cX7_linkRound 16 = .ok (.aload_n 0, 1) := by decide +kernel
theorem dX7_linkRound_17 : decode cX7_linkRound 17 = .ok (.getfield 173, 3) := by decide +kernel
theorem dX7_linkRound_20 : decode cX7_linkRound 20 = .ok (.iload_n 1, 1) := by decide +kernel
theorem dX7_linkRound_21 : decode cX7_linkRound 21 = .ok (.invokestatic 136, 3) := by decide +kernel
theorem dX7_linkRound_24 : decode cX7_linkRound 24 = .ok (.isub, 1) := by decide +kernel
theorem dX7_linkRound_25 : decode cX7_linkRound 25 = .ok (.invokestatic 84, 3) := by decide +kernel
theorem dX7_linkRound_28 : decode cX7_linkRound 28 = .ok (.ifCond .ne 9, 3) := by decide +kernel
theorem dX7_linkRound_31 : decode cX7_linkRound 31 = .ok (.aload_n 0, 1) := by decide +kernel
theorem dX7_linkRound_32 : decode cX7_linkRound 32 = .ok (.iconst 2, 1) := by decide +kernel
theorem dX7_linkRound_33 : decode cX7_linkRound 33 = .ok (.invokevirtual 168, 3) := by decide +kernel
theorem dX7_linkRound_36 : decode cX7_linkRound 36 = .ok (.ireturn, 1) := by decide +kernel
theorem dX7_linkRound_37 : decode cX7_linkRound 37 = .ok (.aload_n 0, 1) := by decide +kernel
theorem dX7_linkRound_38 : decode cX7_linkRound 38 = .ok (.iload_n 1, 1) := by decide +kernel
theorem dX7_linkRound_39 : decode cX7_linkRound 39 = .ok (.invokevirtual 321, 3) := by decide +kernel
theorem dX7_linkRound_42 : decode cX7_linkRound 42 = .ok (.aload_n 0, 1) := by decide +kernel
theorem dX7_linkRound_43 : decode cX7_linkRound 43 = .ok (.aload_n 0, 1) := by decide +kernel
theorem dX7_linkRound_44 : decode cX7_linkRound 44 = .ok (.getfield 52, 3) := by decide +kernel
theorem dX7_linkRound_47 : decode cX7_linkRound 47 = .ok (.aload_n 0, 1) := by decide +kernel
theorem dX7_linkRound_48 : decode cX7_linkRound 48 = .ok (.getfield 315, 3) := by decide +kernel
theorem dX7_linkRound_51 : decode cX7_linkRound 51 = .ok (.invokevirtual 195, 3) := by decide +kernel
theorem dX7_linkRound_54 : decode cX7_linkRound 54 = .ok (.aload_n 0, 1) := by decide +kernel
theorem dX7_linkRound_55 : decode cX7_linkRound 55 = .ok (.iload_n 2, 1) := by decide +kernel
theorem dX7_linkRound_56 : decode cX7_linkRound 56 = .ok (.invokevirtual 250, 3) := by decide +kernel
theorem dX7_linkRound_59 : decode cX7_linkRound 59 = .ok (.ireturn, 1) := by decide +kernel
theorem dX7_linkShellings_0 : decode cX7_linkShellings 0 = .ok (.aload_n 0, 1) := by decide +kernel
theorem dX7_linkShellings_1 : decode cX7_linkShellings 1 = .ok (.aload_n 0, 1) := by decide +kernel
theorem dX7_linkShellings_2 : decode cX7_linkShellings 2 = .ok (.iload_n 1, 1) := by decide +kernel
theorem dX7_linkShellings_3 : decode cX7_linkShellings 3 = .ok (.invokevirtual 318, 3) := by decide +kernel
theorem dX7_linkShellings_6 : decode cX7_linkShellings 6 = .ok (.invokevirtual 159, 3) := by decide +kernel
theorem dX7_linkShellings_9 : decode cX7_linkShellings 9 = .ok (.ifCond .eq 5, 3) := by decide +kernel
theorem dX7_linkShellings_12 : decode cX7_linkShellings 12 = .ok (.iconst (-1), 1) := by decide +kernel
theorem dX7_linkShellings_13 : decode cX7_linkShellings 13 = .ok (.ireturn, 1) := by decide +kernel
theorem dX7_linkShellings_14 : decode cX7_linkShellings 14 = .ok (.aload_n 0, 1) := by decide +kernel
theorem dX7_linkShellings_15 : decode cX7_linkShellings 15 = .ok (.iload_n 1, 1) := by decide +kernel
theorem dX7_linkShellings_16 : decode cX7_linkShellings 16 = .ok (.invokevirtual 321, 3) := by decide +kernel
theorem dX7_linkShellings_19 : decode cX7_linkShellings 19 = .ok (.aload_n 0, 1) := by decide +kernel
theorem dX7_linkShellings_20 : decode cX7_linkShellings 20 = .ok (.aload_n 0, 1) := by decide +kernel
theorem dX7_linkShellings_21 : decode cX7_linkShellings 21 = .ok (.getfield 52, 3) := by decide +kernel
theorem dX7_linkShellings_24 : decode cX7_linkShellings 24 = .ok (.aload_n 0, 1) := by decide +kernel
theorem dX7_linkShellings_25 : decode cX7_linkShellings 25 = .ok (.getfield 315, 3) := by decide +kernel
theorem dX7_linkShellings_28 : decode cX7_linkShellings 28 = .ok (.invokevirtual 301, 3) := by decide +kernel
theorem dX7_linkShellings_31 : decode cX7_linkShellings 31 = .ok (.aload_n 0, 1) := by decide +kernel
theorem dX7_linkShellings_32 : decode cX7_linkShellings 32 = .ok (.getfield 46, 3) := by decide +kernel
theorem dX7_linkShellings_35 : decode cX7_linkShellings 35 = .ok (.iconst 0, 1) := by decide +kernel
theorem dX7_linkShellings_36 : decode cX7_linkShellings 36 = .ok (.iaload, 1) := by decide +kernel
theorem dX7_linkShellings_37 : decode cX7_linkShellings 37 = .ok (.ireturn, 1) := by decide +kernel
theorem dX7_isEvenLink_0 : decode cX7_isEvenLink 0 = .ok (.aload_n 0, 1) := by decide +kernel
theorem dX7_isEvenLink_1 : decode cX7_isEvenLink 1 = .ok (.iload_n 1, 1) := by decide +kernel
theorem dX7_isEvenLink_2 : decode cX7_isEvenLink 2 = .ok (.invokevirtual 321, 3) := by decide +kernel
theorem dX7_isEvenLink_5 : decode cX7_isEvenLink 5 = .ok (.aload_n 0, 1) := by decide +kernel
theorem dX7_isEvenLink_6 : decode cX7_isEvenLink 6 = .ok (.aload_n 0, 1) := by decide +kernel
theorem dX7_isEvenLink_7 : decode cX7_isEvenLink 7 = .ok (.getfield 52, 3) := by decide +kernel
theorem dX7_isEvenLink_10 : decode cX7_isEvenLink 10 = .ok (.aload_n 0, 1) := by decide +kernel
theorem dX7_isEvenLink_11 : decode cX7_isEvenLink 11 = .ok (.getfield 315, 3) := by decide +kernel
theorem dX7_isEvenLink_14 : decode cX7_isEvenLink 14 = .ok (.invokevirtual 195, 3) := by decide +kernel
theorem dX7_isEvenLink_17 : decode cX7_isEvenLink 17 = .ok (.iconst 0, 1) := by decide +kernel
theorem dX7_isEvenLink_18 : decode cX7_isEvenLink 18 = .ok (.istore_n 2, 1) := by decide +kernel
theorem dX7_isEvenLink_19 : decode cX7_isEvenLink 19 = .ok (.iload_n 2, 1) := by decide +kernel
theorem dX7_isEvenLink_20 : decode cX7_isEvenLink 20 = .ok (.aload_n 0, 1) := by decide +kernel
theorem dX7_isEvenLink_21 : decode cX7_isEvenLink 21 = .ok (.getfield 173, 3) := by decide +kernel
theorem dX7_isEvenLink_24 : decode cX7_isEvenLink 24 = .ok (.iload_n 1, 1) := by decide +kernel
theorem dX7_isEvenLink_25 : decode cX7_isEvenLink 25 = .ok (.invokestatic 136, 3) := by decide +kernel
theorem dX7_isEvenLink_28 : decode cX7_isEvenLink 28 = .ok (.isub, 1) := by decide +kernel
theorem dX7_isEvenLink_29 : decode cX7_isEvenLink 29 = .ok (.if_icmp .ge 19, 3) := by decide +kernel
theorem dX7_isEvenLink_32 : decode cX7_isEvenLink 32 = .ok (.aload_n 0, 1) := by decide +kernel
theorem dX7_isEvenLink_33 : decode cX7_isEvenLink 33 = .ok (.iload_n 2, 1) := by decide +kernel
theorem dX7_isEvenLink_34 : decode cX7_isEvenLink 34 = .ok (.invokevirtual 250, 3) := by decide +kernel
theorem dX7_isEvenLink_37 : decode cX7_isEvenLink 37 = .ok (.ifCond .eq 5, 3) := by decide +kernel
theorem dX7_isEvenLink_40 : decode cX7_isEvenLink 40 = .ok (.iconst 0, 1) := by decide +kernel
theorem dX7_isEvenLink_41 : decode cX7_isEvenLink 41 = .ok (.ireturn, 1) := by decide +kernel
theorem dX7_isEvenLink_42 : decode cX7_isEvenLink 42 = .ok (.iinc 2 1, 3) := by decide +kernel
theorem dX7_isEvenLink_45 : decode cX7_isEvenLink 45 = .ok (.goto (-26), 3) := by decide +kernel
theorem dX7_isEvenLink_48 : decode cX7_isEvenLink 48 = .ok (.iconst 1, 1) := by decide +kernel
theorem dX7_isEvenLink_49 : decode cX7_isEvenLink 49 = .ok (.ireturn, 1) := by decide +kernel
theorem dX7_even_0 : decode cX7_even 0 = .ok (.aload_n 0, 1) := by decide +kernel
theorem dX7_even_1 : decode cX7_even 1 = .ok (.aload_n 0, 1) := by decide +kernel
theorem dX7_even_2 : decode cX7_even 2 = .ok (.getfield 179, 3) := by decide +kernel
theorem dX7_even_5 : decode cX7_even 5 = .ok (.invokestatic 199, 3) := by decide +kernel
theorem dX7_even_8 : decode cX7_even 8 = .ok (.invokevirtual 159, 3) := by decide +kernel
theorem dX7_even_11 : decode cX7_even 11 = .ok (.ifCond .eq 5, 3) := by decide +kernel
theorem dX7_even_14 : decode cX7_even 14 = .ok (.iconst (-1), 1) := by decide +kernel
theorem dX7_even_15 : decode cX7_even 15 = .ok (.ireturn, 1) := by decide +kernel
theorem dX7_even_16 : decode cX7_even 16 = .ok (.iconst 0, 1) := by decide +kernel
theorem dX7_even_17 : decode cX7_even 17 = .ok (.istore_n 1, 1) := by decide +kernel
theorem dX7_even_18 : decode cX7_even 18 = .ok (.iload_n 1, 1) := by decide +kernel
theorem dX7_even_19 : decode cX7_even 19 = .ok (.aload_n 0, 1) := by decide +kernel
theorem dX7_even_20 : decode cX7_even 20 = .ok (.invokevirtual 212, 3) := by decide +kernel
theorem dX7_even_23 : decode cX7_even 23 = .ok (.if_icmp .gt 27, 3) := by decide +kernel
theorem dX7_even_26 : decode cX7_even 26 = .ok (.aload_n 0, 1) := by decide +kernel
theorem dX7_even_27 : decode cX7_even 27 = .ok (.iload_n 1, 1) := by decide +kernel
theorem dX7_even_28 : decode cX7_even 28 = .ok (.invokevirtual 237, 3) := by decide +kernel
theorem dX7_even_31 : decode cX7_even 31 = .ok (.ifCond .eq 13, 3) := by decide +kernel
theorem dX7_even_34 : decode cX7_even 34 = .ok (.aload_n 0, 1) := by decide +kernel
theorem dX7_even_35 : decode cX7_even 35 = .ok (.iload_n 1, 1) := by decide +kernel
theorem dX7_even_36 : decode cX7_even 36 = .ok (.invokevirtual 324, 3) := by decide +kernel
theorem dX7_even_39 : decode cX7_even 39 = .ok (.ifCond .ne 5, 3) := by decide +kernel
theorem dX7_even_42 : decode cX7_even 42 = .ok (.iconst 0, 1) := by decide +kernel
theorem dX7_even_43 : decode cX7_even 43 = .ok (.ireturn, 1) := by decide +kernel
theorem dX7_even_44 : decode cX7_even 44 = .ok (.iinc 1 1, 3) := by decide +kernel
theorem dX7_even_47 : decode cX7_even 47 = .ok (.goto (-29), 3) := by decide +kernel
theorem dX7_even_50 : decode cX7_even 50 = .ok (.iconst 1, 1) := by decide +kernel
theorem dX7_even_51 : decode cX7_even 51 = .ok (.ireturn, 1) := by decide +kernel
theorem dX7_obstruction_0 : decode cX7_obstruction 0 = .ok (.aload_n 0, 1) := by decide +kernel
theorem dX7_obstruction_1 : decode cX7_obstruction 1 = .ok (.aload_n 0, 1) := by decide +kernel
theorem dX7_obstruction_2 : decode cX7_obstruction 2 = .ok (.getfield 179, 3) := by decide +kernel
theorem dX7_obstruction_5 : decode cX7_obstruction 5 = .ok (.invokestatic 199, 3) := by decide +kernel
theorem dX7_obstruction_8 : decode cX7_obstruction 8 = .ok (.invokevirtual 159, 3) := by decide +kernel
theorem dX7_obstruction_11 : decode cX7_obstruction 11 = .ok (.ifCond .eq 5, 3) := by decide +kernel
theorem dX7_obstruction_14 : decode cX7_obstruction 14 = .ok (.iconst (-1), 1) := by decide +kernel
theorem dX7_obstruction_15 : decode cX7_obstruction 15 = .ok (.ireturn, 1) := by decide +kernel
theorem dX7_obstruction_16 : decode cX7_obstruction 16 = .ok (.bipush (-2), 2) := by decide +kernel
theorem dX7_obstruction_18 : decode cX7_obstruction 18 = .ok (.istore_n 1, 1) := by decide +kernel
theorem dX7_obstruction_19 : decode cX7_obstruction 19 = .ok (.iconst 0, 1) := by decide +kernel
theorem dX7_obstruction_20 : decode cX7_obstruction 20 = .ok (.istore_n 2, 1) := by decide +kernel
theorem dX7_obstruction_21 : decode cX7_obstruction 21 = .ok (.iload_n 2, 1) := by decide +kernel
theorem dX7_obstruction_22 : decode cX7_obstruction 22 = .ok (.aload_n 0, 1) := by decide +kernel
theorem dX7_obstruction_23 : decode cX7_obstruction 23 = .ok (.invokevirtual 212, 3) := by decide +kernel
theorem dX7_obstruction_26 : decode cX7_obstruction 26 = .ok (.if_icmp .gt 66, 3) := by decide +kernel
theorem dX7_obstruction_29 : decode cX7_obstruction 29 = .ok (.aload_n 0, 1) := by decide +kernel
theorem dX7_obstruction_30 : decode cX7_obstruction 30 = .ok (.iload_n 2, 1) := by decide +kernel
theorem dX7_obstruction_31 : decode cX7_obstruction 31 = .ok (.invokevirtual 237, 3) := by decide +kernel
theorem dX7_obstruction_34 : decode cX7_obstruction 34 = .ok (.ifCond .eq 52, 3) := by decide +kernel
theorem dX7_obstruction_37 : decode cX7_obstruction 37 = .ok (.iload_n 1, 1) := by decide +kernel
theorem dX7_obstruction_38 : decode cX7_obstruction 38 = .ok (.bipush (-2), 2) := by decide +kernel
theorem dX7_obstruction_40 : decode cX7_obstruction 40 = .ok (.if_icmp .eq 14, 3) := by decide +kernel
theorem dX7_obstruction_43 : decode cX7_obstruction 43 = .ok (.iload_n 2, 1) := by decide +kernel
theorem dX7_obstruction_44 : decode cX7_obstruction 44 = .ok (.invokestatic 136, 3) := by decide +kernel
theorem dX7_obstruction_47 : decode cX7_obstruction 47 = .ok (.iload_n 1, 1) := by decide +kernel
theorem dX7_obstruction_48 : decode cX7_obstruction 48 = .ok (.invokestatic 136, 3) := by decide +kernel
theorem dX7_obstruction_51 : decode cX7_obstruction 51 = .ok (.if_icmp .le 35, 3) := by decide +kernel
theorem dX7_obstruction_54 : decode cX7_obstruction 54 = .ok (.aload_n 0, 1) := by decide +kernel
theorem dX7_obstruction_55 : decode cX7_obstruction 55 = .ok (.iload_n 2, 1) := by decide +kernel
theorem dX7_obstruction_56 : decode cX7_obstruction 56 = .ok (.invokevirtual 321, 3) := by decide +kernel
theorem dX7_obstruction_59 : decode cX7_obstruction 59 = .ok (.aload_n 0, 1) := by decide +kernel
theorem dX7_obstruction_60 : decode cX7_obstruction 60 = .ok (.aload_n 0, 1) := by decide +kernel
theorem dX7_obstruction_61 : decode cX7_obstruction 61 = .ok (.getfield 52, 3) := by decide +kernel
theorem dX7_obstruction_64 : decode cX7_obstruction 64 = .ok (.aload_n 0, 1) := by decide +kernel
theorem dX7_obstruction_65 : decode cX7_obstruction 65 = .ok (.getfield 315, 3) := by decide +kernel
theorem dX7_obstruction_68 : decode cX7_obstruction 68 = .ok (.invokevirtual 301, 3) := by decide +kernel
theorem dX7_obstruction_71 : decode cX7_obstruction 71 = .ok (.aload_n 0, 1) := by decide +kernel
theorem dX7_obstruction_72 : decode cX7_obstruction 72 = .ok (.getfield 46, 3) := by decide +kernel
theorem dX7_obstruction_75 : decode cX7_obstruction 75 = .ok (.iconst 0, 1) := by decide +kernel
theorem dX7_obstruction_76 : decode cX7_obstruction 76 = .ok (.iaload, 1) := by decide +kernel
theorem dX7_obstruction_77 : decode cX7_obstruction 77 = .ok (.ifCond .ne 7, 3) := by decide +kernel
theorem dX7_obstruction_80 : decode cX7_obstruction 80 = .ok (.iload_n 2, 1) := by decide +kernel
theorem dX7_obstruction_81 : decode cX7_obstruction 81 = .ok (.goto 4, 3) := by decide +kernel
theorem dX7_obstruction_84 : decode cX7_obstruction 84 = .ok (.iload_n 1, 1) := by decide +kernel
theorem dX7_obstruction_85 : decode cX7_obstruction 85 = .ok (.istore_n 1, 1) := by decide +kernel
theorem dX7_obstruction_86 : decode cX7_obstruction 86 = .ok (.iinc 2 1, 3) := by decide +kernel
theorem dX7_obstruction_89 : decode cX7_obstruction 89 = .ok (.goto (-68), 3) := by decide +kernel
theorem dX7_obstruction_92 : decode cX7_obstruction 92 = .ok (.iload_n 1, 1) := by decide +kernel
theorem dX7_obstruction_93 : decode cX7_obstruction 93 = .ok (.ireturn, 1) := by decide +kernel
theorem dX7_canShed_0 : decode cX7_canShed 0 = .ok (.iconst 0, 1) := by decide +kernel
theorem dX7_canShed_1 : decode cX7_canShed 1 = .ok (.istore 4, 2) := by decide +kernel
theorem dX7_canShed_3 : decode cX7_canShed 3 = .ok (.iconst 0, 1) := by decide +kernel
theorem dX7_canShed_4 : decode cX7_canShed 4 = .ok (.istore 5, 2) := by decide +kernel
theorem dX7_canShed_6 : decode cX7_canShed 6 = .ok (.iconst 0, 1) := by decide +kernel
theorem dX7_canShed_7 : decode cX7_canShed 7 = .ok (.istore 6, 2) := by decide +kernel
theorem dX7_canShed_9 : decode cX7_canShed 9 = .ok (.iload 6, 2) := by decide +kernel
theorem dX7_canShed_11 : decode cX7_canShed 11 = .ok (.aload_n 0, 1) := by decide +kernel
theorem dX7_canShed_12 : decode cX7_canShed 12 = .ok (.getfield 176, 3) := by decide +kernel
theorem dX7_canShed_15 : decode cX7_canShed 15 = .ok (.if_icmp .ge 75, 3) := by decide +kernel
theorem dX7_canShed_18 : decode cX7_canShed 18 = .ok (.iload 4, 2) := by decide +kernel
theorem dX7_canShed_20 : decode cX7_canShed 20 = .ok (.iload_n 1, 1) := by decide +kernel
theorem dX7_canShed_21 : decode cX7_canShed 21 = .ok (.iload 6, 2) := by decide +kernel
theorem dX7_canShed_23 : decode cX7_canShed 23 = .ok (.invokestatic 132, 3) := by decide +kernel
theorem dX7_canShed_26 : decode cX7_canShed 26 = .ok (.ifCond .eq 21, 3) := by decide +kernel
theorem dX7_canShed_29 : decode cX7_canShed 29 = .ok (.aload_n 0, 1) := by decide +kernel
theorem dX7_canShed_30 : decode cX7_canShed 30 = .ok (.getfield 17, 3) := by decide +kernel
theorem dX7_canShed_33 : decode cX7_canShed 33 = .ok (.iload 6, 2) := by decide +kernel
theorem dX7_canShed_35 : decode cX7_canShed 35 = .ok (.iaload, 1) := by decide +kernel
theorem dX7_canShed_36 : decode cX7_canShed 36 = .ok (.iload_n 3, 1) := by decide +kernel
theorem dX7_canShed_37 : decode cX7_canShed 37 = .ok (.invokestatic 132, 3) := by decide +kernel
theorem dX7_canShed_40 : decode cX7_canShed 40 = .ok (.ifCond .eq 7, 3) := by decide +kernel
theorem dX7_canShed_43 : decode cX7_canShed 43 = .ok (.iconst 1, 1) := by decide +kernel
theorem dX7_canShed_44 : decode cX7_canShed 44 = .ok (.goto 4, 3) := by decide +kernel
theorem dX7_canShed_47 : decode cX7_canShed 47 = .ok (.iconst 0, 1) := by decide +kernel
theorem dX7_canShed_48 : decode cX7_canShed 48 = .ok (.ior, 1) := by decide +kernel
theorem dX7_canShed_49 : decode cX7_canShed 49 = .ok (.istore 4, 2) := by decide +kernel
theorem dX7_canShed_51 : decode cX7_canShed 51 = .ok (.iload 5, 2) := by decide +kernel
theorem dX7_canShed_53 : decode cX7_canShed 53 = .ok (.iload_n 1, 1) := by decide +kernel
theorem dX7_canShed_54 : decode cX7_canShed 54 = .ok (.iload 6, 2) := by decide +kernel
theorem dX7_canShed_56 : decode cX7_canShed 56 = .ok (.invokestatic 132, 3) := by decide +kernel
theorem dX7_canShed_59 : decode cX7_canShed 59 = .ok (.ifCond .eq 21, 3) := by decide +kernel
theorem dX7_canShed_62 : decode cX7_canShed 62 = .ok (.aload_n 0, 1) := by decide +kernel
theorem dX7_canShed_63 : decode cX7_canShed 63 = .ok (.getfield 17, 3) := by decide +kernel
theorem dX7_canShed_66 : decode cX7_canShed 66 = .ok (.iload 6, 2) := by decide +kernel
theorem dX7_canShed_68 : decode cX7_canShed 68 = .ok (.iaload, 1) := by decide +kernel
theorem dX7_canShed_69 : decode cX7_canShed 69 = .ok (.iload_n 3, 1) := by decide +kernel
theorem dX7_canShed_70 : decode cX7_canShed 70 = .ok (.invokestatic 132, 3) := by decide +kernel
theorem dX7_canShed_73 : decode cX7_canShed 73 = .ok (.ifCond .ne 7, 3) := by decide +kernel
theorem dX7_canShed_76 : decode cX7_canShed 76 = .ok (.iconst 1, 1) := by decide +kernel
theorem dX7_canShed_77 : decode cX7_canShed 77 = .ok (.goto 4, 3) := by decide +kernel
theorem dX7_canShed_80 : decode cX7_canShed 80 = .ok (.iconst 0, 1) := by decide +kernel
theorem dX7_canShed_81 : decode cX7_canShed 81 = .ok (.ior, 1) := by decide +kernel
theorem dX7_canShed_82 : decode cX7_canShed 82 = .ok (.istore 5, 2) := by decide +kernel
theorem dX7_canShed_84 : decode cX7_canShed 84 = .ok (.iinc 6 1, 3) := by decide +kernel
theorem dX7_canShed_87 : decode cX7_canShed 87 = .ok (.goto (-78), 3) := by decide +kernel
theorem dX7_canShed_90 : decode cX7_canShed 90 = .ok (.iload_n 2, 1) := by decide +kernel
theorem dX7_canShed_91 : decode cX7_canShed 91 = .ok (.iload_n 3, 1) := by decide +kernel
theorem dX7_canShed_92 : decode cX7_canShed 92 = .ok (.invokestatic 132, 3) := by decide +kernel
theorem dX7_canShed_95 : decode cX7_canShed 95 = .ok (.ifCond .ne 13, 3) := by decide +kernel
theorem dX7_canShed_98 : decode cX7_canShed 98 = .ok (.iload 4, 2) := by decide +kernel
theorem dX7_canShed_100 : decode cX7_canShed 100 = .ok (.ifCond .eq 8, 3) := by decide +kernel
theorem dX7_canShed_103 : decode cX7_canShed 103 = .ok (.iload 5, 2) := by decide +kernel
theorem dX7_canShed_105 : decode cX7_canShed 105 = .ok (.ifCond .ne 5, 3) := by decide +kernel
theorem dX7_canShed_108 : decode cX7_canShed 108 = .ok (.iconst 0, 1) := by decide +kernel
theorem dX7_canShed_109 : decode cX7_canShed 109 = .ok (.ireturn, 1) := by decide +kernel
theorem dX7_canShed_110 : decode cX7_canShed 110 = .ok (.iconst 0, 1) := by decide +kernel
theorem dX7_canShed_111 : decode cX7_canShed 111 = .ok (.istore 6, 2) := by decide +kernel
theorem dX7_canShed_113 : decode cX7_canShed 113 = .ok (.iload 6, 2) := by decide +kernel
theorem dX7_canShed_115 : decode cX7_canShed 115 = .ok (.aload_n 0, 1) := by decide +kernel
theorem dX7_canShed_116 : decode cX7_canShed 116 = .ok (.getfield 176, 3) := by decide +kernel
theorem dX7_canShed_119 : decode cX7_canShed 119 = .ok (.if_icmp .ge 129, 3) := by decide +kernel
theorem dX7_canShed_122 : decode cX7_canShed 122 = .ok (.iload_n 1, 1) := by decide +kernel
theorem dX7_canShed_123 : decode cX7_canShed 123 = .ok (.iload 6, 2) := by decide +kernel
theorem dX7_canShed_125 : decode cX7_canShed 125 = .ok (.invokestatic 132, 3) := by decide +kernel
theorem dX7_canShed_128 : decode cX7_canShed 128 = .ok (.ifCond .eq 17, 3) := by decide +kernel
theorem dX7_canShed_131 : decode cX7_canShed 131 = .ok (.aload_n 0, 1) := by decide +kernel
theorem dX7_canShed_132 : decode cX7_canShed 132 = .ok (.getfield 17, 3) := by decide +kernel
theorem dX7_canShed_135 : decode cX7_canShed 135 = .ok (.iload 6, 2) := by decide +kernel
theorem dX7_canShed_137 : decode cX7_canShed 137 = .ok (.iaload, 1) := by decide +kernel
theorem dX7_canShed_138 : decode cX7_canShed 138 = .ok (.iload_n 3, 1) := by decide +kernel
theorem dX7_canShed_139 : decode cX7_canShed 139 = .ok (.invokestatic 132, 3) := by decide +kernel
theorem dX7_canShed_142 : decode cX7_canShed 142 = .ok (.ifCond .ne 7, 3) := by decide +kernel
theorem dX7_canShed_145 : decode cX7_canShed 145 = .ok (.iconst 1, 1) := by decide +kernel
theorem dX7_canShed_146 : decode cX7_canShed 146 = .ok (.goto 4, 3) := by decide +kernel
theorem dX7_canShed_149 : decode cX7_canShed 149 = .ok (.iconst 0, 1) := by decide +kernel
theorem dX7_canShed_150 : decode cX7_canShed 150 = .ok (.istore 7, 2) := by decide +kernel
theorem dX7_canShed_152 : decode cX7_canShed 152 = .ok (.iconst 0, 1) := by decide +kernel
theorem dX7_canShed_153 : decode cX7_canShed 153 = .ok (.istore 8, 2) := by decide +kernel
theorem dX7_canShed_155 : decode cX7_canShed 155 = .ok (.iload 8, 2) := by decide +kernel
theorem dX7_canShed_157 : decode cX7_canShed 157 = .ok (.aload_n 0, 1) := by decide +kernel
theorem dX7_canShed_158 : decode cX7_canShed 158 = .ok (.getfield 176, 3) := by decide +kernel
theorem dX7_canShed_161 : decode cX7_canShed 161 = .ok (.if_icmp .ge 74, 3) := by decide +kernel
theorem dX7_canShed_164 : decode cX7_canShed 164 = .ok (.iload 7, 2) := by decide +kernel
theorem dX7_canShed_166 : decode cX7_canShed 166 = .ok (.ifCond .ne 69, 3) := by decide +kernel
theorem dX7_canShed_169 : decode cX7_canShed 169 = .ok (.iload_n 1, 1) := by decide +kernel
theorem dX7_canShed_170 : decode cX7_canShed 170 = .ok (.iload 8, 2) := by decide +kernel
theorem dX7_canShed_172 : decode cX7_canShed 172 = .ok (.invokestatic 132, 3) := by decide +kernel
theorem dX7_canShed_175 : decode cX7_canShed 175 = .ok (.ifCond .eq 51, 3) := by decide +kernel
theorem dX7_canShed_178 : decode cX7_canShed 178 = .ok (.aload_n 0, 1) := by decide +kernel
theorem dX7_canShed_179 : decode cX7_canShed 179 = .ok (.getfield 17, 3) := by decide +kernel
theorem dX7_canShed_182 : decode cX7_canShed 182 = .ok (.iload 8, 2) := by decide +kernel
theorem dX7_canShed_184 : decode cX7_canShed 184 = .ok (.iaload, 1) := by decide +kernel
theorem dX7_canShed_185 : decode cX7_canShed 185 = .ok (.iload_n 3, 1) := by decide +kernel
theorem dX7_canShed_186 : decode cX7_canShed 186 = .ok (.invokestatic 132, 3) := by decide +kernel
theorem dX7_canShed_189 : decode cX7_canShed 189 = .ok (.ifCond .ne 37, 3) := by decide +kernel
theorem dX7_canShed_192 : decode cX7_canShed 192 = .ok (.aload_n 0, 1) := by decide +kernel
theorem dX7_canShed_193 : decode cX7_canShed 193 = .ok (.getfield 17, 3) := by decide +kernel
theorem dX7_canShed_196 : decode cX7_canShed 196 = .ok (.iload 6, 2) := by decide +kernel
theorem dX7_canShed_198 : decode cX7_canShed 198 = .ok (.iaload, 1) := by decide +kernel
theorem dX7_canShed_199 : decode cX7_canShed 199 = .ok (.iload_n 2, 1) := by decide +kernel
theorem dX7_canShed_200 : decode cX7_canShed 200 = .ok (.iconst (-1), 1) := by decide +kernel
theorem dX7_canShed_201 : decode cX7_canShed 201 = .ok (.ixor, 1) := by decide +kernel
theorem dX7_canShed_202 : decode cX7_canShed 202 = .ok (.iand, 1) := by decide +kernel
theorem dX7_canShed_203 : decode cX7_canShed 203 = .ok (.iconst 1, 1) := by decide +kernel
theorem dX7_canShed_204 : decode cX7_canShed 204 = .ok (.iload_n 3, 1) := by decide +kernel
theorem dX7_canShed_205 : decode cX7_canShed 205 = .ok (.ishl, 1) := by decide +kernel
theorem dX7_canShed_206 : decode cX7_canShed 206 = .ok (.iconst (-1), 1) := by decide +kernel
theorem dX7_canShed_207 : decode cX7_canShed 207 = .ok (.ixor, 1) := by decide +kernel
theorem dX7_canShed_208 : decode cX7_canShed 208 = .ok (.iand, 1) := by decide +kernel
theorem dX7_canShed_209 : decode cX7_canShed 209 = .ok (.aload_n 0, 1) := by decide +kernel
theorem dX7_canShed_210 : decode cX7_canShed 210 = .ok (.getfield 17, 3) := by decide +kernel
theorem dX7_canShed_213 : decode cX7_canShed 213 = .ok (.iload 8, 2) := by decide +kernel
theorem dX7_canShed_215 : decode cX7_canShed 215 = .ok (.iaload, 1) := by decide +kernel
theorem dX7_canShed_216 : decode cX7_canShed 216 = .ok (.invokestatic 183, 3) := by decide +kernel
theorem dX7_canShed_219 : decode cX7_canShed 219 = .ok (.ifCond .eq 7, 3) := by decide +kernel
theorem dX7_canShed_222 : decode cX7_canShed 222 = .ok (.iconst 1, 1) := by decide +kernel
theorem dX7_canShed_223 : decode cX7_canShed 223 = .ok (.goto 4, 3) := by decide +kernel
theorem dX7_canShed_226 : decode cX7_canShed 226 = .ok (.iconst 0, 1) := by decide +kernel
theorem dX7_canShed_227 : decode cX7_canShed 227 = .ok (.istore 7, 2) := by decide +kernel
theorem dX7_canShed_229 : decode cX7_canShed 229 = .ok (.iinc 8 1, 3) := by decide +kernel
theorem dX7_canShed_232 : decode cX7_canShed 232 = .ok (.goto (-77), 3) := by decide +kernel
theorem dX7_canShed_235 : decode cX7_canShed 235 = .ok (.iload 7, 2) := by decide +kernel
theorem dX7_canShed_237 : decode cX7_canShed 237 = .ok (.ifCond .ne 5, 3) := by decide +kernel
theorem dX7_canShed_240 : decode cX7_canShed 240 = .ok (.iconst 0, 1) := by decide +kernel
theorem dX7_canShed_241 : decode cX7_canShed 241 = .ok (.ireturn, 1) := by decide +kernel
theorem dX7_canShed_242 : decode cX7_canShed 242 = .ok (.iinc 6 1, 3) := by decide +kernel
theorem dX7_canShed_245 : decode cX7_canShed 245 = .ok (.goto (-132), 3) := by decide +kernel
theorem dX7_canShed_248 : decode cX7_canShed 248 = .ok (.iconst 1, 1) := by decide +kernel
theorem dX7_canShed_249 : decode cX7_canShed 249 = .ok (.ireturn, 1) := by decide +kernel
theorem dX7_withPoint_0 : decode cX7_withPoint 0 = .ok (.iconst 0, 1) := by decide +kernel
theorem dX7_withPoint_1 : decode cX7_withPoint 1 = .ok (.istore_n 3, 1) := by decide +kernel
theorem dX7_withPoint_2 : decode cX7_withPoint 2 = .ok (.iconst 0, 1) := by decide +kernel
theorem dX7_withPoint_3 : decode cX7_withPoint 3 = .ok (.istore 4, 2) := by decide +kernel
theorem dX7_withPoint_5 : decode cX7_withPoint 5 = .ok (.iload 4, 2) := by decide +kernel
theorem dX7_withPoint_7 : decode cX7_withPoint 7 = .ok (.aload_n 0, 1) := by decide +kernel
theorem dX7_withPoint_8 : decode cX7_withPoint 8 = .ok (.getfield 176, 3) := by decide +kernel
theorem dX7_withPoint_11 : decode cX7_withPoint 11 = .ok (.if_icmp .ge 43, 3) := by decide +kernel
theorem dX7_withPoint_14 : decode cX7_withPoint 14 = .ok (.iload_n 3, 1) := by decide +kernel
theorem dX7_withPoint_15 : decode cX7_withPoint 15 = .ok (.iload_n 1, 1) := by decide +kernel
theorem dX7_withPoint_16 : decode cX7_withPoint 16 = .ok (.iload 4, 2) := by decide +kernel
theorem dX7_withPoint_18 : decode cX7_withPoint 18 = .ok (.invokestatic 132, 3) := by decide +kernel
theorem dX7_withPoint_21 : decode cX7_withPoint 21 = .ok (.ifCond .eq 24, 3) := by decide +kernel
theorem dX7_withPoint_24 : decode cX7_withPoint 24 = .ok (.aload_n 0, 1) := by decide +kernel
theorem dX7_withPoint_25 : decode cX7_withPoint 25 = .ok (.getfield 17, 3) := by decide +kernel
theorem dX7_withPoint_28 : decode cX7_withPoint 28 = .ok (.iload 4, 2) := by decide +kernel
theorem dX7_withPoint_30 : decode cX7_withPoint 30 = .ok (.iaload, 1) := by decide +kernel
theorem dX7_withPoint_31 : decode cX7_withPoint 31 = .ok (.iload_n 2, 1) := by decide +kernel
theorem dX7_withPoint_32 : decode cX7_withPoint 32 = .ok (.invokestatic 132, 3) := by decide +kernel
theorem dX7_withPoint_35 : decode cX7_withPoint 35 = .ok (.ifCond .eq 10, 3) := by decide +kernel
theorem dX7_withPoint_38 : decode cX7_withPoint 38 = .ok (.iconst 1, 1) := by decide +kernel
theorem dX7_withPoint_39 : decode cX7_withPoint 39 = .ok (.iload 4, 2) := by decide +kernel
theorem dX7_withPoint_41 : decode cX7_withPoint 41 = .ok (.ishl, 1) := by decide +kernel
theorem dX7_withPoint_42 : decode cX7_withPoint 42 = .ok (.goto 4, 3) := by decide +kernel
theorem dX7_withPoint_45 : decode cX7_withPoint 45 = .ok (.iconst 0, 1) := by decide +kernel
theorem dX7_withPoint_46 : decode cX7_withPoint 46 = .ok (.ior, 1) := by decide +kernel
theorem dX7_withPoint_47 : decode cX7_withPoint 47 = .ok (.istore_n 3, 1) := by decide +kernel
theorem dX7_withPoint_48 : decode cX7_withPoint 48 = .ok (.iinc 4 1, 3) := by decide +kernel
theorem dX7_withPoint_51 : decode cX7_withPoint 51 = .ok (.goto (-46), 3) := by decide +kernel
theorem dX7_withPoint_54 : decode cX7_withPoint 54 = .ok (.iload_n 3, 1) := by decide +kernel
theorem dX7_withPoint_55 : decode cX7_withPoint 55 = .ok (.ireturn, 1) := by decide +kernel
theorem dX7_fallsOf_0 : decode cX7_fallsOf 0 = .ok (.iload_n 1, 1) := by decide +kernel
theorem dX7_fallsOf_1 : decode cX7_fallsOf 1 = .ok (.invokestatic 136, 3) := by decide +kernel
theorem dX7_fallsOf_4 : decode cX7_fallsOf 4 = .ok (.iconst 1, 1) := by decide +kernel
theorem dX7_fallsOf_5 : decode cX7_fallsOf 5 = .ok (.if_icmp .ne 5, 3) := by decide +kernel
theorem dX7_fallsOf_8 : decode cX7_fallsOf 8 = .ok (.iconst 1, 1) := by decide +kernel
theorem dX7_fallsOf_9 : decode cX7_fallsOf 9 = .ok (.ireturn, 1) := by decide +kernel
theorem dX7_fallsOf_10 : decode cX7_fallsOf 10 = .ok (.iconst 0, 1) := by decide +kernel
theorem dX7_fallsOf_11 : decode cX7_fallsOf 11 = .ok (.istore_n 3, 1) := by decide +kernel
theorem dX7_fallsOf_12 : decode cX7_fallsOf 12 = .ok (.iload_n 3, 1) := by decide +kernel
theorem dX7_fallsOf_13 : decode cX7_fallsOf 13 = .ok (.aload_n 0, 1) := by decide +kernel
theorem dX7_fallsOf_14 : decode cX7_fallsOf 14 = .ok (.getfield 171, 3) := by decide +kernel
theorem dX7_fallsOf_17 : decode cX7_fallsOf 17 = .ok (.if_icmp .ge 31, 3) := by decide +kernel
theorem dX7_fallsOf_20 : decode cX7_fallsOf 20 = .ok (.aload_n 0, 1) := by decide +kernel
theorem dX7_fallsOf_21 : decode cX7_fallsOf 21 = .ok (.iload_n 1, 1) := by decide +kernel
theorem dX7_fallsOf_22 : decode cX7_fallsOf 22 = .ok (.iload_n 2, 1) := by decide +kernel
theorem dX7_fallsOf_23 : decode cX7_fallsOf 23 = .ok (.iload_n 3, 1) := by decide +kernel
theorem dX7_fallsOf_24 : decode cX7_fallsOf 24 = .ok (.invokevirtual 327, 3) := by decide +kernel
theorem dX7_fallsOf_27 : decode cX7_fallsOf 27 = .ok (.ifCond .eq 15, 3) := by decide +kernel
theorem dX7_fallsOf_30 : decode cX7_fallsOf 30 = .ok (.aload_n 0, 1) := by decide +kernel
theorem dX7_fallsOf_31 : decode cX7_fallsOf 31 = .ok (.iload_n 1, 1) := by decide +kernel
theorem dX7_fallsOf_32 : decode cX7_fallsOf 32 = .ok (.iload_n 2, 1) := by decide +kernel
theorem dX7_fallsOf_33 : decode cX7_fallsOf 33 = .ok (.iload_n 3, 1) := by decide +kernel
theorem dX7_fallsOf_34 : decode cX7_fallsOf 34 = .ok (.invokevirtual 330, 3) := by decide +kernel
theorem dX7_fallsOf_37 : decode cX7_fallsOf 37 = .ok (.ifCond .eq 5, 3) := by decide +kernel
theorem dX7_fallsOf_40 : decode cX7_fallsOf 40 = .ok (.iconst 1, 1) := by decide +kernel
theorem dX7_fallsOf_41 : decode cX7_fallsOf 41 = .ok (.ireturn, 1) := by decide +kernel
theorem dX7_fallsOf_42 : decode cX7_fallsOf 42 = .ok (.iinc 3 1, 3) := by decide +kernel
theorem dX7_fallsOf_45 : decode cX7_fallsOf 45 = .ok (.goto (-33), 3) := by decide +kernel
theorem dX7_fallsOf_48 : decode cX7_fallsOf 48 = .ok (.iconst 0, 1) := by decide +kernel
theorem dX7_fallsOf_49 : decode cX7_fallsOf 49 = .ok (.ireturn, 1) := by decide +kernel
theorem dX7_bothFall_0 : decode cX7_bothFall 0 = .ok (.aload_n 0, 1) := by decide +kernel
theorem dX7_bothFall_1 : decode cX7_bothFall 1 = .ok (.iload_n 1, 1) := by decide +kernel
theorem dX7_bothFall_2 : decode cX7_bothFall 2 = .ok (.iload_n 3, 1) := by decide +kernel
theorem dX7_bothFall_3 : decode cX7_bothFall 3 = .ok (.invokevirtual 333, 3) := by decide +kernel
theorem dX7_bothFall_6 : decode cX7_bothFall 6 = .ok (.istore 4, 2) := by decide +kernel
theorem dX7_bothFall_8 : decode cX7_bothFall 8 = .ok (.aload_n 0, 1) := by decide +kernel
theorem dX7_bothFall_9 : decode cX7_bothFall 9 = .ok (.iload_n 1, 1) := by decide +kernel
theorem dX7_bothFall_10 : decode cX7_bothFall 10 = .ok (.iload 4, 2) := by decide +kernel
theorem dX7_bothFall_12 : decode cX7_bothFall 12 = .ok (.iconst (-1), 1) := by decide +kernel
theorem dX7_bothFall_13 : decode cX7_bothFall 13 = .ok (.ixor, 1) := by decide +kernel
theorem dX7_bothFall_14 : decode cX7_bothFall 14 = .ok (.iand, 1) := by decide +kernel
theorem dX7_bothFall_15 : decode cX7_bothFall 15 = .ok (.iload_n 2, 1) := by decide +kernel
theorem dX7_bothFall_16 : decode cX7_bothFall 16 = .ok (.invokevirtual 336, 3) := by decide +kernel
theorem dX7_bothFall_19 : decode cX7_bothFall 19 = .ok (.ifCond .eq 21, 3) := by decide +kernel
theorem dX7_bothFall_22 : decode cX7_bothFall 22 = .ok (.aload_n 0, 1) := by decide +kernel
theorem dX7_bothFall_23 : decode cX7_bothFall 23 = .ok (.iload 4, 2) := by decide +kernel
theorem dX7_bothFall_25 : decode cX7_bothFall 25 = .ok (.iload_n 2, 1) := by decide +kernel
theorem dX7_bothFall_26 : decode cX7_bothFall 26 = .ok (.iconst 1, 1) := by decide +kernel
theorem dX7_bothFall_27 : decode cX7_bothFall 27 = .ok (.iload_n 3, 1) := by decide +kernel
theorem dX7_bothFall_28 : decode cX7_bothFall 28 = .ok (.ishl, 1) := by decide +kernel
theorem dX7_bothFall_29 : decode cX7_bothFall 29 = .ok (.ior, 1) := by decide +kernel
theorem dX7_bothFall_30 : decode cX7_bothFall 30 = .ok (.invokevirtual 336, 3) := by decide +kernel
theorem dX7_bothFall_33 : decode cX7_bothFall 33 = .ok (.ifCond .eq 7, 3) := by decide +kernel
theorem dX7_bothFall_36 : decode cX7_bothFall 36 = .ok (.iconst 1, 1) := by decide +kernel
theorem dX7_bothFall_37 : decode cX7_bothFall 37 = .ok (.goto 4, 3) := by decide +kernel
theorem dX7_bothFall_40 : decode cX7_bothFall 40 = .ok (.iconst 0, 1) := by decide +kernel
theorem dX7_bothFall_41 : decode cX7_bothFall 41 = .ok (.ireturn, 1) := by decide +kernel
theorem dX7_allFacets_0 : decode cX7_allFacets 0 = .ok (.iconst 1, 1) := by decide +kernel
theorem dX7_allFacets_1 : decode cX7_allFacets 1 = .ok (.aload_n 0, 1) := by decide +kernel
theorem dX7_allFacets_2 : decode cX7_allFacets 2 = .ok (.getfield 176, 3) := by decide +kernel
theorem dX7_allFacets_5 : decode cX7_allFacets 5 = .ok (.ishl, 1) := by decide +kernel
theorem dX7_allFacets_6 : decode cX7_allFacets 6 = .ok (.iconst 1, 1) := by decide +kernel
theorem dX7_allFacets_7 : decode cX7_allFacets 7 = .ok (.isub, 1) := by decide +kernel
theorem dX7_allFacets_8 : decode cX7_allFacets 8 = .ok (.ireturn, 1) := by decide +kernel
theorem dX7_fallsApart_0 : decode cX7_fallsApart 0 = .ok (.aload_n 0, 1) := by decide +kernel
theorem dX7_fallsApart_1 : decode cX7_fallsApart 1 = .ok (.aload_n 0, 1) := by decide +kernel
theorem dX7_fallsApart_2 : decode cX7_fallsApart 2 = .ok (.getfield 179, 3) := by decide +kernel
theorem dX7_fallsApart_5 : decode cX7_fallsApart 5 = .ok (.invokestatic 199, 3) := by decide +kernel
theorem dX7_fallsApart_8 : decode cX7_fallsApart 8 = .ok (.invokevirtual 159, 3) := by decide +kernel
theorem dX7_fallsApart_11 : decode cX7_fallsApart 11 = .ok (.ifCond .eq 5, 3) := by decide +kernel
theorem dX7_fallsApart_14 : decode cX7_fallsApart 14 = .ok (.iconst (-1), 1) := by decide +kernel
theorem dX7_fallsApart_15 : decode cX7_fallsApart 15 = .ok (.ireturn, 1) := by decide +kernel
theorem dX7_fallsApart_16 : decode cX7_fallsApart 16 = .ok (.aload_n 0, 1) := by decide +kernel
theorem dX7_fallsApart_17 : decode cX7_fallsApart 17 = .ok (.aload_n 0, 1) := by decide +kernel
theorem dX7_fallsApart_18 : decode cX7_fallsApart 18 = .ok (.invokevirtual 339, 3) := by decide +kernel
theorem dX7_fallsApart_21 : decode cX7_fallsApart 21 = .ok (.iconst 0, 1) := by decide +kernel
theorem dX7_fallsApart_22 : decode cX7_fallsApart 22 = .ok (.invokevirtual 336, 3) := by decide +kernel
theorem dX7_fallsApart_25 : decode cX7_fallsApart 25 = .ok (.ifCond .eq 7, 3) := by decide +kernel
theorem dX7_fallsApart_28 : decode cX7_fallsApart 28 = .ok (.iconst 1, 1) := by decide +kernel
theorem dX7_fallsApart_29 : decode cX7_fallsApart 29 = .ok (.goto 4, 3) := by decide +kernel
theorem dX7_fallsApart_32 : decode cX7_fallsApart 32 = .ok (.iconst 0, 1) := by decide +kernel
theorem dX7_fallsApart_33 : decode cX7_fallsApart 33 = .ok (.ireturn, 1) := by decide +kernel
theorem dX7_shed_0 : decode cX7_shed 0 = .ok (.aload_n 0, 1) := by decide +kernel
theorem dX7_shed_1 : decode cX7_shed 1 = .ok (.aload_n 0, 1) := by decide +kernel
theorem dX7_shed_2 : decode cX7_shed 2 = .ok (.getfield 179, 3) := by decide +kernel
theorem dX7_shed_5 : decode cX7_shed 5 = .ok (.invokestatic 199, 3) := by decide +kernel
theorem dX7_shed_8 : decode cX7_shed 8 = .ok (.invokevirtual 159, 3) := by decide +kernel
theorem dX7_shed_11 : decode cX7_shed 11 = .ok (.ifCond .eq 5, 3) := by decide +kernel
theorem dX7_shed_14 : decode cX7_shed 14 = .ok (.iconst (-1), 1) := by decide +kernel
theorem dX7_shed_15 : decode cX7_shed 15 = .ok (.ireturn, 1) := by decide +kernel
theorem dX7_shed_16 : decode cX7_shed 16 = .ok (.iconst 0, 1) := by decide +kernel
theorem dX7_shed_17 : decode cX7_shed 17 = .ok (.istore_n 1, 1) := by decide +kernel
theorem dX7_shed_18 : decode cX7_shed 18 = .ok (.iconst 0, 1) := by decide +kernel
theorem dX7_shed_19 : decode cX7_shed 19 = .ok (.istore_n 2, 1) := by decide +kernel
theorem dX7_shed_20 : decode cX7_shed 20 = .ok (.iload_n 2, 1) := by decide +kernel
theorem dX7_shed_21 : decode cX7_shed 21 = .ok (.aload_n 0, 1) := by decide +kernel
theorem dX7_shed_22 : decode cX7_shed 22 = .ok (.getfield 171, 3) := by decide +kernel
theorem dX7_shed_25 : decode cX7_shed 25 = .ok (.if_icmp .ge 32, 3) := by decide +kernel
theorem dX7_shed_28 : decode cX7_shed 28 = .ok (.iload_n 1, 1) := by decide +kernel
theorem dX7_shed_29 : decode cX7_shed 29 = .ok (.aload_n 0, 1) := by decide +kernel
theorem dX7_shed_30 : decode cX7_shed 30 = .ok (.aload_n 0, 1) := by decide +kernel
theorem dX7_shed_31 : decode cX7_shed 31 = .ok (.invokevirtual 339, 3) := by decide +kernel
theorem dX7_shed_34 : decode cX7_shed 34 = .ok (.iconst 0, 1) := by decide +kernel
theorem dX7_shed_35 : decode cX7_shed 35 = .ok (.iload_n 2, 1) := by decide +kernel
theorem dX7_shed_36 : decode cX7_shed 36 = .ok (.invokevirtual 327, 3) := by decide +kernel
theorem dX7_shed_39 : decode cX7_shed 39 = .ok (.ifCond .eq 9, 3) := by decide +kernel
theorem dX7_shed_42 : decode cX7_shed 42 = .ok (.iconst 1, 1) := by decide +kernel
theorem dX7_shed_43 : decode cX7_shed 43 = .ok (.iload_n 2, 1) := by decide +kernel
theorem dX7_shed_44 : decode cX7_shed 44 = .ok (.ishl, 1) := by decide +kernel
theorem dX7_shed_45 : decode cX7_shed 45 = .ok (.goto 4, 3) := by decide +kernel
theorem dX7_shed_48 : decode cX7_shed 48 = .ok (.iconst 0, 1) := by decide +kernel
theorem dX7_shed_49 : decode cX7_shed 49 = .ok (.ior, 1) := by decide +kernel
theorem dX7_shed_50 : decode cX7_shed 50 = .ok (.istore_n 1, 1) := by decide +kernel
theorem dX7_shed_51 : decode cX7_shed 51 = .ok (.iinc 2 1, 3) := by decide +kernel
theorem dX7_shed_54 : decode cX7_shed 54 = .ok (.goto (-34), 3) := by decide +kernel
theorem dX7_shed_57 : decode cX7_shed 57 = .ok (.iload_n 1, 1) := by decide +kernel
theorem dX7_shed_58 : decode cX7_shed 58 = .ok (.ireturn, 1) := by decide +kernel
theorem dX7_first_0 : decode cX7_first 0 = .ok (.aload_n 0, 1) := by decide +kernel
theorem dX7_first_1 : decode cX7_first 1 = .ok (.aload_n 0, 1) := by decide +kernel
theorem dX7_first_2 : decode cX7_first 2 = .ok (.getfield 179, 3) := by decide +kernel
theorem dX7_first_5 : decode cX7_first 5 = .ok (.invokestatic 199, 3) := by decide +kernel
theorem dX7_first_8 : decode cX7_first 8 = .ok (.invokevirtual 159, 3) := by decide +kernel
theorem dX7_first_11 : decode cX7_first 11 = .ok (.ifCond .eq 5, 3) := by decide +kernel
theorem dX7_first_14 : decode cX7_first 14 = .ok (.iconst (-1), 1) := by decide +kernel
theorem dX7_first_15 : decode cX7_first 15 = .ok (.ireturn, 1) := by decide +kernel
theorem dX7_first_16 : decode cX7_first 16 = .ok (.iconst 0, 1) := by decide +kernel
theorem dX7_first_17 : decode cX7_first 17 = .ok (.istore_n 1, 1) := by decide +kernel
theorem dX7_first_18 : decode cX7_first 18 = .ok (.iload_n 1, 1) := by decide +kernel
theorem dX7_first_19 : decode cX7_first 19 = .ok (.aload_n 0, 1) := by decide +kernel
theorem dX7_first_20 : decode cX7_first 20 = .ok (.getfield 171, 3) := by decide +kernel
theorem dX7_first_23 : decode cX7_first 23 = .ok (.if_icmp .ge 37, 3) := by decide +kernel
theorem dX7_first_26 : decode cX7_first 26 = .ok (.aload_n 0, 1) := by decide +kernel
theorem dX7_first_27 : decode cX7_first 27 = .ok (.aload_n 0, 1) := by decide +kernel
theorem dX7_first_28 : decode cX7_first 28 = .ok (.invokevirtual 339, 3) := by decide +kernel
theorem dX7_first_31 : decode cX7_first 31 = .ok (.iconst 0, 1) := by decide +kernel
theorem dX7_first_32 : decode cX7_first 32 = .ok (.iload_n 1, 1) := by decide +kernel
theorem dX7_first_33 : decode cX7_first 33 = .ok (.invokevirtual 327, 3) := by decide +kernel
theorem dX7_first_36 : decode cX7_first 36 = .ok (.ifCond .eq 18, 3) := by decide +kernel
theorem dX7_first_39 : decode cX7_first 39 = .ok (.aload_n 0, 1) := by decide +kernel
theorem dX7_first_40 : decode cX7_first 40 = .ok (.aload_n 0, 1) := by decide +kernel
theorem dX7_first_41 : decode cX7_first 41 = .ok (.invokevirtual 339, 3) := by decide +kernel
theorem dX7_first_44 : decode cX7_first 44 = .ok (.iconst 0, 1) := by decide +kernel
theorem dX7_first_45 : decode cX7_first 45 = .ok (.iload_n 1, 1) := by decide +kernel
theorem dX7_first_46 : decode cX7_first 46 = .ok (.invokevirtual 330, 3) := by decide +kernel
theorem dX7_first_49 : decode cX7_first 49 = .ok (.ifCond .eq 5, 3) := by decide +kernel
theorem dX7_first_52 : decode cX7_first 52 = .ok (.iload_n 1, 1) := by decide +kernel
theorem dX7_first_53 : decode cX7_first 53 = .ok (.ireturn, 1) := by decide +kernel
theorem dX7_first_54 : decode cX7_first 54 = .ok (.iinc 1 1, 3) := by decide +kernel
theorem dX7_first_57 : decode cX7_first 57 = .ok (.goto (-39), 3) := by decide +kernel
theorem dX7_first_60 : decode cX7_first 60 = .ok (.bipush (-2), 2) := by decide +kernel
theorem dX7_first_62 : decode cX7_first 62 = .ok (.ireturn, 1) := by decide +kernel
theorem dX7_add_0 : decode cX7_add 0 = .ok (.aload_n 0, 1) := by decide +kernel
theorem dX7_add_1 : decode cX7_add 1 = .ok (.getfield 179, 3) := by decide +kernel
theorem dX7_add_4 : decode cX7_add 4 = .ok (.ifCond .eq 26, 3) := by decide +kernel
theorem dX7_add_7 : decode cX7_add 7 = .ok (.aload_n 0, 1) := by decide +kernel
theorem dX7_add_8 : decode cX7_add 8 = .ok (.iload_n 1, 1) := by decide +kernel
theorem dX7_add_9 : decode cX7_add 9 = .ok (.invokevirtual 234, 3) := by decide +kernel
theorem dX7_add_12 : decode cX7_add 12 = .ok (.ifCond .eq 18, 3) := by decide +kernel
theorem dX7_add_15 : decode cX7_add 15 = .ok (.iload_n 1, 1) := by decide +kernel
theorem dX7_add_16 : decode cX7_add 16 = .ok (.invokestatic 136, 3) := by decide +kernel
theorem dX7_add_19 : decode cX7_add 19 = .ok (.aload_n 0, 1) := by decide +kernel
theorem dX7_add_20 : decode cX7_add 20 = .ok (.getfield 173, 3) := by decide +kernel
theorem dX7_add_23 : decode cX7_add 23 = .ok (.if_icmp .ne 7, 3) := by decide +kernel
theorem dX7_add_26 : decode cX7_add 26 = .ok (.iconst 1, 1) := by decide +kernel
theorem dX7_add_27 : decode cX7_add 27 = .ok (.goto 4, 3) := by decide +kernel
theorem dX7_add_30 : decode cX7_add 30 = .ok (.iconst 0, 1) := by decide +kernel
theorem dX7_add_31 : decode cX7_add 31 = .ok (.istore_n 2, 1) := by decide +kernel
theorem dX7_add_32 : decode cX7_add 32 = .ok (.aload_n 0, 1) := by decide +kernel
theorem dX7_add_33 : decode cX7_add 33 = .ok (.aload_n 0, 1) := by decide +kernel
theorem dX7_add_34 : decode cX7_add 34 = .ok (.getfield 179, 3) := by decide +kernel
theorem dX7_add_37 : decode cX7_add 37 = .ok (.iload_n 2, 1) := by decide +kernel
theorem dX7_add_38 : decode cX7_add 38 = .ok (.invokestatic 206, 3) := by decide +kernel
theorem dX7_add_41 : decode cX7_add 41 = .ok (.invokevirtual 159, 3) := by decide +kernel
theorem dX7_add_44 : decode cX7_add 44 = .ok (.ifCond .eq 5, 3) := by decide +kernel
theorem dX7_add_47 : decode cX7_add 47 = .ok (.iconst (-1), 1) := by decide +kernel
theorem dX7_add_48 : decode cX7_add 48 = .ok (.ireturn, 1) := by decide +kernel
theorem dX7_add_49 : decode cX7_add 49 = .ok (.iconst 0, 1) := by decide +kernel
theorem dX7_add_50 : decode cX7_add 50 = .ok (.istore_n 3, 1) := by decide +kernel
theorem dX7_add_51 : decode cX7_add 51 = .ok (.iload_n 3, 1) := by decide +kernel
theorem dX7_add_52 : decode cX7_add 52 = .ok (.aload_n 0, 1) := by decide +kernel
theorem dX7_add_53 : decode cX7_add 53 = .ok (.getfield 176, 3) := by decide +kernel
theorem dX7_add_56 : decode cX7_add 56 = .ok (.if_icmp .ge 25, 3) := by decide +kernel
theorem dX7_add_59 : decode cX7_add 59 = .ok (.aload_n 0, 1) := by decide +kernel
theorem dX7_add_60 : decode cX7_add 60 = .ok (.getfield 17, 3) := by decide +kernel
theorem dX7_add_63 : decode cX7_add 63 = .ok (.iload_n 3, 1) := by decide +kernel
theorem dX7_add_64 : decode cX7_add 64 = .ok (.iaload, 1) := by decide +kernel
theorem dX7_add_65 : decode cX7_add 65 = .ok (.iload_n 1, 1) := by decide +kernel
theorem dX7_add_66 : decode cX7_add 66 = .ok (.if_icmp .ne 9, 3) := by decide +kernel
theorem dX7_add_69 : decode cX7_add 69 = .ok (.aload_n 0, 1) := by decide +kernel
theorem dX7_add_70 : decode cX7_add 70 = .ok (.iconst 5, 1) := by decide +kernel
theorem dX7_add_71 : decode cX7_add 71 = .ok (.invokevirtual 168, 3) := by decide +kernel
theorem dX7_add_74 : decode cX7_add 74 = .ok (.ireturn, 1) := by decide +kernel
theorem dX7_add_75 : decode cX7_add 75 = .ok (.iinc 3 1, 3) := by decide +kernel
theorem dX7_add_78 : decode cX7_add 78 = .ok (.goto (-27), 3) := by decide +kernel
theorem dX7_add_81 : decode cX7_add 81 = .ok (.aload_n 0, 1) := by decide +kernel
theorem dX7_add_82 : decode cX7_add 82 = .ok (.getfield 176, 3) := by decide +kernel
theorem dX7_add_85 : decode cX7_add 85 = .ok (.bipush 12, 2) := by decide +kernel
theorem dX7_add_87 : decode cX7_add 87 = .ok (.if_icmp .ne 9, 3) := by decide +kernel
theorem dX7_add_90 : decode cX7_add 90 = .ok (.aload_n 0, 1) := by decide +kernel
theorem dX7_add_91 : decode cX7_add 91 = .ok (.iconst 3, 1) := by decide +kernel
theorem dX7_add_92 : decode cX7_add 92 = .ok (.invokevirtual 168, 3) := by decide +kernel
theorem dX7_add_95 : decode cX7_add 95 = .ok (.ireturn, 1) := by decide +kernel
theorem dX7_add_96 : decode cX7_add 96 = .ok (.aload_n 0, 1) := by decide +kernel
theorem dX7_add_97 : decode cX7_add 97 = .ok (.getfield 17, 3) := by decide +kernel
theorem dX7_add_100 : decode cX7_add 100 = .ok (.aload_n 0, 1) := by decide +kernel
theorem dX7_add_101 : decode cX7_add 101 = .ok (.getfield 176, 3) := by decide +kernel
theorem dX7_add_104 : decode cX7_add 104 = .ok (.iload_n 1, 1) := by decide +kernel
theorem dX7_add_105 : decode cX7_add 105 = .ok (.iastore, 1) := by decide +kernel
theorem dX7_add_106 : decode cX7_add 106 = .ok (.aload_n 0, 1) := by decide +kernel
theorem dX7_add_107 : decode cX7_add 107 = .ok (.getfield 20, 3) := by decide +kernel
theorem dX7_add_110 : decode cX7_add 110 = .ok (.aload_n 0, 1) := by decide +kernel
theorem dX7_add_111 : decode cX7_add 111 = .ok (.getfield 176, 3) := by decide +kernel
theorem dX7_add_114 : decode cX7_add 114 = .ok (.aload_n 0, 1) := by decide +kernel
theorem dX7_add_115 : decode cX7_add 115 = .ok (.getfield 176, 3) := by decide +kernel
theorem dX7_add_118 : decode cX7_add 118 = .ok (.iastore, 1) := by decide +kernel
theorem dX7_add_119 : decode cX7_add 119 = .ok (.aload_n 0, 1) := by decide +kernel
theorem dX7_add_120 : decode cX7_add 120 = .ok (.dup, 1) := by decide +kernel
theorem dX7_add_121 : decode cX7_add 121 = .ok (.getfield 176, 3) := by decide +kernel
theorem dX7_add_124 : decode cX7_add 124 = .ok (.iconst 1, 1) := by decide +kernel
theorem dX7_add_125 : decode cX7_add 125 = .ok (.iadd, 1) := by decide +kernel
theorem dX7_add_126 : decode cX7_add 126 = .ok (.putfield 176, 3) := by decide +kernel
theorem dX7_add_129 : decode cX7_add 129 = .ok (.aload_n 0, 1) := by decide +kernel
theorem dX7_add_130 : decode cX7_add 130 = .ok (.getfield 176, 3) := by decide +kernel
theorem dX7_add_133 : decode cX7_add 133 = .ok (.ireturn, 1) := by decide +kernel
theorem dX7_goes_0 : decode cX7_goes 0 = .ok (.iconst 0, 1) := by decide +kernel
theorem dX7_goes_1 : decode cX7_goes 1 = .ok (.istore_n 2, 1) := by decide +kernel
theorem dX7_goes_2 : decode cX7_goes 2 = .ok (.iconst 0, 1) := by decide +kernel
theorem dX7_goes_3 : decode cX7_goes 3 = .ok (.istore_n 3, 1) := by decide +kernel
theorem dX7_goes_4 : decode cX7_goes 4 = .ok (.iload_n 3, 1) := by decide +kernel
theorem dX7_goes_5 : decode cX7_goes 5 = .ok (.aload_n 0, 1) := by decide +kernel
theorem dX7_goes_6 : decode cX7_goes 6 = .ok (.getfield 176, 3) := by decide +kernel
theorem dX7_goes_9 : decode cX7_goes 9 = .ok (.if_icmp .ge 55, 3) := by decide +kernel
theorem dX7_goes_12 : decode cX7_goes 12 = .ok (.aload_n 0, 1) := by decide +kernel
theorem dX7_goes_13 : decode cX7_goes 13 = .ok (.getfield 20, 3) := by decide +kernel
theorem dX7_goes_16 : decode cX7_goes 16 = .ok (.iload_n 3, 1) := by decide +kernel
theorem dX7_goes_17 : decode cX7_goes 17 = .ok (.iaload, 1) := by decide +kernel
theorem dX7_goes_18 : decode cX7_goes 18 = .ok (.iload_n 1, 1) := by decide +kernel
theorem dX7_goes_19 : decode cX7_goes 19 = .ok (.if_icmp .eq 39, 3) := by decide +kernel
theorem dX7_goes_22 : decode cX7_goes 22 = .ok (.aload_n 0, 1) := by decide +kernel
theorem dX7_goes_23 : decode cX7_goes 23 = .ok (.getfield 20, 3) := by decide +kernel
theorem dX7_goes_26 : decode cX7_goes 26 = .ok (.iload_n 2, 1) := by decide +kernel
theorem dX7_goes_27 : decode cX7_goes 27 = .ok (.aload_n 0, 1) := by decide +kernel
theorem dX7_goes_28 : decode cX7_goes 28 = .ok (.getfield 20, 3) := by decide +kernel
theorem dX7_goes_31 : decode cX7_goes 31 = .ok (.iload_n 3, 1) := by decide +kernel
theorem dX7_goes_32 : decode cX7_goes 32 = .ok (.iaload, 1) := by decide +kernel
theorem dX7_goes_33 : decode cX7_goes 33 = .ok (.iload_n 1, 1) := by decide +kernel
theorem dX7_goes_34 : decode cX7_goes 34 = .ok (.if_icmp .le 14, 3) := by decide +kernel
theorem dX7_goes_37 : decode cX7_goes 37 = .ok (.aload_n 0, 1) := by decide +kernel
theorem dX7_goes_38 : decode cX7_goes 38 = .ok (.getfield 20, 3) := by decide +kernel
theorem dX7_goes_41 : decode cX7_goes 41 = .ok (.iload_n 3, 1) := by decide +kernel
theorem dX7_goes_42 : decode cX7_goes 42 = .ok (.iaload, 1) := by decide +kernel
theorem dX7_goes_43 : decode cX7_goes 43 = .ok (.iconst 1, 1) := by decide +kernel
theorem dX7_goes_44 : decode cX7_goes 44 = .ok (.isub, 1) := by decide +kernel
theorem dX7_goes_45 : decode cX7_goes 45 = .ok (.goto 9, 3) := by decide +kernel
theorem dX7_goes_48 : decode cX7_goes 48 = .ok (.aload_n 0, 1) := by decide +kernel
theorem dX7_goes_49 : decode cX7_goes 49 = .ok (.getfield 20, 3) := by decide +kernel
theorem dX7_goes_52 : decode cX7_goes 52 = .ok (.iload_n 3, 1) := by decide +kernel
theorem dX7_goes_53 : decode cX7_goes 53 = .ok (.iaload, 1) := by decide +kernel
theorem dX7_goes_54 : decode cX7_goes 54 = .ok (.iastore, 1) := by decide +kernel
theorem dX7_goes_55 : decode cX7_goes 55 = .ok (.iinc 2 1, 3) := by decide +kernel
theorem dX7_goes_58 : decode cX7_goes 58 = .ok (.iinc 3 1, 3) := by decide +kernel
theorem dX7_goes_61 : decode cX7_goes 61 = .ok (.goto (-57), 3) := by decide +kernel
theorem dX7_goes_64 : decode cX7_goes 64 = .ok (.aload_n 0, 1) := by decide +kernel
theorem dX7_goes_65 : decode cX7_goes 65 = .ok (.dup, 1) := by decide +kernel
theorem dX7_goes_66 : decode cX7_goes 66 = .ok (.getfield 176, 3) := by decide +kernel
theorem dX7_goes_69 : decode cX7_goes 69 = .ok (.iconst 1, 1) := by decide +kernel
theorem dX7_goes_70 : decode cX7_goes 70 = .ok (.isub, 1) := by decide +kernel
theorem dX7_goes_71 : decode cX7_goes 71 = .ok (.putfield 176, 3) := by decide +kernel
theorem dX7_goes_74 : decode cX7_goes 74 = .ok (.iload_n 1, 1) := by decide +kernel
theorem dX7_goes_75 : decode cX7_goes 75 = .ok (.istore_n 3, 1) := by decide +kernel
theorem dX7_goes_76 : decode cX7_goes 76 = .ok (.iload_n 3, 1) := by decide +kernel
theorem dX7_goes_77 : decode cX7_goes 77 = .ok (.aload_n 0, 1) := by decide +kernel
theorem dX7_goes_78 : decode cX7_goes 78 = .ok (.getfield 176, 3) := by decide +kernel
theorem dX7_goes_81 : decode cX7_goes 81 = .ok (.if_icmp .ge 23, 3) := by decide +kernel
theorem dX7_goes_84 : decode cX7_goes 84 = .ok (.aload_n 0, 1) := by decide +kernel
theorem dX7_goes_85 : decode cX7_goes 85 = .ok (.getfield 17, 3) := by decide +kernel
theorem dX7_goes_88 : decode cX7_goes 88 = .ok (.iload_n 3, 1) := by decide +kernel
theorem dX7_goes_89 : decode cX7_goes 89 = .ok (.aload_n 0, 1) := by decide +kernel
theorem dX7_goes_90 : decode cX7_goes 90 = .ok (.getfield 17, 3) := by decide +kernel
theorem dX7_goes_93 : decode cX7_goes 93 = .ok (.iload_n 3, 1) := by decide +kernel
theorem dX7_goes_94 : decode cX7_goes 94 = .ok (.iconst 1, 1) := by decide +kernel
theorem dX7_goes_95 : decode cX7_goes 95 = .ok (.iadd, 1) := by decide +kernel
theorem dX7_goes_96 : decode cX7_goes 96 = .ok (.iaload, 1) := by decide +kernel
theorem dX7_goes_97 : decode cX7_goes 97 = .ok (.iastore, 1) := by decide +kernel
theorem dX7_goes_98 : decode cX7_goes 98 = .ok (.iinc 3 1, 3) := by decide +kernel
theorem dX7_goes_101 : decode cX7_goes 101 = .ok (.goto (-25), 3) := by decide +kernel
theorem dX7_goes_104 : decode cX7_goes 104 = .ok (.return_, 1) := by decide +kernel
theorem dX7_drop_0 : decode cX7_drop 0 = .ok (.aload_n 0, 1) := by decide +kernel
theorem dX7_drop_1 : decode cX7_drop 1 = .ok (.aload_n 0, 1) := by decide +kernel
theorem dX7_drop_2 : decode cX7_drop 2 = .ok (.iload_n 1, 1) := by decide +kernel
theorem dX7_drop_3 : decode cX7_drop 3 = .ok (.invokevirtual 231, 3) := by decide +kernel
theorem dX7_drop_6 : decode cX7_drop 6 = .ok (.invokestatic 199, 3) := by decide +kernel
theorem dX7_drop_9 : decode cX7_drop 9 = .ok (.invokevirtual 159, 3) := by decide +kernel
theorem dX7_drop_12 : decode cX7_drop 12 = .ok (.ifCond .eq 5, 3) := by decide +kernel
theorem dX7_drop_15 : decode cX7_drop 15 = .ok (.iconst (-1), 1) := by decide +kernel
theorem dX7_drop_16 : decode cX7_drop 16 = .ok (.ireturn, 1) := by decide +kernel
theorem dX7_drop_17 : decode cX7_drop 17 = .ok (.aload_n 0, 1) := by decide +kernel
theorem dX7_drop_18 : decode cX7_drop 18 = .ok (.getfield 176, 3) := by decide +kernel
theorem dX7_drop_21 : decode cX7_drop 21 = .ok (.iconst 1, 1) := by decide +kernel
theorem dX7_drop_22 : decode cX7_drop 22 = .ok (.if_icmp .ne 9, 3) := by decide +kernel
theorem dX7_drop_25 : decode cX7_drop 25 = .ok (.aload_n 0, 1) := by decide +kernel
theorem dX7_drop_26 : decode cX7_drop 26 = .ok (.iconst 5, 1) := by decide +kernel
theorem dX7_drop_27 : decode cX7_drop 27 = .ok (.invokevirtual 168, 3) := by decide +kernel
theorem dX7_drop_30 : decode cX7_drop 30 = .ok (.ireturn, 1) := by decide +kernel
theorem dX7_drop_31 : decode cX7_drop 31 = .ok (.aload_n 0, 1) := by decide +kernel
theorem dX7_drop_32 : decode cX7_drop 32 = .ok (.iload_n 1, 1) := by decide +kernel
theorem dX7_drop_33 : decode cX7_drop 33 = .ok (.invokevirtual 342, 3) := by decide +kernel
theorem dX7_drop_36 : decode cX7_drop 36 = .ok (.aload_n 0, 1) := by decide +kernel
theorem dX7_drop_37 : decode cX7_drop 37 = .ok (.getfield 176, 3) := by decide +kernel
theorem dX7_drop_40 : decode cX7_drop 40 = .ok (.ireturn, 1) := by decide +kernel
theorem dX7_peel_0 : decode cX7_peel 0 = .ok (.aload_n 0, 1) := by decide +kernel
theorem dX7_peel_1 : decode cX7_peel 1 = .ok (.aload_n 0, 1) := by decide +kernel
theorem dX7_peel_2 : decode cX7_peel 2 = .ok (.getfield 179, 3) := by decide +kernel
theorem dX7_peel_5 : decode cX7_peel 5 = .ok (.invokestatic 199, 3) := by decide +kernel
theorem dX7_peel_8 : decode cX7_peel 8 = .ok (.invokevirtual 159, 3) := by decide +kernel
theorem dX7_peel_11 : decode cX7_peel 11 = .ok (.ifCond .eq 5, 3) := by decide +kernel
theorem dX7_peel_14 : decode cX7_peel 14 = .ok (.iconst (-1), 1) := by decide +kernel
theorem dX7_peel_15 : decode cX7_peel 15 = .ok (.ireturn, 1) := by decide +kernel
theorem dX7_peel_16 : decode cX7_peel 16 = .ok (.aload_n 0, 1) := by decide +kernel
theorem dX7_peel_17 : decode cX7_peel 17 = .ok (.getfield 176, 3) := by decide +kernel
theorem dX7_peel_20 : decode cX7_peel 20 = .ok (.iconst 1, 1) := by decide +kernel
theorem dX7_peel_21 : decode cX7_peel 21 = .ok (.if_icmp .ne 9, 3) := by decide +kernel
theorem dX7_peel_24 : decode cX7_peel 24 = .ok (.aload_n 0, 1) := by decide +kernel
theorem dX7_peel_25 : decode cX7_peel 25 = .ok (.iconst 5, 1) := by decide +kernel
theorem dX7_peel_26 : decode cX7_peel 26 = .ok (.invokevirtual 168, 3) := by decide +kernel
theorem dX7_peel_29 : decode cX7_peel 29 = .ok (.ireturn, 1) := by decide +kernel
theorem dX7_peel_30 : decode cX7_peel 30 = .ok (.aload_n 0, 1) := by decide +kernel
theorem dX7_peel_31 : decode cX7_peel 31 = .ok (.getfield 20, 3) := by decide +kernel
theorem dX7_peel_34 : decode cX7_peel 34 = .ok (.aload_n 0, 1) := by decide +kernel
theorem dX7_peel_35 : decode cX7_peel 35 = .ok (.getfield 176, 3) := by decide +kernel
theorem dX7_peel_38 : decode cX7_peel 38 = .ok (.iconst 1, 1) := by decide +kernel
theorem dX7_peel_39 : decode cX7_peel 39 = .ok (.isub, 1) := by decide +kernel
theorem dX7_peel_40 : decode cX7_peel 40 = .ok (.iaload, 1) := by decide +kernel
theorem dX7_peel_41 : decode cX7_peel 41 = .ok (.istore_n 1, 1) := by decide +kernel
theorem dX7_peel_42 : decode cX7_peel 42 = .ok (.aload_n 0, 1) := by decide +kernel
theorem dX7_peel_43 : decode cX7_peel 43 = .ok (.getfield 17, 3) := by decide +kernel
theorem dX7_peel_46 : decode cX7_peel 46 = .ok (.iload_n 1, 1) := by decide +kernel
theorem dX7_peel_47 : decode cX7_peel 47 = .ok (.iaload, 1) := by decide +kernel
theorem dX7_peel_48 : decode cX7_peel 48 = .ok (.istore_n 2, 1) := by decide +kernel
theorem dX7_peel_49 : decode cX7_peel 49 = .ok (.aload_n 0, 1) := by decide +kernel
theorem dX7_peel_50 : decode cX7_peel 50 = .ok (.iload_n 1, 1) := by decide +kernel
theorem dX7_peel_51 : decode cX7_peel 51 = .ok (.invokevirtual 342, 3) := by decide +kernel
theorem dX7_peel_54 : decode cX7_peel 54 = .ok (.iload_n 2, 1) := by decide +kernel
theorem dX7_peel_55 : decode cX7_peel 55 = .ok (.ireturn, 1) := by decide +kernel
theorem dX7_move_0 : decode cX7_move 0 = .ok (.aload_n 0, 1) := by decide +kernel
theorem dX7_move_1 : decode cX7_move 1 = .ok (.aload_n 0, 1) := by decide +kernel
theorem dX7_move_2 : decode cX7_move 2 = .ok (.iload_n 1, 1) := by decide +kernel
theorem dX7_move_3 : decode cX7_move 3 = .ok (.invokevirtual 231, 3) := by decide +kernel
theorem dX7_move_6 : decode cX7_move 6 = .ok (.ifCond .eq 15, 3) := by decide +kernel
theorem dX7_move_9 : decode cX7_move 9 = .ok (.aload_n 0, 1) := by decide +kernel
theorem dX7_move_10 : decode cX7_move 10 = .ok (.iload_n 2, 1) := by decide +kernel
theorem dX7_move_11 : decode cX7_move 11 = .ok (.invokevirtual 231, 3) := by decide +kernel
theorem dX7_move_14 : decode cX7_move 14 = .ok (.ifCond .eq 7, 3) := by decide +kernel
theorem dX7_move_17 : decode cX7_move 17 = .ok (.iconst 1, 1) := by decide +kernel
theorem dX7_move_18 : decode cX7_move 18 = .ok (.goto 4, 3) := by decide +kernel
theorem dX7_move_21 : decode cX7_move 21 = .ok (.iconst 0, 1) := by decide +kernel
theorem dX7_move_22 : decode cX7_move 22 = .ok (.invokestatic 199, 3) := by decide +kernel
theorem dX7_move_25 : decode cX7_move 25 = .ok (.invokevirtual 159, 3) := by decide +kernel
theorem dX7_move_28 : decode cX7_move 28 = .ok (.ifCond .eq 5, 3) := by decide +kernel
theorem dX7_move_31 : decode cX7_move 31 = .ok (.iconst (-1), 1) := by decide +kernel
theorem dX7_move_32 : decode cX7_move 32 = .ok (.ireturn, 1) := by decide +kernel
theorem dX7_move_33 : decode cX7_move 33 = .ok (.aload_n 0, 1) := by decide +kernel
theorem dX7_move_34 : decode cX7_move 34 = .ok (.getfield 20, 3) := by decide +kernel
theorem dX7_move_37 : decode cX7_move 37 = .ok (.iload_n 1, 1) := by decide +kernel
theorem dX7_move_38 : decode cX7_move 38 = .ok (.iaload, 1) := by decide +kernel
theorem dX7_move_39 : decode cX7_move 39 = .ok (.istore_n 3, 1) := by decide +kernel
theorem dX7_move_40 : decode cX7_move 40 = .ok (.iload_n 1, 1) := by decide +kernel
theorem dX7_move_41 : decode cX7_move 41 = .ok (.istore 4, 2) := by decide +kernel
theorem dX7_move_43 : decode cX7_move 43 = .ok (.iload 4, 2) := by decide +kernel
theorem dX7_move_45 : decode cX7_move 45 = .ok (.iload_n 2, 1) := by decide +kernel
theorem dX7_move_46 : decode cX7_move 46 = .ok (.if_icmp .ge 25, 3) := by decide +kernel
theorem dX7_move_49 : decode cX7_move 49 = .ok (.aload_n 0, 1) := by decide +kernel
theorem dX7_move_50 : decode cX7_move 50 = .ok (.getfield 20, 3) := by decide +kernel
theorem dX7_move_53 : decode cX7_move 53 = .ok (.iload 4, 2) := by decide +kernel
theorem dX7_move_55 : decode cX7_move 55 = .ok (.aload_n 0, 1) := by decide +kernel
theorem dX7_move_56 : decode cX7_move 56 = .ok (.getfield 20, 3) := by decide +kernel
theorem dX7_move_59 : decode cX7_move 59 = .ok (.iload 4, 2) := by decide +kernel
theorem dX7_move_61 : decode cX7_move 61 = .ok (.iconst 1, 1) := by decide +kernel
theorem dX7_move_62 : decode cX7_move 62 = .ok (.iadd, 1) := by decide +kernel
theorem dX7_move_63 : decode cX7_move 63 = .ok (.iaload, 1) := by decide +kernel
theorem dX7_move_64 : decode cX7_move 64 = .ok (.iastore, 1) := by decide +kernel
theorem dX7_move_65 : decode cX7_move 65 = .ok (.iinc 4 1, 3) := by decide +kernel
theorem dX7_move_68 : decode cX7_move 68 = .ok (.goto (-25), 3) := by decide +kernel
theorem dX7_move_71 : decode cX7_move 71 = .ok (.iload_n 1, 1) := by decide +kernel
theorem dX7_move_72 : decode cX7_move 72 = .ok (.istore 4, 2) := by decide +kernel
theorem dX7_move_74 : decode cX7_move 74 = .ok (.iload 4, 2) := by decide +kernel
theorem dX7_move_76 : decode cX7_move 76 = .ok (.iload_n 2, 1) := by decide +kernel
theorem dX7_move_77 : decode cX7_move 77 = .ok (.if_icmp .le 25, 3) := by decide +kernel
theorem dX7_move_80 : decode cX7_move 80 = .ok (.aload_n 0, 1) := by decide +kernel
theorem dX7_move_81 : decode cX7_move 81 = .ok (.getfield 20, 3) := by decide +kernel
theorem dX7_move_84 : decode cX7_move 84 = .ok (.iload 4, 2) := by decide +kernel
theorem dX7_move_86 : decode cX7_move 86 = .ok (.aload_n 0, 1) := by decide +kernel
theorem dX7_move_87 : decode cX7_move 87 = .ok (.getfield 20, 3) := by decide +kernel
theorem dX7_move_90 : decode cX7_move 90 = .ok (.iload 4, 2) := by decide +kernel
theorem dX7_move_92 : decode cX7_move 92 = .ok (.iconst 1, 1) := by decide +kernel
theorem dX7_move_93 : decode cX7_move 93 = .ok (.isub, 1) := by decide +kernel
theorem dX7_move_94 : decode cX7_move 94 = .ok (.iaload, 1) := by decide +kernel
theorem dX7_move_95 : decode cX7_move 95 = .ok (.iastore, 1) := by decide +kernel
theorem dX7_move_96 : decode cX7_move 96 = .ok (.iinc 4 (-1), 3) := by decide +kernel
theorem dX7_move_99 : decode cX7_move 99 = .ok (.goto (-25), 3) := by decide +kernel
theorem dX7_move_102 : decode cX7_move 102 = .ok (.aload_n 0, 1) := by decide +kernel
theorem dX7_move_103 : decode cX7_move 103 = .ok (.getfield 20, 3) := by decide +kernel
theorem dX7_move_106 : decode cX7_move 106 = .ok (.iload_n 2, 1) := by decide +kernel
theorem dX7_move_107 : decode cX7_move 107 = .ok (.iload_n 3, 1) := by decide +kernel
theorem dX7_move_108 : decode cX7_move 108 = .ok (.iastore, 1) := by decide +kernel
theorem dX7_move_109 : decode cX7_move 109 = .ok (.aload_n 0, 1) := by decide +kernel
theorem dX7_move_110 : decode cX7_move 110 = .ok (.invokevirtual 272, 3) := by decide +kernel
theorem dX7_move_113 : decode cX7_move 113 = .ok (.ireturn, 1) := by decide +kernel
theorem dX7_lay_0 : decode cX7_lay 0 = .ok (.aload_n 0, 1) := by decide +kernel
theorem dX7_lay_1 : decode cX7_lay 1 = .ok (.invokevirtual 304, 3) := by decide +kernel
theorem dX7_lay_4 : decode cX7_lay 4 = .ok (.ifCond .ne 5, 3) := by decide +kernel
theorem dX7_lay_7 : decode cX7_lay 7 = .ok (.iconst (-1), 1) := by decide +kernel
theorem dX7_lay_8 : decode cX7_lay 8 = .ok (.ireturn, 1) := by decide +kernel
theorem dX7_lay_9 : decode cX7_lay 9 = .ok (.aload_n 0, 1) := by decide +kernel
theorem dX7_lay_10 : decode cX7_lay 10 = .ok (.getfield 46, 3) := by decide +kernel
theorem dX7_lay_13 : decode cX7_lay 13 = .ok (.iconst 0, 1) := by decide +kernel
theorem dX7_lay_14 : decode cX7_lay 14 = .ok (.iaload, 1) := by decide +kernel
theorem dX7_lay_15 : decode cX7_lay 15 = .ok (.ifCond .ne 9, 3) := by decide +kernel
theorem dX7_lay_18 : decode cX7_lay 18 = .ok (.aload_n 0, 1) := by decide +kernel
theorem dX7_lay_19 : decode cX7_lay 19 = .ok (.iconst 5, 1) := by decide +kernel
theorem dX7_lay_20 : decode cX7_lay 20 = .ok (.invokevirtual 168, 3) := by decide +kernel
theorem dX7_lay_23 : decode cX7_lay 23 = .ok (.ireturn, 1) := by decide +kernel
theorem dX7_lay_24 : decode cX7_lay 24 = .ok (.aload_n 0, 1) := by decide +kernel
theorem dX7_lay_25 : decode cX7_lay 25 = .ok (.invokevirtual 307, 3) := by decide +kernel
theorem dX7_lay_28 : decode cX7_lay 28 = .ok (.iconst 0, 1) := by decide +kernel
theorem dX7_lay_29 : decode cX7_lay 29 = .ok (.istore_n 1, 1) := by decide +kernel
theorem dX7_lay_30 : decode cX7_lay 30 = .ok (.iload_n 1, 1) := by decide +kernel
theorem dX7_lay_31 : decode cX7_lay 31 = .ok (.aload_n 0, 1) := by decide +kernel
theorem dX7_lay_32 : decode cX7_lay 32 = .ok (.getfield 176, 3) := by decide +kernel
theorem dX7_lay_35 : decode cX7_lay 35 = .ok (.if_icmp .ge 21, 3) := by decide +kernel
theorem dX7_lay_38 : decode cX7_lay 38 = .ok (.aload_n 0, 1) := by decide +kernel
theorem dX7_lay_39 : decode cX7_lay 39 = .ok (.getfield 20, 3) := by decide +kernel
theorem dX7_lay_42 : decode cX7_lay 42 = .ok (.iload_n 1, 1) := by decide +kernel
theorem dX7_lay_43 : decode cX7_lay 43 = .ok (.aload_n 0, 1) := by decide +kernel
theorem dX7_lay_44 : decode cX7_lay 44 = .ok (.getfield 49, 3) := by decide +kernel
theorem dX7_lay_47 : decode cX7_lay 47 = .ok (.iload_n 1, 1) := by decide +kernel
theorem dX7_lay_48 : decode cX7_lay 48 = .ok (.iaload, 1) := by decide +kernel
theorem dX7_lay_49 : decode cX7_lay 49 = .ok (.iastore, 1) := by decide +kernel
theorem dX7_lay_50 : decode cX7_lay 50 = .ok (.iinc 1 1, 3) := by decide +kernel
theorem dX7_lay_53 : decode cX7_lay 53 = .ok (.goto (-23), 3) := by decide +kernel
theorem dX7_lay_56 : decode cX7_lay 56 = .ok (.aload_n 0, 1) := by decide +kernel
theorem dX7_lay_57 : decode cX7_lay 57 = .ok (.getfield 46, 3) := by decide +kernel
theorem dX7_lay_60 : decode cX7_lay 60 = .ok (.iconst 0, 1) := by decide +kernel
theorem dX7_lay_61 : decode cX7_lay 61 = .ok (.iaload, 1) := by decide +kernel
theorem dX7_lay_62 : decode cX7_lay 62 = .ok (.ireturn, 1) := by decide +kernel
theorem dX7_turn_0 : decode cX7_turn 0 = .ok (.aload_n 0, 1) := by decide +kernel
theorem dX7_turn_1 : decode cX7_turn 1 = .ok (.getfield 179, 3) := by decide +kernel
theorem dX7_turn_4 : decode cX7_turn 4 = .ok (.ifCond .eq 40, 3) := by decide +kernel
theorem dX7_turn_7 : decode cX7_turn 7 = .ok (.iload_n 1, 1) := by decide +kernel
theorem dX7_turn_8 : decode cX7_turn 8 = .ok (.iconst 0, 1) := by decide +kernel
theorem dX7_turn_9 : decode cX7_turn 9 = .ok (.aload_n 0, 1) := by decide +kernel
theorem dX7_turn_10 : decode cX7_turn 10 = .ok (.getfield 171, 3) := by decide +kernel
theorem dX7_turn_13 : decode cX7_turn 13 = .ok (.iconst 1, 1) := by decide +kernel
theorem dX7_turn_14 : decode cX7_turn 14 = .ok (.isub, 1) := by decide +kernel
theorem dX7_turn_15 : decode cX7_turn 15 = .ok (.invokestatic 84, 3) := by decide +kernel
theorem dX7_turn_18 : decode cX7_turn 18 = .ok (.ifCond .eq 26, 3) := by decide +kernel
theorem dX7_turn_21 : decode cX7_turn 21 = .ok (.iload_n 2, 1) := by decide +kernel
theorem dX7_turn_22 : decode cX7_turn 22 = .ok (.iconst 0, 1) := by decide +kernel
theorem dX7_turn_23 : decode cX7_turn 23 = .ok (.aload_n 0, 1) := by decide +kernel
theorem dX7_turn_24 : decode cX7_turn 24 = .ok (.getfield 171, 3) := by decide +kernel
theorem dX7_turn_27 : decode cX7_turn 27 = .ok (.iconst 1, 1) := by decide +kernel
theorem dX7_turn_28 : decode cX7_turn 28 = .ok (.isub, 1) := by decide +kernel
theorem dX7_turn_29 : decode cX7_turn 29 = .ok (.invokestatic 84, 3) := by decide +kernel
theorem dX7_turn_32 : decode cX7_turn 32 = .ok (.ifCond .eq 12, 3) := by decide +kernel
theorem dX7_turn_35 : decode cX7_turn 35 = .ok (.iload_n 1, 1) := by decide +kernel
theorem dX7_turn_36 : decode cX7_turn 36 = .ok (.iload_n 2, 1) := by decide +kernel
theorem dX7_turn_37 : decode cX7_turn 37 = .ok (.if_icmp .eq 7, 3) := by decide +kernel
theorem dX7_turn_40 : decode cX7_turn 40 = .ok (.iconst 1, 1) := by decide +kernel
theorem dX7_turn_41 : decode cX7_turn 41 = .ok (.goto 4, 3) := by decide +kernel
theorem dX7_turn_44 : decode cX7_turn 44 = .ok (.iconst 0, 1) := by decide +kernel
theorem dX7_turn_45 : decode cX7_turn 45 = .ok (.istore_n 3, 1) := by decide +kernel
theorem dX7_turn_46 : decode cX7_turn 46 = .ok (.aload_n 0, 1) := by decide +kernel
theorem dX7_turn_47 : decode cX7_turn 47 = .ok (.iload_n 3, 1) := by decide +kernel
theorem dX7_turn_48 : decode cX7_turn 48 = .ok (.invokestatic 199, 3) := by decide +kernel
theorem dX7_turn_51 : decode cX7_turn 51 = .ok (.invokevirtual 159, 3) := by decide +kernel
theorem dX7_turn_54 : decode cX7_turn 54 = .ok (.ifCond .eq 5, 3) := by decide +kernel
theorem dX7_turn_57 : decode cX7_turn 57 = .ok (.iconst (-1), 1) := by decide +kernel
theorem dX7_turn_58 : decode cX7_turn 58 = .ok (.ireturn, 1) := by decide +kernel
theorem dX7_turn_59 : decode cX7_turn 59 = .ok (.iconst 0, 1) := by decide +kernel
theorem dX7_turn_60 : decode cX7_turn 60 = .ok (.istore 4, 2) := by decide +kernel
theorem dX7_turn_62 : decode cX7_turn 62 = .ok (.iconst 0, 1) := by decide +kernel
theorem dX7_turn_63 : decode cX7_turn 63 = .ok (.istore 5, 2) := by decide +kernel
theorem dX7_turn_65 : decode cX7_turn 65 = .ok (.iload 5, 2) := by decide +kernel
theorem dX7_turn_67 : decode cX7_turn 67 = .ok (.aload_n 0, 1) := by decide +kernel
theorem dX7_turn_68 : decode cX7_turn 68 = .ok (.getfield 176, 3) := by decide +kernel
theorem dX7_turn_71 : decode cX7_turn 71 = .ok (.if_icmp .ge 54, 3) := by decide +kernel
theorem dX7_turn_74 : decode cX7_turn 74 = .ok (.aload_n 0, 1) := by decide +kernel
theorem dX7_turn_75 : decode cX7_turn 75 = .ok (.getfield 17, 3) := by decide +kernel
theorem dX7_turn_78 : decode cX7_turn 78 = .ok (.iload 5, 2) := by decide +kernel
theorem dX7_turn_80 : decode cX7_turn 80 = .ok (.iaload, 1) := by decide +kernel
theorem dX7_turn_81 : decode cX7_turn 81 = .ok (.iload_n 1, 1) := by decide +kernel
theorem dX7_turn_82 : decode cX7_turn 82 = .ok (.invokestatic 132, 3) := by decide +kernel
theorem dX7_turn_85 : decode cX7_turn 85 = .ok (.aload_n 0, 1) := by decide +kernel
theorem dX7_turn_86 : decode cX7_turn 86 = .ok (.getfield 17, 3) := by decide +kernel
theorem dX7_turn_89 : decode cX7_turn 89 = .ok (.iload 5, 2) := by decide +kernel
theorem dX7_turn_91 : decode cX7_turn 91 = .ok (.iaload, 1) := by decide +kernel
theorem dX7_turn_92 : decode cX7_turn 92 = .ok (.iload_n 2, 1) := by decide +kernel
theorem dX7_turn_93 : decode cX7_turn 93 = .ok (.invokestatic 132, 3) := by decide +kernel
theorem dX7_turn_96 : decode cX7_turn 96 = .ok (.if_icmp .eq 23, 3) := by decide +kernel
theorem dX7_turn_99 : decode cX7_turn 99 = .ok (.aload_n 0, 1) := by decide +kernel
theorem dX7_turn_100 : decode cX7_turn 100 = .ok (.getfield 17, 3) := by decide +kernel
theorem dX7_turn_103 : decode cX7_turn 103 = .ok (.iload 5, 2) := by decide +kernel
theorem dX7_turn_105 : decode cX7_turn 105 = .ok (.dup2, 1) := by decide +kernel
theorem dX7_turn_106 : decode cX7_turn 106 = .ok (.iaload, 1) := by decide +kernel
theorem dX7_turn_107 : decode cX7_turn 107 = .ok (.iconst 1, 1) := by decide +kernel
theorem dX7_turn_108 : decode cX7_turn 108 = .ok (.iload_n 1, 1) := by decide +kernel
theorem dX7_turn_109 : decode cX7_turn 109 = .ok (.ishl, 1) := by decide +kernel
theorem dX7_turn_110 : decode cX7_turn 110 = .ok (.iconst 1, 1) := by decide +kernel
theorem dX7_turn_111 : decode cX7_turn 111 = .ok (.iload_n 2, 1) := by decide +kernel
theorem dX7_turn_112 : decode cX7_turn 112 = .ok (.ishl, 1) := by decide +kernel
theorem dX7_turn_113 : decode cX7_turn 113 = .ok (.ior, 1) := by decide +kernel
theorem dX7_turn_114 : decode cX7_turn 114 = .ok (.ixor, 1) := by decide +kernel
theorem dX7_turn_115 : decode cX7_turn 115 = .ok (.iastore, 1) := by decide +kernel
theorem dX7_turn_116 : decode cX7_turn 116 = .ok (.iinc 4 1, 3) := by decide +kernel
theorem dX7_turn_119 : decode cX7_turn 119 = .ok (.iinc 5 1, 3) := by decide +kernel
theorem dX7_turn_122 : decode cX7_turn 122 = .ok (.goto (-57), 3) := by decide +kernel
theorem dX7_turn_125 : decode cX7_turn 125 = .ok (.iload 4, 2) := by decide +kernel
theorem dX7_turn_127 : decode cX7_turn 127 = .ok (.ireturn, 1) := by decide +kernel
theorem dX7_breaks_0 : decode cX7_breaks 0 = .ok (.aload_n 0, 1) := by decide +kernel
theorem dX7_breaks_1 : decode cX7_breaks 1 = .ok (.iconst 0, 1) := by decide +kernel
theorem dX7_breaks_2 : decode cX7_breaks 2 = .ok (.putfield 55, 3) := by decide +kernel
theorem dX7_breaks_5 : decode cX7_breaks 5 = .ok (.iconst 0, 1) := by decide +kernel
theorem dX7_breaks_6 : decode cX7_breaks 6 = .ok (.istore_n 2, 1) := by decide +kernel
theorem dX7_breaks_7 : decode cX7_breaks 7 = .ok (.iconst 0, 1) := by decide +kernel
theorem dX7_breaks_8 : decode cX7_breaks 8 = .ok (.istore_n 3, 1) := by decide +kernel
theorem dX7_breaks_9 : decode cX7_breaks 9 = .ok (.aload_n 0, 1) := by decide +kernel
theorem dX7_breaks_10 : decode cX7_breaks 10 = .ok (.getfield 179, 3) := by decide +kernel
theorem dX7_breaks_13 : decode cX7_breaks 13 = .ok (.ifCond .eq 35, 3) := by decide +kernel
theorem dX7_breaks_16 : decode cX7_breaks 16 = .ok (.iload_n 3, 1) := by decide +kernel
theorem dX7_breaks_17 : decode cX7_breaks 17 = .ok (.aload_n 0, 1) := by decide +kernel
theorem dX7_breaks_18 : decode cX7_breaks 18 = .ok (.getfield 176, 3) := by decide +kernel
theorem dX7_breaks_21 : decode cX7_breaks 21 = .ok (.if_icmp .ge 27, 3) := by decide +kernel
theorem dX7_breaks_24 : decode cX7_breaks 24 = .ok (.aload_n 0, 1) := by decide +kernel
theorem dX7_breaks_25 : decode cX7_breaks 25 = .ok (.iload_n 3, 1) := by decide +kernel
theorem dX7_breaks_26 : decode cX7_breaks 26 = .ok (.invokevirtual 266, 3) := by decide +kernel
theorem dX7_breaks_29 : decode cX7_breaks 29 = .ok (.ifCond .ne 13, 3) := by decide +kernel
theorem dX7_breaks_32 : decode cX7_breaks 32 = .ok (.iload_n 2, 1) := by decide +kernel
theorem dX7_breaks_33 : decode cX7_breaks 33 = .ok (.iload_n 1, 1) := by decide +kernel
theorem dX7_breaks_34 : decode cX7_breaks 34 = .ok (.if_icmp .ne 5, 3) := by decide +kernel
theorem dX7_breaks_37 : decode cX7_breaks 37 = .ok (.iload_n 3, 1) := by decide +kernel
theorem dX7_breaks_38 : decode cX7_breaks 38 = .ok (.ireturn, 1) := by decide +kernel
theorem dX7_breaks_39 : decode cX7_breaks 39 = .ok (.iinc 2 1, 3) := by decide +kernel
theorem dX7_breaks_42 : decode cX7_breaks 42 = .ok (.iinc 3 1, 3) := by decide +kernel
theorem dX7_breaks_45 : decode cX7_breaks 45 = .ok (.goto (-36), 3) := by decide +kernel
theorem dX7_breaks_48 : decode cX7_breaks 48 = .ok (.aload_n 0, 1) := by decide +kernel
theorem dX7_breaks_49 : decode cX7_breaks 49 = .ok (.iconst 1, 1) := by decide +kernel
theorem dX7_breaks_50 : decode cX7_breaks 50 = .ok (.putfield 55, 3) := by decide +kernel
theorem dX7_breaks_53 : decode cX7_breaks 53 = .ok (.iconst 0, 1) := by decide +kernel
theorem dX7_breaks_54 : decode cX7_breaks 54 = .ok (.ireturn, 1) := by decide +kernel
theorem dX7_size_0 : decode cX7_size 0 = .ok (.aload_n 0, 1) := by decide +kernel
theorem dX7_size_1 : decode cX7_size 1 = .ok (.iconst 0, 1) := by decide +kernel
theorem dX7_size_2 : decode cX7_size 2 = .ok (.putfield 55, 3) := by decide +kernel
theorem dX7_size_5 : decode cX7_size 5 = .ok (.aload_n 0, 1) := by decide +kernel
theorem dX7_size_6 : decode cX7_size 6 = .ok (.getfield 61, 3) := by decide +kernel
theorem dX7_size_9 : decode cX7_size 9 = .ok (.ireturn, 1) := by decide +kernel
theorem dX7_trouble_0 : decode cX7_trouble 0 = .ok (.aload_n 0, 1) := by decide +kernel
theorem dX7_trouble_1 : decode cX7_trouble 1 = .ok (.iconst 0, 1) := by decide +kernel
theorem dX7_trouble_2 : decode cX7_trouble 2 = .ok (.putfield 55, 3) := by decide +kernel
theorem dX7_trouble_5 : decode cX7_trouble 5 = .ok (.aload_n 0, 1) := by decide +kernel
theorem dX7_trouble_6 : decode cX7_trouble 6 = .ok (.getfield 58, 3) := by decide +kernel
theorem dX7_trouble_9 : decode cX7_trouble 9 = .ok (.ireturn, 1) := by decide +kernel
end
section
theorem dX6_init_0 : decode cX6_init 0 = .ok (.aload_n 0, 1) := by decide +kernel
theorem dX6_init_1 : decode cX6_init 1 = .ok (.invokespecial 1, 3) := by decide +kernel
theorem dX6_init_4 : decode cX6_init 4 = .ok (.aload_n 0, 1) := by decide +kernel
theorem dX6_init_5 : decode cX6_init 5 = .ok (.new 7, 3) := by decide +kernel
theorem dX6_init_8 : decode cX6_init 8 = .ok (.dup, 1) := by decide +kernel
theorem dX6_init_9 : decode cX6_init 9 = .ok (.invokespecial 9, 3) := by decide +kernel
theorem dX6_init_12 : decode cX6_init 12 = .ok (.putfield 10, 3) := by decide +kernel
theorem dX6_init_15 : decode cX6_init 15 = .ok (.aload_n 0, 1) := by decide +kernel
theorem dX6_init_16 : decode cX6_init 16 = .ok (.new 16, 3) := by decide +kernel
theorem dX6_init_19 : decode cX6_init 19 = .ok (.dup, 1) := by decide +kernel
theorem dX6_init_20 : decode cX6_init 20 = .ok (.invokespecial 18, 3) := by decide +kernel
theorem dX6_init_23 : decode cX6_init 23 = .ok (.putfield 19, 3) := by decide +kernel
theorem dX6_init_26 : decode cX6_init 26 = .ok (.aload_n 0, 1) := by decide +kernel
theorem dX6_init_27 : decode cX6_init 27 = .ok (.new 23, 3) := by decide +kernel
theorem dX6_init_30 : decode cX6_init 30 = .ok (.dup, 1) := by decide +kernel
theorem dX6_init_31 : decode cX6_init 31 = .ok (.invokespecial 25, 3) := by decide +kernel
theorem dX6_init_34 : decode cX6_init 34 = .ok (.putfield 26, 3) := by decide +kernel
theorem dX6_init_37 : decode cX6_init 37 = .ok (.aload_n 0, 1) := by decide +kernel
theorem dX6_init_38 : decode cX6_init 38 = .ok (.new 30, 3) := by decide +kernel
theorem dX6_init_41 : decode cX6_init 41 = .ok (.dup, 1) := by decide +kernel
theorem dX6_init_42 : decode cX6_init 42 = .ok (.invokespecial 32, 3) := by decide +kernel
theorem dX6_init_45 : decode cX6_init 45 = .ok (.putfield 33, 3) := by decide +kernel
theorem dX6_init_48 : decode cX6_init 48 = .ok (.aload_n 0, 1) := by decide +kernel
theorem dX6_init_49 : decode cX6_init 49 = .ok (.new 37, 3) := by decide +kernel
theorem dX6_init_52 : decode cX6_init 52 = .ok (.dup, 1) := by decide +kernel
theorem dX6_init_53 : decode cX6_init 53 = .ok (.invokespecial 39, 3) := by decide +kernel
theorem dX6_init_56 : decode cX6_init 56 = .ok (.putfield 40, 3) := by decide +kernel
theorem dX6_init_59 : decode cX6_init 59 = .ok (.aload_n 0, 1) := by decide +kernel
theorem dX6_init_60 : decode cX6_init 60 = .ok (.new 44, 3) := by decide +kernel
theorem dX6_init_63 : decode cX6_init 63 = .ok (.dup, 1) := by decide +kernel
theorem dX6_init_64 : decode cX6_init 64 = .ok (.invokespecial 46, 3) := by decide +kernel
theorem dX6_init_67 : decode cX6_init 67 = .ok (.putfield 47, 3) := by decide +kernel
theorem dX6_init_70 : decode cX6_init 70 = .ok (.aload_n 0, 1) := by decide +kernel
theorem dX6_init_71 : decode cX6_init 71 = .ok (.iconst 0, 1) := by decide +kernel
theorem dX6_init_72 : decode cX6_init 72 = .ok (.putfield 51, 3) := by decide +kernel
theorem dX6_init_75 : decode cX6_init 75 = .ok (.return_, 1) := by decide +kernel
theorem dX6_feed_0 : decode cX6_feed 0 = .ok (.aload_n 0, 1) := by decide +kernel
theorem dX6_feed_1 : decode cX6_feed 1 = .ok (.getfield 10, 3) := by decide +kernel
theorem dX6_feed_4 : decode cX6_feed 4 = .ok (.invokevirtual 55, 3) := by decide +kernel
theorem dX6_feed_7 : decode cX6_feed 7 = .ok (.ifCond .ne 5, 3) := by decide +kernel
theorem dX6_feed_10 : decode cX6_feed 10 = .ok (.iconst (-1), 1) := by decide +kernel
theorem dX6_feed_11 : decode cX6_feed 11 = .ok (.ireturn, 1) := by decide +kernel
theorem dX6_feed_12 : decode cX6_feed 12 = .ok (.aload_n 0, 1) := by decide +kernel
theorem dX6_feed_13 : decode cX6_feed 13 = .ok (.getfield 10, 3) := by decide +kernel
theorem dX6_feed_16 : decode cX6_feed 16 = .ok (.iload_n 1, 1) := by decide +kernel
theorem dX6_feed_17 : decode cX6_feed 17 = .ok (.invokevirtual 59, 3) := by decide +kernel
theorem dX6_feed_20 : decode cX6_feed 20 = .ok (.aload_n 0, 1) := by decide +kernel
theorem dX6_feed_21 : decode cX6_feed 21 = .ok (.getfield 10, 3) := by decide +kernel
theorem dX6_feed_24 : decode cX6_feed 24 = .ok (.iload_n 2, 1) := by decide +kernel
theorem dX6_feed_25 : decode cX6_feed 25 = .ok (.invokevirtual 59, 3) := by decide +kernel
theorem dX6_feed_28 : decode cX6_feed 28 = .ok (.aload_n 0, 1) := by decide +kernel
theorem dX6_feed_29 : decode cX6_feed 29 = .ok (.getfield 10, 3) := by decide +kernel
theorem dX6_feed_32 : decode cX6_feed 32 = .ok (.iload_n 3, 1) := by decide +kernel
theorem dX6_feed_33 : decode cX6_feed 33 = .ok (.invokevirtual 59, 3) := by decide +kernel
theorem dX6_feed_36 : decode cX6_feed 36 = .ok (.aload_n 0, 1) := by decide +kernel
theorem dX6_feed_37 : decode cX6_feed 37 = .ok (.getfield 10, 3) := by decide +kernel
theorem dX6_feed_40 : decode cX6_feed 40 = .ok (.iload 4, 2) := by decide +kernel
theorem dX6_feed_42 : decode cX6_feed 42 = .ok (.invokevirtual 59, 3) := by decide +kernel
theorem dX6_feed_45 : decode cX6_feed 45 = .ok (.aload_n 0, 1) := by decide +kernel
theorem dX6_feed_46 : decode cX6_feed 46 = .ok (.getfield 10, 3) := by decide +kernel
theorem dX6_feed_49 : decode cX6_feed 49 = .ok (.iload 5, 2) := by decide +kernel
theorem dX6_feed_51 : decode cX6_feed 51 = .ok (.invokevirtual 59, 3) := by decide +kernel
theorem dX6_feed_54 : decode cX6_feed 54 = .ok (.aload_n 0, 1) := by decide +kernel
theorem dX6_feed_55 : decode cX6_feed 55 = .ok (.getfield 10, 3) := by decide +kernel
theorem dX6_feed_58 : decode cX6_feed 58 = .ok (.getfield 63, 3) := by decide +kernel
theorem dX6_feed_61 : decode cX6_feed 61 = .ok (.ireturn, 1) := by decide +kernel
theorem dX6_complex_0 : decode cX6_complex 0 = .ok (.aload_n 0, 1) := by decide +kernel
theorem dX6_complex_1 : decode cX6_complex 1 = .ok (.iload_n 1, 1) := by decide +kernel
theorem dX6_complex_2 : decode cX6_complex 2 = .ok (.ifCond .lt 14, 3) := by decide +kernel
theorem dX6_complex_5 : decode cX6_complex 5 = .ok (.iload_n 1, 1) := by decide +kernel
theorem dX6_complex_6 : decode cX6_complex 6 = .ok (.aload_n 0, 1) := by decide +kernel
theorem dX6_complex_7 : decode cX6_complex 7 = .ok (.getfield 10, 3) := by decide +kernel
theorem dX6_complex_10 : decode cX6_complex 10 = .ok (.getfield 63, 3) := by decide +kernel
theorem dX6_complex_13 : decode cX6_complex 13 = .ok (.if_icmp .le 7, 3) := by decide +kernel
theorem dX6_complex_16 : decode cX6_complex 16 = .ok (.iconst 1, 1) := by decide +kernel
theorem dX6_complex_17 : decode cX6_complex 17 = .ok (.goto 4, 3) := by decide +kernel
theorem dX6_complex_20 : decode cX6_complex 20 = .ok (.iconst 0, 1) := by decide +kernel
theorem dX6_complex_21 : decode cX6_complex 21 = .ok (.iconst 2, 1) := by decide +kernel
theorem dX6_complex_22 : decode cX6_complex 22 = .ok (.invokevirtual 66, 3) := by decide +kernel
theorem dX6_complex_25 : decode cX6_complex 25 = .ok (.ifCond .ne 27, 3) := by decide +kernel
theorem dX6_complex_28 : decode cX6_complex 28 = .ok (.aload_n 0, 1) := by decide +kernel
theorem dX6_complex_29 : decode cX6_complex 29 = .ok (.aload_n 0, 1) := by decide +kernel
theorem dX6_complex_30 : decode cX6_complex 30 = .ok (.getfield 10, 3) := by decide +kernel
theorem dX6_complex_33 : decode cX6_complex 33 = .ok (.iload_n 1, 1) := by decide +kernel
theorem dX6_complex_34 : decode cX6_complex 34 = .ok (.invokevirtual 70, 3) := by decide +kernel
theorem dX6_complex_37 : decode cX6_complex 37 = .ok (.ifCond .ne 7, 3) := by decide +kernel
theorem dX6_complex_40 : decode cX6_complex 40 = .ok (.iconst 1, 1) := by decide +kernel
theorem dX6_complex_41 : decode cX6_complex 41 = .ok (.goto 4, 3) := by decide +kernel
theorem dX6_complex_44 : decode cX6_complex 44 = .ok (.iconst 0, 1) := by decide +kernel
theorem dX6_complex_45 : decode cX6_complex 45 = .ok (.iconst 4, 1) := by decide +kernel
theorem dX6_complex_46 : decode cX6_complex 46 = .ok (.invokevirtual 66, 3) := by decide +kernel
theorem dX6_complex_49 : decode cX6_complex 49 = .ok (.ifCond .eq 5, 3) := by decide +kernel
theorem dX6_complex_52 : decode cX6_complex 52 = .ok (.iconst (-1), 1) := by decide +kernel
theorem dX6_complex_53 : decode cX6_complex 53 = .ok (.ireturn, 1) := by decide +kernel
theorem dX6_complex_54 : decode cX6_complex 54 = .ok (.aload_n 0, 1) := by decide +kernel
theorem dX6_complex_55 : decode cX6_complex 55 = .ok (.getfield 19, 3) := by decide +kernel
theorem dX6_complex_58 : decode cX6_complex 58 = .ok (.aload_n 0, 1) := by decide +kernel
theorem dX6_complex_59 : decode cX6_complex 59 = .ok (.getfield 10, 3) := by decide +kernel
theorem dX6_complex_62 : decode cX6_complex 62 = .ok (.invokevirtual 74, 3) := by decide +kernel
theorem dX6_complex_65 : decode cX6_complex 65 = .ok (.aload_n 0, 1) := by decide +kernel
theorem dX6_complex_66 : decode cX6_complex 66 = .ok (.getfield 26, 3) := by decide +kernel
theorem dX6_complex_69 : decode cX6_complex 69 = .ok (.invokevirtual 78, 3) := by decide +kernel
theorem dX6_complex_72 : decode cX6_complex 72 = .ok (.aload_n 0, 1) := by decide +kernel
theorem dX6_complex_73 : decode cX6_complex 73 = .ok (.invokevirtual 81, 3) := by decide +kernel
theorem dX6_complex_76 : decode cX6_complex 76 = .ok (.aload_n 0, 1) := by decide +kernel
theorem dX6_complex_77 : decode cX6_complex 77 = .ok (.getfield 19, 3) := by decide +kernel
theorem dX6_complex_80 : decode cX6_complex 80 = .ok (.getfield 84, 3) := by decide +kernel
theorem dX6_complex_83 : decode cX6_complex 83 = .ok (.ireturn, 1) := by decide +kernel
theorem dX6_fault_0 : decode cX6_fault 0 = .ok (.aload_n 0, 1) := by decide +kernel
theorem dX6_fault_1 : decode cX6_fault 1 = .ok (.getfield 10, 3) := by decide +kernel
theorem dX6_fault_4 : decode cX6_fault 4 = .ok (.getfield 87, 3) := by decide +kernel
theorem dX6_fault_7 : decode cX6_fault 7 = .ok (.ireturn, 1) := by decide +kernel
theorem dX6_where_0 : decode cX6_where 0 = .ok (.aload_n 0, 1) := by decide +kernel
theorem dX6_where_1 : decode cX6_where 1 = .ok (.getfield 51, 3) := by decide +kernel
theorem dX6_where_4 : decode cX6_where 4 = .ok (.iconst 4, 1) := by decide +kernel
theorem dX6_where_5 : decode cX6_where 5 = .ok (.if_icmp .ne 13, 3) := by decide +kernel
theorem dX6_where_8 : decode cX6_where 8 = .ok (.aload_n 0, 1) := by decide +kernel
theorem dX6_where_9 : decode cX6_where 9 = .ok (.getfield 10, 3) := by decide +kernel
theorem dX6_where_12 : decode cX6_where 12 = .ok (.getfield 90, 3) := by decide +kernel
theorem dX6_where_15 : decode cX6_where 15 = .ok (.goto 4, 3) := by decide +kernel
theorem dX6_where_18 : decode cX6_where 18 = .ok (.iconst (-1), 1) := by decide +kernel
theorem dX6_where_19 : decode cX6_where 19 = .ok (.ireturn, 1) := by decide +kernel
theorem dX6_about_0 : decode cX6_about 0 = .ok (.aload_n 0, 1) := by decide +kernel
theorem dX6_about_1 : decode cX6_about 1 = .ok (.aload_n 0, 1) := by decide +kernel
theorem dX6_about_2 : decode cX6_about 2 = .ok (.invokevirtual 93, 3) := by decide +kernel
theorem dX6_about_5 : decode cX6_about 5 = .ok (.ifCond .ne 13, 3) := by decide +kernel
theorem dX6_about_8 : decode cX6_about 8 = .ok (.iload_n 1, 1) := by decide +kernel
theorem dX6_about_9 : decode cX6_about 9 = .ok (.ifCond .lt 9, 3) := by decide +kernel
theorem dX6_about_12 : decode cX6_about 12 = .ok (.iload_n 1, 1) := by decide +kernel
theorem dX6_about_13 : decode cX6_about 13 = .ok (.bipush 6, 2) := by decide +kernel
theorem dX6_about_15 : decode cX6_about 15 = .ok (.if_icmp .le 7, 3) := by decide +kernel
theorem dX6_about_18 : decode cX6_about 18 = .ok (.iconst 1, 1) := by decide +kernel
theorem dX6_about_19 : decode cX6_about 19 = .ok (.goto 4, 3) := by decide +kernel
theorem dX6_about_22 : decode cX6_about 22 = .ok (.iconst 0, 1) := by decide +kernel
theorem dX6_about_23 : decode cX6_about 23 = .ok (.iconst 1, 1) := by decide +kernel
theorem dX6_about_24 : decode cX6_about 24 = .ok (.invokevirtual 66, 3) := by decide +kernel
theorem dX6_about_27 : decode cX6_about 27 = .ok (.ifCond .eq 5, 3) := by decide +kernel
theorem dX6_about_30 : decode cX6_about 30 = .ok (.iconst (-1), 1) := by decide +kernel
theorem dX6_about_31 : decode cX6_about 31 = .ok (.ireturn, 1) := by decide +kernel
theorem dX6_about_32 : decode cX6_about 32 = .ok (.iload_n 1, 1) := by decide +kernel
theorem dX6_about_33 : decode cX6_about 33 = .ok (.tableswitch 87 0 5 #[39, 47, 55, 63, 71, 79], 39) := by decide +kernel
theorem dX6_about_72 : decode cX6_about 72 = .ok (.aload_n 0, 1) := by decide +kernel
theorem dX6_about_73 : decode cX6_about 73 = .ok (.getfield 19, 3) := by decide +kernel
theorem dX6_about_76 : decode cX6_about 76 = .ok (.getfield 96, 3) := by decide +kernel
theorem dX6_about_79 : decode cX6_about 79 = .ok (.ireturn, 1) := by decide +kernel
theorem dX6_about_80 : decode cX6_about 80 = .ok (.aload_n 0, 1) := by decide +kernel
theorem dX6_about_81 : decode cX6_about 81 = .ok (.getfield 19, 3) := by decide +kernel
theorem dX6_about_84 : decode cX6_about 84 = .ok (.getfield 99, 3) := by decide +kernel
theorem dX6_about_87 : decode cX6_about 87 = .ok (.ireturn, 1) := by decide +kernel
theorem dX6_about_88 : decode cX6_about 88 = .ok (.aload_n 0, 1) := by decide +kernel
theorem dX6_about_89 : decode cX6_about 89 = .ok (.getfield 19, 3) := by decide +kernel
theorem dX6_about_92 : decode cX6_about 92 = .ok (.getfield 84, 3) := by decide +kernel
theorem dX6_about_95 : decode cX6_about 95 = .ok (.ireturn, 1) := by decide +kernel
theorem dX6_about_96 : decode cX6_about 96 = .ok (.aload_n 0, 1) := by decide +kernel
theorem dX6_about_97 : decode cX6_about 97 = .ok (.getfield 19, 3) := by decide +kernel
theorem dX6_about_100 : decode cX6_about 100 = .ok (.invokevirtual 102, 3) := by decide +kernel
theorem dX6_about_103 : decode cX6_about 103 = .ok (.ireturn, 1) := by decide +kernel
theorem dX6_about_104 : decode cX6_about 104 = .ok (.aload_n 0, 1) := by decide +kernel
theorem dX6_about_105 : decode cX6_about 105 = .ok (.getfield 19, 3) := by decide +kernel
theorem dX6_about_108 : decode cX6_about 108 = .ok (.invokevirtual 106, 3) := by decide +kernel
theorem dX6_about_111 : decode cX6_about 111 = .ok (.ireturn, 1) := by decide +kernel
theorem dX6_about_112 : decode cX6_about 112 = .ok (.aload_n 0, 1) := by decide +kernel
theorem dX6_about_113 : decode cX6_about 113 = .ok (.getfield 19, 3) := by decide +kernel
theorem dX6_about_116 : decode cX6_about 116 = .ok (.invokevirtual 109, 3) := by decide +kernel
theorem dX6_about_119 : decode cX6_about 119 = .ok (.ireturn, 1) := by decide +kernel
theorem dX6_about_120 : decode cX6_about 120 = .ok (.aload_n 0, 1) := by decide +kernel
theorem dX6_about_121 : decode cX6_about 121 = .ok (.getfield 19, 3) := by decide +kernel
theorem dX6_about_124 : decode cX6_about 124 = .ok (.invokevirtual 112, 3) := by decide +kernel
theorem dX6_about_127 : decode cX6_about 127 = .ok (.ireturn, 1) := by decide +kernel
theorem dX6_facet_0 : decode cX6_facet 0 = .ok (.aload_n 0, 1) := by decide +kernel
theorem dX6_facet_1 : decode cX6_facet 1 = .ok (.aload_n 0, 1) := by decide +kernel
theorem dX6_facet_2 : decode cX6_facet 2 = .ok (.getfield 19, 3) := by decide +kernel
theorem dX6_facet_5 : decode cX6_facet 5 = .ok (.iload_n 1, 1) := by decide +kernel
theorem dX6_facet_6 : decode cX6_facet 6 = .ok (.invokevirtual 115, 3) := by decide +kernel
theorem dX6_facet_9 : decode cX6_facet 9 = .ok (.ifCond .ne 7, 3) := by decide +kernel
theorem dX6_facet_12 : decode cX6_facet 12 = .ok (.iconst 1, 1) := by decide +kernel
theorem dX6_facet_13 : decode cX6_facet 13 = .ok (.goto 4, 3) := by decide +kernel
theorem dX6_facet_16 : decode cX6_facet 16 = .ok (.iconst 0, 1) := by decide +kernel
theorem dX6_facet_17 : decode cX6_facet 17 = .ok (.iconst 1, 1) := by decide +kernel
theorem dX6_facet_18 : decode cX6_facet 18 = .ok (.invokevirtual 66, 3) := by decide +kernel
theorem dX6_facet_21 : decode cX6_facet 21 = .ok (.ifCond .eq 5, 3) := by decide +kernel
theorem dX6_facet_24 : decode cX6_facet 24 = .ok (.iconst (-1), 1) := by decide +kernel
theorem dX6_facet_25 : decode cX6_facet 25 = .ok (.ireturn, 1) := by decide +kernel
theorem dX6_facet_26 : decode cX6_facet 26 = .ok (.aload_n 0, 1) := by decide +kernel
theorem dX6_facet_27 : decode cX6_facet 27 = .ok (.getfield 19, 3) := by decide +kernel
theorem dX6_facet_30 : decode cX6_facet 30 = .ok (.getfield 118, 3) := by decide +kernel
theorem dX6_facet_33 : decode cX6_facet 33 = .ok (.iload_n 1, 1) := by decide +kernel
theorem dX6_facet_34 : decode cX6_facet 34 = .ok (.iaload, 1) := by decide +kernel
theorem dX6_facet_35 : decode cX6_facet 35 = .ok (.ireturn, 1) := by decide +kernel
theorem dX6_within_0 : decode cX6_within 0 = .ok (.aload_n 0, 1) := by decide +kernel
theorem dX6_within_1 : decode cX6_within 1 = .ok (.iload_n 1, 1) := by decide +kernel
theorem dX6_within_2 : decode cX6_within 2 = .ok (.invokevirtual 122, 3) := by decide +kernel
theorem dX6_within_5 : decode cX6_within 5 = .ok (.ifCond .eq 5, 3) := by decide +kernel
theorem dX6_within_8 : decode cX6_within 8 = .ok (.iconst (-1), 1) := by decide +kernel
theorem dX6_within_9 : decode cX6_within 9 = .ok (.ireturn, 1) := by decide +kernel
theorem dX6_within_10 : decode cX6_within 10 = .ok (.aload_n 0, 1) := by decide +kernel
theorem dX6_within_11 : decode cX6_within 11 = .ok (.getfield 19, 3) := by decide +kernel
theorem dX6_within_14 : decode cX6_within 14 = .ok (.getfield 125, 3) := by decide +kernel
theorem dX6_within_17 : decode cX6_within 17 = .ok (.iload_n 1, 1) := by decide +kernel
theorem dX6_within_18 : decode cX6_within 18 = .ok (.iaload, 1) := by decide +kernel
theorem dX6_within_19 : decode cX6_within 19 = .ok (.ireturn, 1) := by decide +kernel
theorem dX6_missing_0 : decode cX6_missing 0 = .ok (.aload_n 0, 1) := by decide +kernel
theorem dX6_missing_1 : decode cX6_missing 1 = .ok (.getfield 19, 3) := by decide +kernel
theorem dX6_missing_4 : decode cX6_missing 4 = .ok (.iload_n 1, 1) := by decide +kernel
theorem dX6_missing_5 : decode cX6_missing 5 = .ok (.invokevirtual 128, 3) := by decide +kernel
theorem dX6_missing_8 : decode cX6_missing 8 = .ok (.istore_n 2, 1) := by decide +kernel
theorem dX6_missing_9 : decode cX6_missing 9 = .ok (.aload_n 0, 1) := by decide +kernel
theorem dX6_missing_10 : decode cX6_missing 10 = .ok (.iload_n 2, 1) := by decide +kernel
theorem dX6_missing_11 : decode cX6_missing 11 = .ok (.ifCond .ge 7, 3) := by decide +kernel
theorem dX6_missing_14 : decode cX6_missing 14 = .ok (.iconst 1, 1) := by decide +kernel
theorem dX6_missing_15 : decode cX6_missing 15 = .ok (.goto 4, 3) := by decide +kernel
theorem dX6_missing_18 : decode cX6_missing 18 = .ok (.iconst 0, 1) := by decide +kernel
theorem dX6_missing_19 : decode cX6_missing 19 = .ok (.iconst 1, 1) := by decide +kernel
theorem dX6_missing_20 : decode cX6_missing 20 = .ok (.invokevirtual 66, 3) := by decide +kernel
theorem dX6_missing_23 : decode cX6_missing 23 = .ok (.ifCond .eq 7, 3) := by decide +kernel
theorem dX6_missing_26 : decode cX6_missing 26 = .ok (.iconst (-1), 1) := by decide +kernel
theorem dX6_missing_27 : decode cX6_missing 27 = .ok (.goto 4, 3) := by decide +kernel
theorem dX6_missing_30 : decode cX6_missing 30 = .ok (.iload_n 2, 1) := by decide +kernel
theorem dX6_missing_31 : decode cX6_missing 31 = .ok (.ireturn, 1) := by decide +kernel
theorem dX6_faces_0 : decode cX6_faces 0 = .ok (.aload_n 0, 1) := by decide +kernel
theorem dX6_faces_1 : decode cX6_faces 1 = .ok (.iload_n 1, 1) := by decide +kernel
theorem dX6_faces_2 : decode cX6_faces 2 = .ok (.aload_n 0, 1) := by decide +kernel
theorem dX6_faces_3 : decode cX6_faces 3 = .ok (.getfield 19, 3) := by decide +kernel
theorem dX6_faces_6 : decode cX6_faces 6 = .ok (.getfield 99, 3) := by decide +kernel
theorem dX6_faces_9 : decode cX6_faces 9 = .ok (.invokevirtual 132, 3) := by decide +kernel
theorem dX6_faces_12 : decode cX6_faces 12 = .ok (.ifCond .eq 5, 3) := by decide +kernel
theorem dX6_faces_15 : decode cX6_faces 15 = .ok (.iconst (-1), 1) := by decide +kernel
theorem dX6_faces_16 : decode cX6_faces 16 = .ok (.ireturn, 1) := by decide +kernel
theorem dX6_faces_17 : decode cX6_faces 17 = .ok (.aload_n 0, 1) := by decide +kernel
theorem dX6_faces_18 : decode cX6_faces 18 = .ok (.getfield 19, 3) := by decide +kernel
theorem dX6_faces_21 : decode cX6_faces 21 = .ok (.iload_n 1, 1) := by decide +kernel
theorem dX6_faces_22 : decode cX6_faces 22 = .ok (.invokevirtual 136, 3) := by decide +kernel
theorem dX6_faces_25 : decode cX6_faces 25 = .ok (.ireturn, 1) := by decide +kernel
theorem dX6_h_0 : decode cX6_h 0 = .ok (.aload_n 0, 1) := by decide +kernel
theorem dX6_h_1 : decode cX6_h 1 = .ok (.iload_n 1, 1) := by decide +kernel
theorem dX6_h_2 : decode cX6_h 2 = .ok (.aload_n 0, 1) := by decide +kernel
theorem dX6_h_3 : decode cX6_h 3 = .ok (.getfield 19, 3) := by decide +kernel
theorem dX6_h_6 : decode cX6_h 6 = .ok (.getfield 99, 3) := by decide +kernel
theorem dX6_h_9 : decode cX6_h 9 = .ok (.invokevirtual 132, 3) := by decide +kernel
theorem dX6_h_12 : decode cX6_h 12 = .ok (.ifCond .eq 6, 3) := by decide +kernel
theorem dX6_h_15 : decode cX6_h 15 = .ok (.ldc 141, 2) := by decide +kernel
theorem dX6_h_17 : decode cX6_h 17 = .ok (.ireturn, 1) := by decide +kernel
theorem dX6_h_18 : decode cX6_h 18 = .ok (.iconst 0, 1) := by decide +kernel
theorem dX6_h_19 : decode cX6_h 19 = .ok (.istore_n 2, 1) := by decide +kernel
theorem dX6_h_20 : decode cX6_h 20 = .ok (.iconst 0, 1) := by decide +kernel
theorem dX6_h_21 : decode cX6_h 21 = .ok (.istore_n 3, 1) := by decide +kernel
theorem dX6_h_22 : decode cX6_h 22 = .ok (.iload_n 3, 1) := by decide +kernel
theorem dX6_h_23 : decode cX6_h 23 = .ok (.iload_n 1, 1) := by decide +kernel
theorem dX6_h_24 : decode cX6_h 24 = .ok (.if_icmp .gt 54, 3) := by decide +kernel
theorem dX6_h_27 : decode cX6_h 27 = .ok (.aload_n 0, 1) := by decide +kernel
theorem dX6_h_28 : decode cX6_h 28 = .ok (.getfield 19, 3) := by decide +kernel
theorem dX6_h_31 : decode cX6_h 31 = .ok (.iload_n 3, 1) := by decide +kernel
theorem dX6_h_32 : decode cX6_h 32 = .ok (.invokevirtual 136, 3) := by decide +kernel
theorem dX6_h_35 : decode cX6_h 35 = .ok (.aload_n 0, 1) := by decide +kernel
theorem dX6_h_36 : decode cX6_h 36 = .ok (.getfield 19, 3) := by decide +kernel
theorem dX6_h_39 : decode cX6_h 39 = .ok (.getfield 99, 3) := by decide +kernel
theorem dX6_h_42 : decode cX6_h 42 = .ok (.iload_n 3, 1) := by decide +kernel
theorem dX6_h_43 : decode cX6_h 43 = .ok (.isub, 1) := by decide +kernel
theorem dX6_h_44 : decode cX6_h 44 = .ok (.iload_n 1, 1) := by decide +kernel
theorem dX6_h_45 : decode cX6_h 45 = .ok (.iload_n 3, 1) := by decide +kernel
theorem dX6_h_46 : decode cX6_h 46 = .ok (.isub, 1) := by decide +kernel
theorem dX6_h_47 : decode cX6_h 47 = .ok (.invokestatic 142, 3) := by decide +kernel
theorem dX6_h_50 : decode cX6_h 50 = .ok (.imul, 1) := by decide +kernel
theorem dX6_h_51 : decode cX6_h 51 = .ok (.istore 4, 2) := by decide +kernel
theorem dX6_h_53 : decode cX6_h 53 = .ok (.iload_n 2, 1) := by decide +kernel
theorem dX6_h_54 : decode cX6_h 54 = .ok (.iload_n 1, 1) := by decide +kernel
theorem dX6_h_55 : decode cX6_h 55 = .ok (.iload_n 3, 1) := by decide +kernel
theorem dX6_h_56 : decode cX6_h 56 = .ok (.isub, 1) := by decide +kernel
theorem dX6_h_57 : decode cX6_h 57 = .ok (.iconst 2, 1) := by decide +kernel
theorem dX6_h_58 : decode cX6_h 58 = .ok (.irem, 1) := by decide +kernel
theorem dX6_h_59 : decode cX6_h 59 = .ok (.ifCond .ne 8, 3) := by decide +kernel
theorem dX6_h_62 : decode cX6_h 62 = .ok (.iload 4, 2) := by decide +kernel
theorem dX6_h_64 : decode cX6_h 64 = .ok (.goto 6, 3) := by decide +kernel
theorem dX6_h_67 : decode cX6_h 67 = .ok (.iload 4, 2) := by decide +kernel
theorem dX6_h_69 : decode cX6_h 69 = .ok (.ineg, 1) := by decide +kernel
theorem dX6_h_70 : decode cX6_h 70 = .ok (.iadd, 1) := by decide +kernel
theorem dX6_h_71 : decode cX6_h 71 = .ok (.istore_n 2, 1) := by decide +kernel
theorem dX6_h_72 : decode cX6_h 72 = .ok (.iinc 3 1, 3) := by decide +kernel
theorem dX6_h_75 : decode cX6_h 75 = .ok (.goto (-53), 3) := by decide +kernel
theorem dX6_h_78 : decode cX6_h 78 = .ok (.iload_n 2, 1) := by decide +kernel
theorem dX6_h_79 : decode cX6_h 79 = .ok (.ireturn, 1) := by decide +kernel
theorem dX6_euler_0 : decode cX6_euler 0 = .ok (.aload_n 0, 1) := by decide +kernel
theorem dX6_euler_1 : decode cX6_euler 1 = .ok (.invokevirtual 146, 3) := by decide +kernel
theorem dX6_euler_4 : decode cX6_euler 4 = .ok (.ifCond .eq 6, 3) := by decide +kernel
theorem dX6_euler_7 : decode cX6_euler 7 = .ok (.ldc 141, 2) := by decide +kernel
theorem dX6_euler_9 : decode cX6_euler 9 = .ok (.ireturn, 1) := by decide +kernel
theorem dX6_euler_10 : decode cX6_euler 10 = .ok (.iconst 0, 1) := by decide +kernel
theorem dX6_euler_11 : decode cX6_euler 11 = .ok (.istore_n 1, 1) := by decide +kernel
theorem dX6_euler_12 : decode cX6_euler 12 = .ok (.iconst 0, 1) := by decide +kernel
theorem dX6_euler_13 : decode cX6_euler 13 = .ok (.istore_n 2, 1) := by decide +kernel
theorem dX6_euler_14 : decode cX6_euler 14 = .ok (.iload_n 2, 1) := by decide +kernel
theorem dX6_euler_15 : decode cX6_euler 15 = .ok (.aload_n 0, 1) := by decide +kernel
theorem dX6_euler_16 : decode cX6_euler 16 = .ok (.getfield 19, 3) := by decide +kernel
theorem dX6_euler_19 : decode cX6_euler 19 = .ok (.getfield 99, 3) := by decide +kernel
theorem dX6_euler_22 : decode cX6_euler 22 = .ok (.if_icmp .gt 39, 3) := by decide +kernel
theorem dX6_euler_25 : decode cX6_euler 25 = .ok (.iload_n 1, 1) := by decide +kernel
theorem dX6_euler_26 : decode cX6_euler 26 = .ok (.iload_n 2, 1) := by decide +kernel
theorem dX6_euler_27 : decode cX6_euler 27 = .ok (.iconst 2, 1) := by decide +kernel
theorem dX6_euler_28 : decode cX6_euler 28 = .ok (.irem, 1) := by decide +kernel
theorem dX6_euler_29 : decode cX6_euler 29 = .ok (.iconst 1, 1) := by decide +kernel
theorem dX6_euler_30 : decode cX6_euler 30 = .ok (.if_icmp .ne 14, 3) := by decide +kernel
theorem dX6_euler_33 : decode cX6_euler 33 = .ok (.aload_n 0, 1) := by decide +kernel
theorem dX6_euler_34 : decode cX6_euler 34 = .ok (.getfield 19, 3) := by decide +kernel
theorem dX6_euler_37 : decode cX6_euler 37 = .ok (.iload_n 2, 1) := by decide +kernel
theorem dX6_euler_38 : decode cX6_euler 38 = .ok (.invokevirtual 136, 3) := by decide +kernel
theorem dX6_euler_41 : decode cX6_euler 41 = .ok (.goto 12, 3) := by decide +kernel
theorem dX6_euler_44 : decode cX6_euler 44 = .ok (.aload_n 0, 1) := by decide +kernel
theorem dX6_euler_45 : decode cX6_euler 45 = .ok (.getfield 19, 3) := by decide +kernel
theorem dX6_euler_48 : decode cX6_euler 48 = .ok (.iload_n 2, 1) := by decide +kernel
theorem dX6_euler_49 : decode cX6_euler 49 = .ok (.invokevirtual 136, 3) := by decide +kernel
theorem dX6_euler_52 : decode cX6_euler 52 = .ok (.ineg, 1) := by decide +kernel
theorem dX6_euler_53 : decode cX6_euler 53 = .ok (.iadd, 1) := by decide +kernel
theorem dX6_euler_54 : decode cX6_euler 54 = .ok (.istore_n 1, 1) := by decide +kernel
theorem dX6_euler_55 : decode cX6_euler 55 = .ok (.iinc 2 1, 3) := by decide +kernel
theorem dX6_euler_58 : decode cX6_euler 58 = .ok (.goto (-44), 3) := by decide +kernel
theorem dX6_euler_61 : decode cX6_euler 61 = .ok (.iload_n 1, 1) := by decide +kernel
theorem dX6_euler_62 : decode cX6_euler 62 = .ok (.ireturn, 1) := by decide +kernel
theorem dX6_rank_0 : decode cX6_rank 0 = .ok (.aload_n 0, 1) := by decide +kernel
theorem dX6_rank_1 : decode cX6_rank 1 = .ok (.iload_n 1, 1) := by decide +kernel
theorem dX6_rank_2 : decode cX6_rank 2 = .ok (.aload_n 0, 1) := by decide +kernel
theorem dX6_rank_3 : decode cX6_rank 3 = .ok (.getfield 19, 3) := by decide +kernel
theorem dX6_rank_6 : decode cX6_rank 6 = .ok (.getfield 99, 3) := by decide +kernel
theorem dX6_rank_9 : decode cX6_rank 9 = .ok (.invokevirtual 132, 3) := by decide +kernel
theorem dX6_rank_12 : decode cX6_rank 12 = .ok (.ifCond .eq 5, 3) := by decide +kernel
theorem dX6_rank_15 : decode cX6_rank 15 = .ok (.iconst (-1), 1) := by decide +kernel
theorem dX6_rank_16 : decode cX6_rank 16 = .ok (.ireturn, 1) := by decide +kernel
theorem dX6_rank_17 : decode cX6_rank 17 = .ok (.aload_n 0, 1) := by decide +kernel
theorem dX6_rank_18 : decode cX6_rank 18 = .ok (.getfield 33, 3) := by decide +kernel
theorem dX6_rank_21 : decode cX6_rank 21 = .ok (.aload_n 0, 1) := by decide +kernel
theorem dX6_rank_22 : decode cX6_rank 22 = .ok (.getfield 19, 3) := by decide +kernel
theorem dX6_rank_25 : decode cX6_rank 25 = .ok (.invokevirtual 149, 3) := by decide +kernel
theorem dX6_rank_28 : decode cX6_rank 28 = .ok (.aload_n 0, 1) := by decide +kernel
theorem dX6_rank_29 : decode cX6_rank 29 = .ok (.getfield 33, 3) := by decide +kernel
theorem dX6_rank_32 : decode cX6_rank 32 = .ok (.iload_n 1, 1) := by decide +kernel
theorem dX6_rank_33 : decode cX6_rank 33 = .ok (.invokevirtual 153, 3) := by decide +kernel
theorem dX6_rank_36 : decode cX6_rank 36 = .ok (.ireturn, 1) := by decide +kernel
theorem dX6_round_0 : decode cX6_round 0 = .ok (.aload_n 0, 1) := by decide +kernel
theorem dX6_round_1 : decode cX6_round 1 = .ok (.iload_n 1, 1) := by decide +kernel
theorem dX6_round_2 : decode cX6_round 2 = .ok (.aload_n 0, 1) := by decide +kernel
theorem dX6_round_3 : decode cX6_round 3 = .ok (.getfield 19, 3) := by decide +kernel
theorem dX6_round_6 : decode cX6_round 6 = .ok (.getfield 99, 3) := by decide +kernel
theorem dX6_round_9 : decode cX6_round 9 = .ok (.invokevirtual 132, 3) := by decide +kernel
theorem dX6_round_12 : decode cX6_round 12 = .ok (.ifCond .eq 5, 3) := by decide +kernel
theorem dX6_round_15 : decode cX6_round 15 = .ok (.iconst (-1), 1) := by decide +kernel
theorem dX6_round_16 : decode cX6_round 16 = .ok (.ireturn, 1) := by decide +kernel
theorem dX6_round_17 : decode cX6_round 17 = .ok (.aload_n 0, 1) := by decide +kernel
theorem dX6_round_18 : decode cX6_round 18 = .ok (.getfield 33, 3) := by decide +kernel
theorem dX6_round_21 : decode cX6_round 21 = .ok (.aload_n 0, 1) := by decide +kernel
theorem dX6_round_22 : decode cX6_round 22 = .ok (.getfield 19, 3) := by decide +kernel
theorem dX6_round_25 : decode cX6_round 25 = .ok (.invokevirtual 149, 3) := by decide +kernel
theorem dX6_round_28 : decode cX6_round 28 = .ok (.aload_n 0, 1) := by decide +kernel
theorem dX6_round_29 : decode cX6_round 29 = .ok (.getfield 33, 3) := by decide +kernel
theorem dX6_round_32 : decode cX6_round 32 = .ok (.iload_n 1, 1) := by decide +kernel
theorem dX6_round_33 : decode cX6_round 33 = .ok (.invokevirtual 156, 3) := by decide +kernel
theorem dX6_round_36 : decode cX6_round 36 = .ok (.ireturn, 1) := by decide +kernel
theorem dX6_dual_0 : decode cX6_dual 0 = .ok (.aload_n 0, 1) := by decide +kernel
theorem dX6_dual_1 : decode cX6_dual 1 = .ok (.getfield 19, 3) := by decide +kernel
theorem dX6_dual_4 : decode cX6_dual 4 = .ok (.iload_n 1, 1) := by decide +kernel
theorem dX6_dual_5 : decode cX6_dual 5 = .ok (.invokevirtual 128, 3) := by decide +kernel
theorem dX6_dual_8 : decode cX6_dual 8 = .ok (.istore_n 2, 1) := by decide +kernel
theorem dX6_dual_9 : decode cX6_dual 9 = .ok (.aload_n 0, 1) := by decide +kernel
theorem dX6_dual_10 : decode cX6_dual 10 = .ok (.iload_n 2, 1) := by decide +kernel
theorem dX6_dual_11 : decode cX6_dual 11 = .ok (.ifCond .ge 7, 3) := by decide +kernel
theorem dX6_dual_14 : decode cX6_dual 14 = .ok (.iconst 1, 1) := by decide +kernel
theorem dX6_dual_15 : decode cX6_dual 15 = .ok (.goto 4, 3) := by decide +kernel
theorem dX6_dual_18 : decode cX6_dual 18 = .ok (.iconst 0, 1) := by decide +kernel
theorem dX6_dual_19 : decode cX6_dual 19 = .ok (.iconst 1, 1) := by decide +kernel
theorem dX6_dual_20 : decode cX6_dual 20 = .ok (.invokevirtual 66, 3) := by decide +kernel
theorem dX6_dual_23 : decode cX6_dual 23 = .ok (.ifCond .eq 7, 3) := by decide +kernel
theorem dX6_dual_26 : decode cX6_dual 26 = .ok (.iconst (-1), 1) := by decide +kernel
theorem dX6_dual_27 : decode cX6_dual 27 = .ok (.goto 14, 3) := by decide +kernel
theorem dX6_dual_30 : decode cX6_dual 30 = .ok (.aload_n 0, 1) := by decide +kernel
theorem dX6_dual_31 : decode cX6_dual 31 = .ok (.getfield 19, 3) := by decide +kernel
theorem dX6_dual_34 : decode cX6_dual 34 = .ok (.invokevirtual 159, 3) := by decide +kernel
theorem dX6_dual_37 : decode cX6_dual 37 = .ok (.iload_n 2, 1) := by decide +kernel
theorem dX6_dual_38 : decode cX6_dual 38 = .ok (.iconst (-1), 1) := by decide +kernel
theorem dX6_dual_39 : decode cX6_dual 39 = .ok (.ixor, 1) := by decide +kernel
theorem dX6_dual_40 : decode cX6_dual 40 = .ok (.iand, 1) := by decide +kernel
theorem dX6_dual_41 : decode cX6_dual 41 = .ok (.ireturn, 1) := by decide +kernel
theorem dX6_dualRound_0 : decode cX6_dualRound 0 = .ok (.aload_n 0, 1) := by decide +kernel
theorem dX6_dualRound_1 : decode cX6_dualRound 1 = .ok (.iload_n 1, 1) := by decide +kernel
theorem dX6_dualRound_2 : decode cX6_dualRound 2 = .ok (.aload_n 0, 1) := by decide +kernel
theorem dX6_dualRound_3 : decode cX6_dualRound 3 = .ok (.getfield 19, 3) := by decide +kernel
theorem dX6_dualRound_6 : decode cX6_dualRound 6 = .ok (.getfield 96, 3) := by decide +kernel
theorem dX6_dualRound_9 : decode cX6_dualRound 9 = .ok (.invokevirtual 132, 3) := by decide +kernel
theorem dX6_dualRound_12 : decode cX6_dualRound 12 = .ok (.ifCond .eq 5, 3) := by decide +kernel
theorem dX6_dualRound_15 : decode cX6_dualRound 15 = .ok (.iconst (-1), 1) := by decide +kernel
theorem dX6_dualRound_16 : decode cX6_dualRound 16 = .ok (.ireturn, 1) := by decide +kernel
theorem dX6_dualRound_17 : decode cX6_dualRound 17 = .ok (.aload_n 0, 1) := by decide +kernel
theorem dX6_dualRound_18 : decode cX6_dualRound 18 = .ok (.getfield 33, 3) := by decide +kernel
theorem dX6_dualRound_21 : decode cX6_dualRound 21 = .ok (.aload_n 0, 1) := by decide +kernel
theorem dX6_dualRound_22 : decode cX6_dualRound 22 = .ok (.getfield 19, 3) := by decide +kernel
theorem dX6_dualRound_25 : decode cX6_dualRound 25 = .ok (.invokevirtual 162, 3) := by decide +kernel
theorem dX6_dualRound_28 : decode cX6_dualRound 28 = .ok (.aload_n 0, 1) := by decide +kernel
theorem dX6_dualRound_29 : decode cX6_dualRound 29 = .ok (.getfield 33, 3) := by decide +kernel
theorem dX6_dualRound_32 : decode cX6_dualRound 32 = .ok (.iload_n 1, 1) := by decide +kernel
theorem dX6_dualRound_33 : decode cX6_dualRound 33 = .ok (.invokevirtual 156, 3) := by decide +kernel
theorem dX6_dualRound_36 : decode cX6_dualRound 36 = .ok (.ireturn, 1) := by decide +kernel
theorem dX6_near_0 : decode cX6_near 0 = .ok (.aload_n 0, 1) := by decide +kernel
theorem dX6_near_1 : decode cX6_near 1 = .ok (.aload_n 0, 1) := by decide +kernel
theorem dX6_near_2 : decode cX6_near 2 = .ok (.getfield 19, 3) := by decide +kernel
theorem dX6_near_5 : decode cX6_near 5 = .ok (.iload_n 1, 1) := by decide +kernel
theorem dX6_near_6 : decode cX6_near 6 = .ok (.invokevirtual 115, 3) := by decide +kernel
theorem dX6_near_9 : decode cX6_near 9 = .ok (.ifCond .ne 7, 3) := by decide +kernel
theorem dX6_near_12 : decode cX6_near 12 = .ok (.iconst 1, 1) := by decide +kernel
theorem dX6_near_13 : decode cX6_near 13 = .ok (.goto 4, 3) := by decide +kernel
theorem dX6_near_16 : decode cX6_near 16 = .ok (.iconst 0, 1) := by decide +kernel
theorem dX6_near_17 : decode cX6_near 17 = .ok (.iconst 1, 1) := by decide +kernel
theorem dX6_near_18 : decode cX6_near 18 = .ok (.invokevirtual 66, 3) := by decide +kernel
theorem dX6_near_21 : decode cX6_near 21 = .ok (.ifCond .eq 5, 3) := by decide +kernel
theorem dX6_near_24 : decode cX6_near 24 = .ok (.iconst (-1), 1) := by decide +kernel
theorem dX6_near_25 : decode cX6_near 25 = .ok (.ireturn, 1) := by decide +kernel
theorem dX6_near_26 : decode cX6_near 26 = .ok (.aload_n 0, 1) := by decide +kernel
theorem dX6_near_27 : decode cX6_near 27 = .ok (.getfield 19, 3) := by decide +kernel
theorem dX6_near_30 : decode cX6_near 30 = .ok (.iload_n 1, 1) := by decide +kernel
theorem dX6_near_31 : decode cX6_near 31 = .ok (.invokevirtual 165, 3) := by decide +kernel
theorem dX6_near_34 : decode cX6_near 34 = .ok (.ireturn, 1) := by decide +kernel
theorem dX6_apart_0 : decode cX6_apart 0 = .ok (.aload_n 0, 1) := by decide +kernel
theorem dX6_apart_1 : decode cX6_apart 1 = .ok (.aload_n 0, 1) := by decide +kernel
theorem dX6_apart_2 : decode cX6_apart 2 = .ok (.getfield 19, 3) := by decide +kernel
theorem dX6_apart_5 : decode cX6_apart 5 = .ok (.iload_n 1, 1) := by decide +kernel
theorem dX6_apart_6 : decode cX6_apart 6 = .ok (.invokevirtual 115, 3) := by decide +kernel
theorem dX6_apart_9 : decode cX6_apart 9 = .ok (.ifCond .eq 14, 3) := by decide +kernel
theorem dX6_apart_12 : decode cX6_apart 12 = .ok (.aload_n 0, 1) := by decide +kernel
theorem dX6_apart_13 : decode cX6_apart 13 = .ok (.getfield 19, 3) := by decide +kernel
theorem dX6_apart_16 : decode cX6_apart 16 = .ok (.iload_n 2, 1) := by decide +kernel
theorem dX6_apart_17 : decode cX6_apart 17 = .ok (.invokevirtual 115, 3) := by decide +kernel
theorem dX6_apart_20 : decode cX6_apart 20 = .ok (.ifCond .ne 7, 3) := by decide +kernel
theorem dX6_apart_23 : decode cX6_apart 23 = .ok (.iconst 1, 1) := by decide +kernel
theorem dX6_apart_24 : decode cX6_apart 24 = .ok (.goto 4, 3) := by decide +kernel
theorem dX6_apart_27 : decode cX6_apart 27 = .ok (.iconst 0, 1) := by decide +kernel
theorem dX6_apart_28 : decode cX6_apart 28 = .ok (.iconst 1, 1) := by decide +kernel
theorem dX6_apart_29 : decode cX6_apart 29 = .ok (.invokevirtual 66, 3) := by decide +kernel
theorem dX6_apart_32 : decode cX6_apart 32 = .ok (.ifCond .eq 5, 3) := by decide +kernel
theorem dX6_apart_35 : decode cX6_apart 35 = .ok (.iconst (-1), 1) := by decide +kernel
theorem dX6_apart_36 : decode cX6_apart 36 = .ok (.ireturn, 1) := by decide +kernel
theorem dX6_apart_37 : decode cX6_apart 37 = .ok (.aload_n 0, 1) := by decide +kernel
theorem dX6_apart_38 : decode cX6_apart 38 = .ok (.getfield 19, 3) := by decide +kernel
theorem dX6_apart_41 : decode cX6_apart 41 = .ok (.iload_n 1, 1) := by decide +kernel
theorem dX6_apart_42 : decode cX6_apart 42 = .ok (.iload_n 2, 1) := by decide +kernel
theorem dX6_apart_43 : decode cX6_apart 43 = .ok (.invokevirtual 168, 3) := by decide +kernel
theorem dX6_apart_46 : decode cX6_apart 46 = .ok (.ireturn, 1) := by decide +kernel
theorem dX6_ordered_0 : decode cX6_ordered 0 = .ok (.aload_n 0, 1) := by decide +kernel
theorem dX6_ordered_1 : decode cX6_ordered 1 = .ok (.iload_n 1, 1) := by decide +kernel
theorem dX6_ordered_2 : decode cX6_ordered 2 = .ok (.invokevirtual 171, 3) := by decide +kernel
theorem dX6_ordered_5 : decode cX6_ordered 5 = .ok (.ifCond .eq 7, 3) := by decide +kernel
theorem dX6_ordered_8 : decode cX6_ordered 8 = .ok (.iconst (-1), 1) := by decide +kernel
theorem dX6_ordered_9 : decode cX6_ordered 9 = .ok (.goto 12, 3) := by decide +kernel
theorem dX6_ordered_12 : decode cX6_ordered 12 = .ok (.aload_n 0, 1) := by decide +kernel
theorem dX6_ordered_13 : decode cX6_ordered 13 = .ok (.getfield 26, 3) := by decide +kernel
theorem dX6_ordered_16 : decode cX6_ordered 16 = .ok (.getfield 174, 3) := by decide +kernel
theorem dX6_ordered_19 : decode cX6_ordered 19 = .ok (.iload_n 1, 1) := by decide +kernel
theorem dX6_ordered_20 : decode cX6_ordered 20 = .ok (.iaload, 1) := by decide +kernel
theorem dX6_ordered_21 : decode cX6_ordered 21 = .ok (.ireturn, 1) := by decide +kernel
theorem dX6_joins_0 : decode cX6_joins 0 = .ok (.aload_n 0, 1) := by decide +kernel
theorem dX6_joins_1 : decode cX6_joins 1 = .ok (.iload_n 1, 1) := by decide +kernel
theorem dX6_joins_2 : decode cX6_joins 2 = .ok (.invokevirtual 171, 3) := by decide +kernel
theorem dX6_joins_5 : decode cX6_joins 5 = .ok (.ifCond .eq 5, 3) := by decide +kernel
theorem dX6_joins_8 : decode cX6_joins 8 = .ok (.iconst (-1), 1) := by decide +kernel
theorem dX6_joins_9 : decode cX6_joins 9 = .ok (.ireturn, 1) := by decide +kernel
theorem dX6_joins_10 : decode cX6_joins 10 = .ok (.aload_n 0, 1) := by decide +kernel
theorem dX6_joins_11 : decode cX6_joins 11 = .ok (.getfield 26, 3) := by decide +kernel
theorem dX6_joins_14 : decode cX6_joins 14 = .ok (.aload_n 0, 1) := by decide +kernel
theorem dX6_joins_15 : decode cX6_joins 15 = .ok (.getfield 19, 3) := by decide +kernel
theorem dX6_joins_18 : decode cX6_joins 18 = .ok (.iload_n 1, 1) := by decide +kernel
theorem dX6_joins_19 : decode cX6_joins 19 = .ok (.invokevirtual 177, 3) := by decide +kernel
theorem dX6_joins_22 : decode cX6_joins 22 = .ok (.ifCond .eq 7, 3) := by decide +kernel
theorem dX6_joins_25 : decode cX6_joins 25 = .ok (.iconst 1, 1) := by decide +kernel
theorem dX6_joins_26 : decode cX6_joins 26 = .ok (.goto 4, 3) := by decide +kernel
theorem dX6_joins_29 : decode cX6_joins 29 = .ok (.iconst 0, 1) := by decide +kernel
theorem dX6_joins_30 : decode cX6_joins 30 = .ok (.ireturn, 1) := by decide +kernel
theorem dX6_restricted_0 : decode cX6_restricted 0 = .ok (.aload_n 0, 1) := by decide +kernel
theorem dX6_restricted_1 : decode cX6_restricted 1 = .ok (.iload_n 1, 1) := by decide +kernel
theorem dX6_restricted_2 : decode cX6_restricted 2 = .ok (.invokevirtual 171, 3) := by decide +kernel
theorem dX6_restricted_5 : decode cX6_restricted 5 = .ok (.ifCond .eq 7, 3) := by decide +kernel
theorem dX6_restricted_8 : decode cX6_restricted 8 = .ok (.iconst (-1), 1) := by decide +kernel
theorem dX6_restricted_9 : decode cX6_restricted 9 = .ok (.goto 15, 3) := by decide +kernel
theorem dX6_restricted_12 : decode cX6_restricted 12 = .ok (.aload_n 0, 1) := by decide +kernel
theorem dX6_restricted_13 : decode cX6_restricted 13 = .ok (.getfield 26, 3) := by decide +kernel
theorem dX6_restricted_16 : decode cX6_restricted 16 = .ok (.aload_n 0, 1) := by decide +kernel
theorem dX6_restricted_17 : decode cX6_restricted 17 = .ok (.getfield 19, 3) := by decide +kernel
theorem dX6_restricted_20 : decode cX6_restricted 20 = .ok (.iload_n 1, 1) := by decide +kernel
theorem dX6_restricted_21 : decode cX6_restricted 21 = .ok (.invokevirtual 181, 3) := by decide +kernel
theorem dX6_restricted_24 : decode cX6_restricted 24 = .ok (.ireturn, 1) := by decide +kernel
theorem dX6_good_0 : decode cX6_good 0 = .ok (.aload_n 0, 1) := by decide +kernel
theorem dX6_good_1 : decode cX6_good 1 = .ok (.invokevirtual 146, 3) := by decide +kernel
theorem dX6_good_4 : decode cX6_good 4 = .ok (.ifCond .eq 7, 3) := by decide +kernel
theorem dX6_good_7 : decode cX6_good 7 = .ok (.iconst (-1), 1) := by decide +kernel
theorem dX6_good_8 : decode cX6_good 8 = .ok (.goto 14, 3) := by decide +kernel
theorem dX6_good_11 : decode cX6_good 11 = .ok (.aload_n 0, 1) := by decide +kernel
theorem dX6_good_12 : decode cX6_good 12 = .ok (.getfield 26, 3) := by decide +kernel
theorem dX6_good_15 : decode cX6_good 15 = .ok (.aload_n 0, 1) := by decide +kernel
theorem dX6_good_16 : decode cX6_good 16 = .ok (.getfield 19, 3) := by decide +kernel
theorem dX6_good_19 : decode cX6_good 19 = .ok (.invokevirtual 185, 3) := by decide +kernel
theorem dX6_good_22 : decode cX6_good 22 = .ok (.ireturn, 1) := by decide +kernel
theorem dX6_sized_0 : decode cX6_sized 0 = .ok (.aload_n 0, 1) := by decide +kernel
theorem dX6_sized_1 : decode cX6_sized 1 = .ok (.iload_n 1, 1) := by decide +kernel
theorem dX6_sized_2 : decode cX6_sized 2 = .ok (.aload_n 0, 1) := by decide +kernel
theorem dX6_sized_3 : decode cX6_sized 3 = .ok (.getfield 19, 3) := by decide +kernel
theorem dX6_sized_6 : decode cX6_sized 6 = .ok (.getfield 99, 3) := by decide +kernel
theorem dX6_sized_9 : decode cX6_sized 9 = .ok (.invokevirtual 132, 3) := by decide +kernel
theorem dX6_sized_12 : decode cX6_sized 12 = .ok (.ifCond .eq 5, 3) := by decide +kernel
theorem dX6_sized_15 : decode cX6_sized 15 = .ok (.iconst (-1), 1) := by decide +kernel
theorem dX6_sized_16 : decode cX6_sized 16 = .ok (.ireturn, 1) := by decide +kernel
theorem dX6_sized_17 : decode cX6_sized 17 = .ok (.aload_n 0, 1) := by decide +kernel
theorem dX6_sized_18 : decode cX6_sized 18 = .ok (.getfield 26, 3) := by decide +kernel
theorem dX6_sized_21 : decode cX6_sized 21 = .ok (.aload_n 0, 1) := by decide +kernel
theorem dX6_sized_22 : decode cX6_sized 22 = .ok (.getfield 19, 3) := by decide +kernel
theorem dX6_sized_25 : decode cX6_sized 25 = .ok (.iload_n 1, 1) := by decide +kernel
theorem dX6_sized_26 : decode cX6_sized 26 = .ok (.invokevirtual 189, 3) := by decide +kernel
theorem dX6_sized_29 : decode cX6_sized 29 = .ok (.ireturn, 1) := by decide +kernel
theorem dX6_spanning_0 : decode cX6_spanning 0 = .ok (.aload_n 0, 1) := by decide +kernel
theorem dX6_spanning_1 : decode cX6_spanning 1 = .ok (.getfield 26, 3) := by decide +kernel
theorem dX6_spanning_4 : decode cX6_spanning 4 = .ok (.aload_n 0, 1) := by decide +kernel
theorem dX6_spanning_5 : decode cX6_spanning 5 = .ok (.getfield 19, 3) := by decide +kernel
theorem dX6_spanning_8 : decode cX6_spanning 8 = .ok (.iload_n 1, 1) := by decide +kernel
theorem dX6_spanning_9 : decode cX6_spanning 9 = .ok (.invokevirtual 192, 3) := by decide +kernel
theorem dX6_spanning_12 : decode cX6_spanning 12 = .ok (.istore_n 2, 1) := by decide +kernel
theorem dX6_spanning_13 : decode cX6_spanning 13 = .ok (.aload_n 0, 1) := by decide +kernel
theorem dX6_spanning_14 : decode cX6_spanning 14 = .ok (.iload_n 2, 1) := by decide +kernel
theorem dX6_spanning_15 : decode cX6_spanning 15 = .ok (.ifCond .ge 7, 3) := by decide +kernel
theorem dX6_spanning_18 : decode cX6_spanning 18 = .ok (.iconst 1, 1) := by decide +kernel
theorem dX6_spanning_19 : decode cX6_spanning 19 = .ok (.goto 4, 3) := by decide +kernel
theorem dX6_spanning_22 : decode cX6_spanning 22 = .ok (.iconst 0, 1) := by decide +kernel
theorem dX6_spanning_23 : decode cX6_spanning 23 = .ok (.iconst 1, 1) := by decide +kernel
theorem dX6_spanning_24 : decode cX6_spanning 24 = .ok (.invokevirtual 66, 3) := by decide +kernel
theorem dX6_spanning_27 : decode cX6_spanning 27 = .ok (.ifCond .eq 7, 3) := by decide +kernel
theorem dX6_spanning_30 : decode cX6_spanning 30 = .ok (.iconst (-1), 1) := by decide +kernel
theorem dX6_spanning_31 : decode cX6_spanning 31 = .ok (.goto 4, 3) := by decide +kernel
theorem dX6_spanning_34 : decode cX6_spanning 34 = .ok (.iload_n 2, 1) := by decide +kernel
theorem dX6_spanning_35 : decode cX6_spanning 35 = .ok (.ireturn, 1) := by decide +kernel
theorem dX6_cycle_0 : decode cX6_cycle 0 = .ok (.aload_n 0, 1) := by decide +kernel
theorem dX6_cycle_1 : decode cX6_cycle 1 = .ok (.getfield 26, 3) := by decide +kernel
theorem dX6_cycle_4 : decode cX6_cycle 4 = .ok (.aload_n 0, 1) := by decide +kernel
theorem dX6_cycle_5 : decode cX6_cycle 5 = .ok (.getfield 19, 3) := by decide +kernel
theorem dX6_cycle_8 : decode cX6_cycle 8 = .ok (.iload_n 1, 1) := by decide +kernel
theorem dX6_cycle_9 : decode cX6_cycle 9 = .ok (.invokevirtual 192, 3) := by decide +kernel
theorem dX6_cycle_12 : decode cX6_cycle 12 = .ok (.istore_n 2, 1) := by decide +kernel
theorem dX6_cycle_13 : decode cX6_cycle 13 = .ok (.aload_n 0, 1) := by decide +kernel
theorem dX6_cycle_14 : decode cX6_cycle 14 = .ok (.iload_n 2, 1) := by decide +kernel
theorem dX6_cycle_15 : decode cX6_cycle 15 = .ok (.ifCond .ge 7, 3) := by decide +kernel
theorem dX6_cycle_18 : decode cX6_cycle 18 = .ok (.iconst 1, 1) := by decide +kernel
theorem dX6_cycle_19 : decode cX6_cycle 19 = .ok (.goto 4, 3) := by decide +kernel
theorem dX6_cycle_22 : decode cX6_cycle 22 = .ok (.iconst 0, 1) := by decide +kernel
theorem dX6_cycle_23 : decode cX6_cycle 23 = .ok (.iconst 1, 1) := by decide +kernel
theorem dX6_cycle_24 : decode cX6_cycle 24 = .ok (.invokevirtual 66, 3) := by decide +kernel
theorem dX6_cycle_27 : decode cX6_cycle 27 = .ok (.ifCond .eq 5, 3) := by decide +kernel
theorem dX6_cycle_30 : decode cX6_cycle 30 = .ok (.iconst (-1), 1) := by decide +kernel
theorem dX6_cycle_31 : decode cX6_cycle 31 = .ok (.ireturn, 1) := by decide +kernel
theorem dX6_cycle_32 : decode cX6_cycle 32 = .ok (.aload_n 0, 1) := by decide +kernel
theorem dX6_cycle_33 : decode cX6_cycle 33 = .ok (.getfield 26, 3) := by decide +kernel
theorem dX6_cycle_36 : decode cX6_cycle 36 = .ok (.aload_n 0, 1) := by decide +kernel
theorem dX6_cycle_37 : decode cX6_cycle 37 = .ok (.getfield 19, 3) := by decide +kernel
theorem dX6_cycle_40 : decode cX6_cycle 40 = .ok (.invokevirtual 185, 3) := by decide +kernel
theorem dX6_cycle_43 : decode cX6_cycle 43 = .ok (.aload_n 0, 1) := by decide +kernel
theorem dX6_cycle_44 : decode cX6_cycle 44 = .ok (.getfield 19, 3) := by decide +kernel
theorem dX6_cycle_47 : decode cX6_cycle 47 = .ok (.getfield 84, 3) := by decide +kernel
theorem dX6_cycle_50 : decode cX6_cycle 50 = .ok (.if_icmp .ge 6, 3) := by decide +kernel
theorem dX6_cycle_53 : decode cX6_cycle 53 = .ok (.bipush (-2), 2) := by decide +kernel
theorem dX6_cycle_55 : decode cX6_cycle 55 = .ok (.ireturn, 1) := by decide +kernel
theorem dX6_cycle_56 : decode cX6_cycle 56 = .ok (.aload_n 0, 1) := by decide +kernel
theorem dX6_cycle_57 : decode cX6_cycle 57 = .ok (.getfield 33, 3) := by decide +kernel
theorem dX6_cycle_60 : decode cX6_cycle 60 = .ok (.aload_n 0, 1) := by decide +kernel
theorem dX6_cycle_61 : decode cX6_cycle 61 = .ok (.getfield 19, 3) := by decide +kernel
theorem dX6_cycle_64 : decode cX6_cycle 64 = .ok (.aload_n 0, 1) := by decide +kernel
theorem dX6_cycle_65 : decode cX6_cycle 65 = .ok (.getfield 26, 3) := by decide +kernel
theorem dX6_cycle_68 : decode cX6_cycle 68 = .ok (.getfield 174, 3) := by decide +kernel
theorem dX6_cycle_71 : decode cX6_cycle 71 = .ok (.iload_n 2, 1) := by decide +kernel
theorem dX6_cycle_72 : decode cX6_cycle 72 = .ok (.iaload, 1) := by decide +kernel
theorem dX6_cycle_73 : decode cX6_cycle 73 = .ok (.aload_n 0, 1) := by decide +kernel
theorem dX6_cycle_74 : decode cX6_cycle 74 = .ok (.getfield 19, 3) := by decide +kernel
theorem dX6_cycle_77 : decode cX6_cycle 77 = .ok (.invokevirtual 195, 3) := by decide +kernel
theorem dX6_cycle_80 : decode cX6_cycle 80 = .ok (.aload_n 0, 1) := by decide +kernel
theorem dX6_cycle_81 : decode cX6_cycle 81 = .ok (.getfield 26, 3) := by decide +kernel
theorem dX6_cycle_84 : decode cX6_cycle 84 = .ok (.aload_n 0, 1) := by decide +kernel
theorem dX6_cycle_85 : decode cX6_cycle 85 = .ok (.getfield 19, 3) := by decide +kernel
theorem dX6_cycle_88 : decode cX6_cycle 88 = .ok (.invokevirtual 198, 3) := by decide +kernel
theorem dX6_cycle_91 : decode cX6_cycle 91 = .ok (.iconst (-1), 1) := by decide +kernel
theorem dX6_cycle_92 : decode cX6_cycle 92 = .ok (.ixor, 1) := by decide +kernel
theorem dX6_cycle_93 : decode cX6_cycle 93 = .ok (.iand, 1) := by decide +kernel
theorem dX6_cycle_94 : decode cX6_cycle 94 = .ok (.invokevirtual 201, 3) := by decide +kernel
theorem dX6_cycle_97 : decode cX6_cycle 97 = .ok (.ireturn, 1) := by decide +kernel
theorem dX6_mean_0 : decode cX6_mean 0 = .ok (.aload_n 0, 1) := by decide +kernel
theorem dX6_mean_1 : decode cX6_mean 1 = .ok (.invokevirtual 146, 3) := by decide +kernel
theorem dX6_mean_4 : decode cX6_mean 4 = .ok (.ifCond .eq 7, 3) := by decide +kernel
theorem dX6_mean_7 : decode cX6_mean 7 = .ok (.ldc2_w 205, 3) := by decide +kernel
theorem dX6_mean_10 : decode cX6_mean 10 = .ok (.dreturn, 1) := by decide +kernel
theorem dX6_mean_11 : decode cX6_mean 11 = .ok (.iconst 0, 1) := by decide +kernel
theorem dX6_mean_12 : decode cX6_mean 12 = .ok (.istore_n 1, 1) := by decide +kernel
theorem dX6_mean_13 : decode cX6_mean 13 = .ok (.iconst 0, 1) := by decide +kernel
theorem dX6_mean_14 : decode cX6_mean 14 = .ok (.istore_n 2, 1) := by decide +kernel
theorem dX6_mean_15 : decode cX6_mean 15 = .ok (.iload_n 2, 1) := by decide +kernel
theorem dX6_mean_16 : decode cX6_mean 16 = .ok (.aload_n 0, 1) := by decide +kernel
theorem dX6_mean_17 : decode cX6_mean 17 = .ok (.getfield 19, 3) := by decide +kernel
theorem dX6_mean_20 : decode cX6_mean 20 = .ok (.getfield 84, 3) := by decide +kernel
theorem dX6_mean_23 : decode cX6_mean 23 = .ok (.if_icmp .ge 27, 3) := by decide +kernel
theorem dX6_mean_26 : decode cX6_mean 26 = .ok (.iload_n 1, 1) := by decide +kernel
theorem dX6_mean_27 : decode cX6_mean 27 = .ok (.aload_n 0, 1) := by decide +kernel
theorem dX6_mean_28 : decode cX6_mean 28 = .ok (.getfield 26, 3) := by decide +kernel
theorem dX6_mean_31 : decode cX6_mean 31 = .ok (.aload_n 0, 1) := by decide +kernel
theorem dX6_mean_32 : decode cX6_mean 32 = .ok (.getfield 19, 3) := by decide +kernel
theorem dX6_mean_35 : decode cX6_mean 35 = .ok (.iload_n 2, 1) := by decide +kernel
theorem dX6_mean_36 : decode cX6_mean 36 = .ok (.invokevirtual 181, 3) := by decide +kernel
theorem dX6_mean_39 : decode cX6_mean 39 = .ok (.invokestatic 207, 3) := by decide +kernel
theorem dX6_mean_42 : decode cX6_mean 42 = .ok (.iadd, 1) := by decide +kernel
theorem dX6_mean_43 : decode cX6_mean 43 = .ok (.istore_n 1, 1) := by decide +kernel
theorem dX6_mean_44 : decode cX6_mean 44 = .ok (.iinc 2 1, 3) := by decide +kernel
theorem dX6_mean_47 : decode cX6_mean 47 = .ok (.goto (-32), 3) := by decide +kernel
theorem dX6_mean_50 : decode cX6_mean 50 = .ok (.aload_n 0, 1) := by decide +kernel
theorem dX6_mean_51 : decode cX6_mean 51 = .ok (.getfield 19, 3) := by decide +kernel
theorem dX6_mean_54 : decode cX6_mean 54 = .ok (.getfield 84, 3) := by decide +kernel
theorem dX6_mean_57 : decode cX6_mean 57 = .ok (.ifCond .ne 9, 3) := by decide +kernel
theorem dX6_mean_60 : decode cX6_mean 60 = .ok (.ldc2_w 205, 3) := by decide +kernel
theorem dX6_mean_63 : decode cX6_mean 63 = .ok (.goto 14, 3) := by decide +kernel
theorem dX6_mean_66 : decode cX6_mean 66 = .ok (.iload_n 1, 1) := by decide +kernel
theorem dX6_mean_67 : decode cX6_mean 67 = .ok (.i2d, 1) := by decide +kernel
theorem dX6_mean_68 : decode cX6_mean 68 = .ok (.aload_n 0, 1) := by decide +kernel
theorem dX6_mean_69 : decode cX6_mean 69 = .ok (.getfield 19, 3) := by decide +kernel
theorem dX6_mean_72 : decode cX6_mean 72 = .ok (.getfield 84, 3) := by decide +kernel
theorem dX6_mean_75 : decode cX6_mean 75 = .ok (.i2d, 1) := by decide +kernel
theorem dX6_mean_76 : decode cX6_mean 76 = .ok (.ddiv, 1) := by decide +kernel
theorem dX6_mean_77 : decode cX6_mean 77 = .ok (.dreturn, 1) := by decide +kernel
theorem dX6_cell_0 : decode cX6_cell 0 = .ok (.aload_n 0, 1) := by decide +kernel
theorem dX6_cell_1 : decode cX6_cell 1 = .ok (.iload_n 1, 1) := by decide +kernel
theorem dX6_cell_2 : decode cX6_cell 2 = .ok (.invokevirtual 122, 3) := by decide +kernel
theorem dX6_cell_5 : decode cX6_cell 5 = .ok (.ifCond .eq 5, 3) := by decide +kernel
theorem dX6_cell_8 : decode cX6_cell 8 = .ok (.iconst (-1), 1) := by decide +kernel
theorem dX6_cell_9 : decode cX6_cell 9 = .ok (.ireturn, 1) := by decide +kernel
theorem dX6_cell_10 : decode cX6_cell 10 = .ok (.aload_n 0, 1) := by decide +kernel
theorem dX6_cell_11 : decode cX6_cell 11 = .ok (.getfield 26, 3) := by decide +kernel
theorem dX6_cell_14 : decode cX6_cell 14 = .ok (.aload_n 0, 1) := by decide +kernel
theorem dX6_cell_15 : decode cX6_cell 15 = .ok (.getfield 19, 3) := by decide +kernel
theorem dX6_cell_18 : decode cX6_cell 18 = .ok (.iload_n 1, 1) := by decide +kernel
theorem dX6_cell_19 : decode cX6_cell 19 = .ok (.invokevirtual 210, 3) := by decide +kernel
theorem dX6_cell_22 : decode cX6_cell 22 = .ok (.ireturn, 1) := by decide +kernel
theorem dX6_fresh_0 : decode cX6_fresh 0 = .ok (.aload_n 0, 1) := by decide +kernel
theorem dX6_fresh_1 : decode cX6_fresh 1 = .ok (.iload_n 1, 1) := by decide +kernel
theorem dX6_fresh_2 : decode cX6_fresh 2 = .ok (.invokevirtual 171, 3) := by decide +kernel
theorem dX6_fresh_5 : decode cX6_fresh 5 = .ok (.ifCond .eq 5, 3) := by decide +kernel
theorem dX6_fresh_8 : decode cX6_fresh 8 = .ok (.iconst (-1), 1) := by decide +kernel
theorem dX6_fresh_9 : decode cX6_fresh 9 = .ok (.ireturn, 1) := by decide +kernel
theorem dX6_fresh_10 : decode cX6_fresh 10 = .ok (.iconst 0, 1) := by decide +kernel
theorem dX6_fresh_11 : decode cX6_fresh 11 = .ok (.istore_n 2, 1) := by decide +kernel
theorem dX6_fresh_12 : decode cX6_fresh 12 = .ok (.iconst 0, 1) := by decide +kernel
theorem dX6_fresh_13 : decode cX6_fresh 13 = .ok (.istore_n 3, 1) := by decide +kernel
theorem dX6_fresh_14 : decode cX6_fresh 14 = .ok (.iload_n 3, 1) := by decide +kernel
theorem dX6_fresh_15 : decode cX6_fresh 15 = .ok (.aload_n 0, 1) := by decide +kernel
theorem dX6_fresh_16 : decode cX6_fresh 16 = .ok (.getfield 19, 3) := by decide +kernel
theorem dX6_fresh_19 : decode cX6_fresh 19 = .ok (.invokevirtual 159, 3) := by decide +kernel
theorem dX6_fresh_22 : decode cX6_fresh 22 = .ok (.if_icmp .gt 28, 3) := by decide +kernel
theorem dX6_fresh_25 : decode cX6_fresh 25 = .ok (.aload_n 0, 1) := by decide +kernel
theorem dX6_fresh_26 : decode cX6_fresh 26 = .ok (.getfield 26, 3) := by decide +kernel
theorem dX6_fresh_29 : decode cX6_fresh 29 = .ok (.aload_n 0, 1) := by decide +kernel
theorem dX6_fresh_30 : decode cX6_fresh 30 = .ok (.getfield 19, 3) := by decide +kernel
theorem dX6_fresh_33 : decode cX6_fresh 33 = .ok (.iload_n 3, 1) := by decide +kernel
theorem dX6_fresh_34 : decode cX6_fresh 34 = .ok (.invokevirtual 210, 3) := by decide +kernel
theorem dX6_fresh_37 : decode cX6_fresh 37 = .ok (.iload_n 1, 1) := by decide +kernel
theorem dX6_fresh_38 : decode cX6_fresh 38 = .ok (.if_icmp .ne 6, 3) := by decide +kernel
theorem dX6_fresh_41 : decode cX6_fresh 41 = .ok (.iinc 2 1, 3) := by decide +kernel
theorem dX6_fresh_44 : decode cX6_fresh 44 = .ok (.iinc 3 1, 3) := by decide +kernel
theorem dX6_fresh_47 : decode cX6_fresh 47 = .ok (.goto (-33), 3) := by decide +kernel
theorem dX6_fresh_50 : decode cX6_fresh 50 = .ok (.iload_n 2, 1) := by decide +kernel
theorem dX6_fresh_51 : decode cX6_fresh 51 = .ok (.ireturn, 1) := by decide +kernel
theorem dX6_between_0 : decode cX6_between 0 = .ok (.aload_n 0, 1) := by decide +kernel
theorem dX6_between_1 : decode cX6_between 1 = .ok (.iload_n 1, 1) := by decide +kernel
theorem dX6_between_2 : decode cX6_between 2 = .ok (.invokevirtual 122, 3) := by decide +kernel
theorem dX6_between_5 : decode cX6_between 5 = .ok (.ifCond .eq 5, 3) := by decide +kernel
theorem dX6_between_8 : decode cX6_between 8 = .ok (.iconst (-1), 1) := by decide +kernel
theorem dX6_between_9 : decode cX6_between 9 = .ok (.ireturn, 1) := by decide +kernel
theorem dX6_between_10 : decode cX6_between 10 = .ok (.aload_n 0, 1) := by decide +kernel
theorem dX6_between_11 : decode cX6_between 11 = .ok (.getfield 26, 3) := by decide +kernel
theorem dX6_between_14 : decode cX6_between 14 = .ok (.aload_n 0, 1) := by decide +kernel
theorem dX6_between_15 : decode cX6_between 15 = .ok (.getfield 19, 3) := by decide +kernel
theorem dX6_between_18 : decode cX6_between 18 = .ok (.iload_n 1, 1) := by decide +kernel
theorem dX6_between_19 : decode cX6_between 19 = .ok (.invokevirtual 213, 3) := by decide +kernel
theorem dX6_between_22 : decode cX6_between 22 = .ok (.ireturn, 1) := by decide +kernel
theorem dX6_unparted_0 : decode cX6_unparted 0 = .ok (.aload_n 0, 1) := by decide +kernel
theorem dX6_unparted_1 : decode cX6_unparted 1 = .ok (.invokevirtual 146, 3) := by decide +kernel
theorem dX6_unparted_4 : decode cX6_unparted 4 = .ok (.ifCond .eq 5, 3) := by decide +kernel
theorem dX6_unparted_7 : decode cX6_unparted 7 = .ok (.iconst (-1), 1) := by decide +kernel
theorem dX6_unparted_8 : decode cX6_unparted 8 = .ok (.ireturn, 1) := by decide +kernel
theorem dX6_unparted_9 : decode cX6_unparted 9 = .ok (.iconst 0, 1) := by decide +kernel
theorem dX6_unparted_10 : decode cX6_unparted 10 = .ok (.istore_n 1, 1) := by decide +kernel
theorem dX6_unparted_11 : decode cX6_unparted 11 = .ok (.iconst 0, 1) := by decide +kernel
theorem dX6_unparted_12 : decode cX6_unparted 12 = .ok (.istore_n 2, 1) := by decide +kernel
theorem dX6_unparted_13 : decode cX6_unparted 13 = .ok (.iload_n 2, 1) := by decide +kernel
theorem dX6_unparted_14 : decode cX6_unparted 14 = .ok (.aload_n 0, 1) := by decide +kernel
theorem dX6_unparted_15 : decode cX6_unparted 15 = .ok (.getfield 19, 3) := by decide +kernel
theorem dX6_unparted_18 : decode cX6_unparted 18 = .ok (.invokevirtual 159, 3) := by decide +kernel
theorem dX6_unparted_21 : decode cX6_unparted 21 = .ok (.if_icmp .gt 39, 3) := by decide +kernel
theorem dX6_unparted_24 : decode cX6_unparted 24 = .ok (.aload_n 0, 1) := by decide +kernel
theorem dX6_unparted_25 : decode cX6_unparted 25 = .ok (.getfield 19, 3) := by decide +kernel
theorem dX6_unparted_28 : decode cX6_unparted 28 = .ok (.iload_n 2, 1) := by decide +kernel
theorem dX6_unparted_29 : decode cX6_unparted 29 = .ok (.invokevirtual 216, 3) := by decide +kernel
theorem dX6_unparted_32 : decode cX6_unparted 32 = .ok (.ifCond .eq 22, 3) := by decide +kernel
theorem dX6_unparted_35 : decode cX6_unparted 35 = .ok (.aload_n 0, 1) := by decide +kernel
theorem dX6_unparted_36 : decode cX6_unparted 36 = .ok (.getfield 26, 3) := by decide +kernel
theorem dX6_unparted_39 : decode cX6_unparted 39 = .ok (.aload_n 0, 1) := by decide +kernel
theorem dX6_unparted_40 : decode cX6_unparted 40 = .ok (.getfield 19, 3) := by decide +kernel
theorem dX6_unparted_43 : decode cX6_unparted 43 = .ok (.iload_n 2, 1) := by decide +kernel
theorem dX6_unparted_44 : decode cX6_unparted 44 = .ok (.invokevirtual 213, 3) := by decide +kernel
theorem dX6_unparted_47 : decode cX6_unparted 47 = .ok (.iconst 1, 1) := by decide +kernel
theorem dX6_unparted_48 : decode cX6_unparted 48 = .ok (.if_icmp .eq 6, 3) := by decide +kernel
theorem dX6_unparted_51 : decode cX6_unparted 51 = .ok (.iinc 1 1, 3) := by decide +kernel
theorem dX6_unparted_54 : decode cX6_unparted 54 = .ok (.iinc 2 1, 3) := by decide +kernel
theorem dX6_unparted_57 : decode cX6_unparted 57 = .ok (.goto (-44), 3) := by decide +kernel
theorem dX6_unparted_60 : decode cX6_unparted 60 = .ok (.iload_n 1, 1) := by decide +kernel
theorem dX6_unparted_61 : decode cX6_unparted 61 = .ok (.ireturn, 1) := by decide +kernel
theorem dX6_rebuilt_0 : decode cX6_rebuilt 0 = .ok (.aload_n 0, 1) := by decide +kernel
theorem dX6_rebuilt_1 : decode cX6_rebuilt 1 = .ok (.iload_n 1, 1) := by decide +kernel
theorem dX6_rebuilt_2 : decode cX6_rebuilt 2 = .ok (.aload_n 0, 1) := by decide +kernel
theorem dX6_rebuilt_3 : decode cX6_rebuilt 3 = .ok (.getfield 19, 3) := by decide +kernel
theorem dX6_rebuilt_6 : decode cX6_rebuilt 6 = .ok (.getfield 99, 3) := by decide +kernel
theorem dX6_rebuilt_9 : decode cX6_rebuilt 9 = .ok (.invokevirtual 132, 3) := by decide +kernel
theorem dX6_rebuilt_12 : decode cX6_rebuilt 12 = .ok (.ifCond .eq 5, 3) := by decide +kernel
theorem dX6_rebuilt_15 : decode cX6_rebuilt 15 = .ok (.iconst (-1), 1) := by decide +kernel
theorem dX6_rebuilt_16 : decode cX6_rebuilt 16 = .ok (.ireturn, 1) := by decide +kernel
theorem dX6_rebuilt_17 : decode cX6_rebuilt 17 = .ok (.iconst 0, 1) := by decide +kernel
theorem dX6_rebuilt_18 : decode cX6_rebuilt 18 = .ok (.istore_n 2, 1) := by decide +kernel
theorem dX6_rebuilt_19 : decode cX6_rebuilt 19 = .ok (.iconst 0, 1) := by decide +kernel
theorem dX6_rebuilt_20 : decode cX6_rebuilt 20 = .ok (.istore_n 3, 1) := by decide +kernel
theorem dX6_rebuilt_21 : decode cX6_rebuilt 21 = .ok (.iload_n 3, 1) := by decide +kernel
theorem dX6_rebuilt_22 : decode cX6_rebuilt 22 = .ok (.iload_n 1, 1) := by decide +kernel
theorem dX6_rebuilt_23 : decode cX6_rebuilt 23 = .ok (.if_icmp .gt 40, 3) := by decide +kernel
theorem dX6_rebuilt_26 : decode cX6_rebuilt 26 = .ok (.iload_n 2, 1) := by decide +kernel
theorem dX6_rebuilt_27 : decode cX6_rebuilt 27 = .ok (.aload_n 0, 1) := by decide +kernel
theorem dX6_rebuilt_28 : decode cX6_rebuilt 28 = .ok (.getfield 26, 3) := by decide +kernel
theorem dX6_rebuilt_31 : decode cX6_rebuilt 31 = .ok (.aload_n 0, 1) := by decide +kernel
theorem dX6_rebuilt_32 : decode cX6_rebuilt 32 = .ok (.getfield 19, 3) := by decide +kernel
theorem dX6_rebuilt_35 : decode cX6_rebuilt 35 = .ok (.iload_n 3, 1) := by decide +kernel
theorem dX6_rebuilt_36 : decode cX6_rebuilt 36 = .ok (.invokevirtual 189, 3) := by decide +kernel
theorem dX6_rebuilt_39 : decode cX6_rebuilt 39 = .ok (.aload_n 0, 1) := by decide +kernel
theorem dX6_rebuilt_40 : decode cX6_rebuilt 40 = .ok (.getfield 19, 3) := by decide +kernel
theorem dX6_rebuilt_43 : decode cX6_rebuilt 43 = .ok (.getfield 99, 3) := by decide +kernel
theorem dX6_rebuilt_46 : decode cX6_rebuilt 46 = .ok (.iload_n 3, 1) := by decide +kernel
theorem dX6_rebuilt_47 : decode cX6_rebuilt 47 = .ok (.isub, 1) := by decide +kernel
theorem dX6_rebuilt_48 : decode cX6_rebuilt 48 = .ok (.iload_n 1, 1) := by decide +kernel
theorem dX6_rebuilt_49 : decode cX6_rebuilt 49 = .ok (.iload_n 3, 1) := by decide +kernel
theorem dX6_rebuilt_50 : decode cX6_rebuilt 50 = .ok (.isub, 1) := by decide +kernel
theorem dX6_rebuilt_51 : decode cX6_rebuilt 51 = .ok (.invokestatic 142, 3) := by decide +kernel
theorem dX6_rebuilt_54 : decode cX6_rebuilt 54 = .ok (.imul, 1) := by decide +kernel
theorem dX6_rebuilt_55 : decode cX6_rebuilt 55 = .ok (.iadd, 1) := by decide +kernel
theorem dX6_rebuilt_56 : decode cX6_rebuilt 56 = .ok (.istore_n 2, 1) := by decide +kernel
theorem dX6_rebuilt_57 : decode cX6_rebuilt 57 = .ok (.iinc 3 1, 3) := by decide +kernel
theorem dX6_rebuilt_60 : decode cX6_rebuilt 60 = .ok (.goto (-39), 3) := by decide +kernel
theorem dX6_rebuilt_63 : decode cX6_rebuilt 63 = .ok (.iload_n 2, 1) := by decide +kernel
theorem dX6_rebuilt_64 : decode cX6_rebuilt 64 = .ok (.ireturn, 1) := by decide +kernel
theorem dX6_swaps_0 : decode cX6_swaps 0 = .ok (.aload_n 0, 1) := by decide +kernel
theorem dX6_swaps_1 : decode cX6_swaps 1 = .ok (.invokevirtual 146, 3) := by decide +kernel
theorem dX6_swaps_4 : decode cX6_swaps 4 = .ok (.ifCond .eq 5, 3) := by decide +kernel
theorem dX6_swaps_7 : decode cX6_swaps 7 = .ok (.iconst (-1), 1) := by decide +kernel
theorem dX6_swaps_8 : decode cX6_swaps 8 = .ok (.ireturn, 1) := by decide +kernel
theorem dX6_swaps_9 : decode cX6_swaps 9 = .ok (.iconst 0, 1) := by decide +kernel
theorem dX6_swaps_10 : decode cX6_swaps 10 = .ok (.istore_n 1, 1) := by decide +kernel
theorem dX6_swaps_11 : decode cX6_swaps 11 = .ok (.iconst 0, 1) := by decide +kernel
theorem dX6_swaps_12 : decode cX6_swaps 12 = .ok (.istore_n 2, 1) := by decide +kernel
theorem dX6_swaps_13 : decode cX6_swaps 13 = .ok (.iload_n 2, 1) := by decide +kernel
theorem dX6_swaps_14 : decode cX6_swaps 14 = .ok (.iconst 1, 1) := by decide +kernel
theorem dX6_swaps_15 : decode cX6_swaps 15 = .ok (.iadd, 1) := by decide +kernel
theorem dX6_swaps_16 : decode cX6_swaps 16 = .ok (.aload_n 0, 1) := by decide +kernel
theorem dX6_swaps_17 : decode cX6_swaps 17 = .ok (.getfield 19, 3) := by decide +kernel
theorem dX6_swaps_20 : decode cX6_swaps 20 = .ok (.getfield 84, 3) := by decide +kernel
theorem dX6_swaps_23 : decode cX6_swaps 23 = .ok (.if_icmp .ge 52, 3) := by decide +kernel
theorem dX6_swaps_26 : decode cX6_swaps 26 = .ok (.aload_n 0, 1) := by decide +kernel
theorem dX6_swaps_27 : decode cX6_swaps 27 = .ok (.getfield 26, 3) := by decide +kernel
theorem dX6_swaps_30 : decode cX6_swaps 30 = .ok (.iload_n 2, 1) := by decide +kernel
theorem dX6_swaps_31 : decode cX6_swaps 31 = .ok (.invokevirtual 219, 3) := by decide +kernel
theorem dX6_swaps_34 : decode cX6_swaps 34 = .ok (.aload_n 0, 1) := by decide +kernel
theorem dX6_swaps_35 : decode cX6_swaps 35 = .ok (.getfield 26, 3) := by decide +kernel
theorem dX6_swaps_38 : decode cX6_swaps 38 = .ok (.aload_n 0, 1) := by decide +kernel
theorem dX6_swaps_39 : decode cX6_swaps 39 = .ok (.getfield 19, 3) := by decide +kernel
theorem dX6_swaps_42 : decode cX6_swaps 42 = .ok (.invokevirtual 185, 3) := by decide +kernel
theorem dX6_swaps_45 : decode cX6_swaps 45 = .ok (.aload_n 0, 1) := by decide +kernel
theorem dX6_swaps_46 : decode cX6_swaps 46 = .ok (.getfield 19, 3) := by decide +kernel
theorem dX6_swaps_49 : decode cX6_swaps 49 = .ok (.getfield 84, 3) := by decide +kernel
theorem dX6_swaps_52 : decode cX6_swaps 52 = .ok (.if_icmp .ne 9, 3) := by decide +kernel
theorem dX6_swaps_55 : decode cX6_swaps 55 = .ok (.iload_n 1, 1) := by decide +kernel
theorem dX6_swaps_56 : decode cX6_swaps 56 = .ok (.iconst 1, 1) := by decide +kernel
theorem dX6_swaps_57 : decode cX6_swaps 57 = .ok (.iload_n 2, 1) := by decide +kernel
theorem dX6_swaps_58 : decode cX6_swaps 58 = .ok (.ishl, 1) := by decide +kernel
theorem dX6_swaps_59 : decode cX6_swaps 59 = .ok (.ior, 1) := by decide +kernel
theorem dX6_swaps_60 : decode cX6_swaps 60 = .ok (.istore_n 1, 1) := by decide +kernel
theorem dX6_swaps_61 : decode cX6_swaps 61 = .ok (.aload_n 0, 1) := by decide +kernel
theorem dX6_swaps_62 : decode cX6_swaps 62 = .ok (.getfield 26, 3) := by decide +kernel
theorem dX6_swaps_65 : decode cX6_swaps 65 = .ok (.iload_n 2, 1) := by decide +kernel
theorem dX6_swaps_66 : decode cX6_swaps 66 = .ok (.invokevirtual 219, 3) := by decide +kernel
theorem dX6_swaps_69 : decode cX6_swaps 69 = .ok (.iinc 2 1, 3) := by decide +kernel
theorem dX6_swaps_72 : decode cX6_swaps 72 = .ok (.goto (-59), 3) := by decide +kernel
theorem dX6_swaps_75 : decode cX6_swaps 75 = .ok (.iload_n 1, 1) := by decide +kernel
theorem dX6_swaps_76 : decode cX6_swaps 76 = .ok (.ireturn, 1) := by decide +kernel
theorem dX6_leaps_0 : decode cX6_leaps 0 = .ok (.aload_n 0, 1) := by decide +kernel
theorem dX6_leaps_1 : decode cX6_leaps 1 = .ok (.iload_n 1, 1) := by decide +kernel
theorem dX6_leaps_2 : decode cX6_leaps 2 = .ok (.invokevirtual 171, 3) := by decide +kernel
theorem dX6_leaps_5 : decode cX6_leaps 5 = .ok (.ifCond .eq 7, 3) := by decide +kernel
theorem dX6_leaps_8 : decode cX6_leaps 8 = .ok (.iconst (-1), 1) := by decide +kernel
theorem dX6_leaps_9 : decode cX6_leaps 9 = .ok (.goto 15, 3) := by decide +kernel
theorem dX6_leaps_12 : decode cX6_leaps 12 = .ok (.aload_n 0, 1) := by decide +kernel
theorem dX6_leaps_13 : decode cX6_leaps 13 = .ok (.getfield 26, 3) := by decide +kernel
theorem dX6_leaps_16 : decode cX6_leaps 16 = .ok (.aload_n 0, 1) := by decide +kernel
theorem dX6_leaps_17 : decode cX6_leaps 17 = .ok (.getfield 19, 3) := by decide +kernel
theorem dX6_leaps_20 : decode cX6_leaps 20 = .ok (.iload_n 1, 1) := by decide +kernel
theorem dX6_leaps_21 : decode cX6_leaps 21 = .ok (.invokevirtual 222, 3) := by decide +kernel
theorem dX6_leaps_24 : decode cX6_leaps 24 = .ok (.ireturn, 1) := by decide +kernel
theorem dX6_leap_0 : decode cX6_leap 0 = .ok (.aload_n 0, 1) := by decide +kernel
theorem dX6_leap_1 : decode cX6_leap 1 = .ok (.getfield 26, 3) := by decide +kernel
theorem dX6_leap_4 : decode cX6_leap 4 = .ok (.aload_n 0, 1) := by decide +kernel
theorem dX6_leap_5 : decode cX6_leap 5 = .ok (.getfield 19, 3) := by decide +kernel
theorem dX6_leap_8 : decode cX6_leap 8 = .ok (.iload_n 1, 1) := by decide +kernel
theorem dX6_leap_9 : decode cX6_leap 9 = .ok (.invokevirtual 225, 3) := by decide +kernel
theorem dX6_leap_12 : decode cX6_leap 12 = .ok (.ifCond .eq 19, 3) := by decide +kernel
theorem dX6_leap_15 : decode cX6_leap 15 = .ok (.aload_n 0, 1) := by decide +kernel
theorem dX6_leap_16 : decode cX6_leap 16 = .ok (.getfield 26, 3) := by decide +kernel
theorem dX6_leap_19 : decode cX6_leap 19 = .ok (.aload_n 0, 1) := by decide +kernel
theorem dX6_leap_20 : decode cX6_leap 20 = .ok (.getfield 19, 3) := by decide +kernel
theorem dX6_leap_23 : decode cX6_leap 23 = .ok (.iload_n 1, 1) := by decide +kernel
theorem dX6_leap_24 : decode cX6_leap 24 = .ok (.iload_n 2, 1) := by decide +kernel
theorem dX6_leap_25 : decode cX6_leap 25 = .ok (.invokevirtual 228, 3) := by decide +kernel
theorem dX6_leap_28 : decode cX6_leap 28 = .ok (.goto 4, 3) := by decide +kernel
theorem dX6_leap_31 : decode cX6_leap 31 = .ok (.iconst (-1), 1) := by decide +kernel
theorem dX6_leap_32 : decode cX6_leap 32 = .ok (.istore_n 3, 1) := by decide +kernel
theorem dX6_leap_33 : decode cX6_leap 33 = .ok (.aload_n 0, 1) := by decide +kernel
theorem dX6_leap_34 : decode cX6_leap 34 = .ok (.iload_n 3, 1) := by decide +kernel
theorem dX6_leap_35 : decode cX6_leap 35 = .ok (.ifCond .ge 7, 3) := by decide +kernel
theorem dX6_leap_38 : decode cX6_leap 38 = .ok (.iconst 1, 1) := by decide +kernel
theorem dX6_leap_39 : decode cX6_leap 39 = .ok (.goto 4, 3) := by decide +kernel
theorem dX6_leap_42 : decode cX6_leap 42 = .ok (.iconst 0, 1) := by decide +kernel
theorem dX6_leap_43 : decode cX6_leap 43 = .ok (.iconst 1, 1) := by decide +kernel
theorem dX6_leap_44 : decode cX6_leap 44 = .ok (.invokevirtual 66, 3) := by decide +kernel
theorem dX6_leap_47 : decode cX6_leap 47 = .ok (.ifCond .eq 7, 3) := by decide +kernel
theorem dX6_leap_50 : decode cX6_leap 50 = .ok (.iconst (-1), 1) := by decide +kernel
theorem dX6_leap_51 : decode cX6_leap 51 = .ok (.goto 4, 3) := by decide +kernel
theorem dX6_leap_54 : decode cX6_leap 54 = .ok (.iload_n 3, 1) := by decide +kernel
theorem dX6_leap_55 : decode cX6_leap 55 = .ok (.ireturn, 1) := by decide +kernel
theorem dX6_linear_0 : decode cX6_linear 0 = .ok (.aload_n 0, 1) := by decide +kernel
theorem dX6_linear_1 : decode cX6_linear 1 = .ok (.invokevirtual 146, 3) := by decide +kernel
theorem dX6_linear_4 : decode cX6_linear 4 = .ok (.ifCond .eq 5, 3) := by decide +kernel
theorem dX6_linear_7 : decode cX6_linear 7 = .ok (.iconst (-1), 1) := by decide +kernel
theorem dX6_linear_8 : decode cX6_linear 8 = .ok (.ireturn, 1) := by decide +kernel
theorem dX6_linear_9 : decode cX6_linear 9 = .ok (.iconst 0, 1) := by decide +kernel
theorem dX6_linear_10 : decode cX6_linear 10 = .ok (.istore_n 1, 1) := by decide +kernel
theorem dX6_linear_11 : decode cX6_linear 11 = .ok (.iload_n 1, 1) := by decide +kernel
theorem dX6_linear_12 : decode cX6_linear 12 = .ok (.aload_n 0, 1) := by decide +kernel
theorem dX6_linear_13 : decode cX6_linear 13 = .ok (.getfield 19, 3) := by decide +kernel
theorem dX6_linear_16 : decode cX6_linear 16 = .ok (.getfield 84, 3) := by decide +kernel
theorem dX6_linear_19 : decode cX6_linear 19 = .ok (.if_icmp .ge 26, 3) := by decide +kernel
theorem dX6_linear_22 : decode cX6_linear 22 = .ok (.aload_n 0, 1) := by decide +kernel
theorem dX6_linear_23 : decode cX6_linear 23 = .ok (.getfield 26, 3) := by decide +kernel
theorem dX6_linear_26 : decode cX6_linear 26 = .ok (.aload_n 0, 1) := by decide +kernel
theorem dX6_linear_27 : decode cX6_linear 27 = .ok (.getfield 19, 3) := by decide +kernel
theorem dX6_linear_30 : decode cX6_linear 30 = .ok (.iload_n 1, 1) := by decide +kernel
theorem dX6_linear_31 : decode cX6_linear 31 = .ok (.invokevirtual 231, 3) := by decide +kernel
theorem dX6_linear_34 : decode cX6_linear 34 = .ok (.ifCond .ne 5, 3) := by decide +kernel
theorem dX6_linear_37 : decode cX6_linear 37 = .ok (.iconst 0, 1) := by decide +kernel
theorem dX6_linear_38 : decode cX6_linear 38 = .ok (.ireturn, 1) := by decide +kernel
theorem dX6_linear_39 : decode cX6_linear 39 = .ok (.iinc 1 1, 3) := by decide +kernel
theorem dX6_linear_42 : decode cX6_linear 42 = .ok (.goto (-31), 3) := by decide +kernel
theorem dX6_linear_45 : decode cX6_linear 45 = .ok (.iconst 1, 1) := by decide +kernel
theorem dX6_linear_46 : decode cX6_linear 46 = .ok (.ireturn, 1) := by decide +kernel
theorem dX6_shellings_0 : decode cX6_shellings 0 = .ok (.aload_n 0, 1) := by decide +kernel
theorem dX6_shellings_1 : decode cX6_shellings 1 = .ok (.invokevirtual 146, 3) := by decide +kernel
theorem dX6_shellings_4 : decode cX6_shellings 4 = .ok (.ifCond .eq 5, 3) := by decide +kernel
theorem dX6_shellings_7 : decode cX6_shellings 7 = .ok (.iconst (-1), 1) := by decide +kernel
theorem dX6_shellings_8 : decode cX6_shellings 8 = .ok (.ireturn, 1) := by decide +kernel
theorem dX6_shellings_9 : decode cX6_shellings 9 = .ok (.aload_n 0, 1) := by decide +kernel
theorem dX6_shellings_10 : decode cX6_shellings 10 = .ok (.invokevirtual 234, 3) := by decide +kernel
theorem dX6_shellings_13 : decode cX6_shellings 13 = .ok (.getfield 238, 3) := by decide +kernel
theorem dX6_shellings_16 : decode cX6_shellings 16 = .ok (.iconst 0, 1) := by decide +kernel
theorem dX6_shellings_17 : decode cX6_shellings 17 = .ok (.iaload, 1) := by decide +kernel
theorem dX6_shellings_18 : decode cX6_shellings 18 = .ok (.ireturn, 1) := by decide +kernel
theorem dX6_shelled_0 : decode cX6_shelled 0 = .ok (.aload_n 0, 1) := by decide +kernel
theorem dX6_shelled_1 : decode cX6_shelled 1 = .ok (.iload_n 1, 1) := by decide +kernel
theorem dX6_shelled_2 : decode cX6_shelled 2 = .ok (.invokevirtual 171, 3) := by decide +kernel
theorem dX6_shelled_5 : decode cX6_shelled 5 = .ok (.ifCond .eq 5, 3) := by decide +kernel
theorem dX6_shelled_8 : decode cX6_shelled 8 = .ok (.iconst (-1), 1) := by decide +kernel
theorem dX6_shelled_9 : decode cX6_shelled 9 = .ok (.ireturn, 1) := by decide +kernel
theorem dX6_shelled_10 : decode cX6_shelled 10 = .ok (.aload_n 0, 1) := by decide +kernel
theorem dX6_shelled_11 : decode cX6_shelled 11 = .ok (.invokevirtual 234, 3) := by decide +kernel
theorem dX6_shelled_14 : decode cX6_shelled 14 = .ok (.aload_n 0, 1) := by decide +kernel
theorem dX6_shelled_15 : decode cX6_shelled 15 = .ok (.getfield 19, 3) := by decide +kernel
theorem dX6_shelled_18 : decode cX6_shelled 18 = .ok (.iload_n 1, 1) := by decide +kernel
theorem dX6_shelled_19 : decode cX6_shelled 19 = .ok (.invokevirtual 241, 3) := by decide +kernel
theorem dX6_shelled_22 : decode cX6_shelled 22 = .ok (.ireturn, 1) := by decide +kernel
theorem dX6_peelable_0 : decode cX6_peelable 0 = .ok (.aload_n 0, 1) := by decide +kernel
theorem dX6_peelable_1 : decode cX6_peelable 1 = .ok (.invokevirtual 146, 3) := by decide +kernel
theorem dX6_peelable_4 : decode cX6_peelable 4 = .ok (.ifCond .eq 5, 3) := by decide +kernel
theorem dX6_peelable_7 : decode cX6_peelable 7 = .ok (.iconst (-1), 1) := by decide +kernel
theorem dX6_peelable_8 : decode cX6_peelable 8 = .ok (.ireturn, 1) := by decide +kernel
theorem dX6_peelable_9 : decode cX6_peelable 9 = .ok (.aload_n 0, 1) := by decide +kernel
theorem dX6_peelable_10 : decode cX6_peelable 10 = .ok (.invokevirtual 234, 3) := by decide +kernel
theorem dX6_peelable_13 : decode cX6_peelable 13 = .ok (.aload_n 0, 1) := by decide +kernel
theorem dX6_peelable_14 : decode cX6_peelable 14 = .ok (.getfield 19, 3) := by decide +kernel
theorem dX6_peelable_17 : decode cX6_peelable 17 = .ok (.invokevirtual 244, 3) := by decide +kernel
theorem dX6_peelable_20 : decode cX6_peelable 20 = .ok (.ireturn, 1) := by decide +kernel
theorem dX6_goesOn_0 : decode cX6_goesOn 0 = .ok (.aload_n 0, 1) := by decide +kernel
theorem dX6_goesOn_1 : decode cX6_goesOn 1 = .ok (.iload_n 1, 1) := by decide +kernel
theorem dX6_goesOn_2 : decode cX6_goesOn 2 = .ok (.aload_n 0, 1) := by decide +kernel
theorem dX6_goesOn_3 : decode cX6_goesOn 3 = .ok (.getfield 19, 3) := by decide +kernel
theorem dX6_goesOn_6 : decode cX6_goesOn 6 = .ok (.getfield 84, 3) := by decide +kernel
theorem dX6_goesOn_9 : decode cX6_goesOn 9 = .ok (.invokevirtual 132, 3) := by decide +kernel
theorem dX6_goesOn_12 : decode cX6_goesOn 12 = .ok (.ifCond .eq 5, 3) := by decide +kernel
theorem dX6_goesOn_15 : decode cX6_goesOn 15 = .ok (.iconst (-1), 1) := by decide +kernel
theorem dX6_goesOn_16 : decode cX6_goesOn 16 = .ok (.ireturn, 1) := by decide +kernel
theorem dX6_goesOn_17 : decode cX6_goesOn 17 = .ok (.aload_n 0, 1) := by decide +kernel
theorem dX6_goesOn_18 : decode cX6_goesOn 18 = .ok (.getfield 26, 3) := by decide +kernel
theorem dX6_goesOn_21 : decode cX6_goesOn 21 = .ok (.aload_n 0, 1) := by decide +kernel
theorem dX6_goesOn_22 : decode cX6_goesOn 22 = .ok (.getfield 19, 3) := by decide +kernel
theorem dX6_goesOn_25 : decode cX6_goesOn 25 = .ok (.invokevirtual 185, 3) := by decide +kernel
theorem dX6_goesOn_28 : decode cX6_goesOn 28 = .ok (.iload_n 1, 1) := by decide +kernel
theorem dX6_goesOn_29 : decode cX6_goesOn 29 = .ok (.if_icmp .ge 5, 3) := by decide +kernel
theorem dX6_goesOn_32 : decode cX6_goesOn 32 = .ok (.iconst 0, 1) := by decide +kernel
theorem dX6_goesOn_33 : decode cX6_goesOn 33 = .ok (.ireturn, 1) := by decide +kernel
theorem dX6_goesOn_34 : decode cX6_goesOn 34 = .ok (.aload_n 0, 1) := by decide +kernel
theorem dX6_goesOn_35 : decode cX6_goesOn 35 = .ok (.invokevirtual 234, 3) := by decide +kernel
theorem dX6_goesOn_38 : decode cX6_goesOn 38 = .ok (.getfield 238, 3) := by decide +kernel
theorem dX6_goesOn_41 : decode cX6_goesOn 41 = .ok (.aload_n 0, 1) := by decide +kernel
theorem dX6_goesOn_42 : decode cX6_goesOn 42 = .ok (.getfield 26, 3) := by decide +kernel
theorem dX6_goesOn_45 : decode cX6_goesOn 45 = .ok (.iload_n 1, 1) := by decide +kernel
theorem dX6_goesOn_46 : decode cX6_goesOn 46 = .ok (.invokevirtual 247, 3) := by decide +kernel
theorem dX6_goesOn_49 : decode cX6_goesOn 49 = .ok (.iaload, 1) := by decide +kernel
theorem dX6_goesOn_50 : decode cX6_goesOn 50 = .ok (.ireturn, 1) := by decide +kernel
theorem dX6_stuck_0 : decode cX6_stuck 0 = .ok (.aload_n 0, 1) := by decide +kernel
theorem dX6_stuck_1 : decode cX6_stuck 1 = .ok (.invokevirtual 146, 3) := by decide +kernel
theorem dX6_stuck_4 : decode cX6_stuck 4 = .ok (.ifCond .eq 5, 3) := by decide +kernel
theorem dX6_stuck_7 : decode cX6_stuck 7 = .ok (.iconst (-1), 1) := by decide +kernel
theorem dX6_stuck_8 : decode cX6_stuck 8 = .ok (.ireturn, 1) := by decide +kernel
theorem dX6_stuck_9 : decode cX6_stuck 9 = .ok (.aload_n 0, 1) := by decide +kernel
theorem dX6_stuck_10 : decode cX6_stuck 10 = .ok (.invokevirtual 234, 3) := by decide +kernel
theorem dX6_stuck_13 : decode cX6_stuck 13 = .ok (.aload_n 0, 1) := by decide +kernel
theorem dX6_stuck_14 : decode cX6_stuck 14 = .ok (.getfield 19, 3) := by decide +kernel
theorem dX6_stuck_17 : decode cX6_stuck 17 = .ok (.invokevirtual 250, 3) := by decide +kernel
theorem dX6_stuck_20 : decode cX6_stuck 20 = .ok (.ireturn, 1) := by decide +kernel
theorem dX6_peeled_0 : decode cX6_peeled 0 = .ok (.aload_n 0, 1) := by decide +kernel
theorem dX6_peeled_1 : decode cX6_peeled 1 = .ok (.iload_n 1, 1) := by decide +kernel
theorem dX6_peeled_2 : decode cX6_peeled 2 = .ok (.ldc 253, 2) := by decide +kernel
theorem dX6_peeled_4 : decode cX6_peeled 4 = .ok (.invokevirtual 132, 3) := by decide +kernel
theorem dX6_peeled_7 : decode cX6_peeled 7 = .ok (.ifCond .eq 5, 3) := by decide +kernel
theorem dX6_peeled_10 : decode cX6_peeled 10 = .ok (.iconst (-1), 1) := by decide +kernel
theorem dX6_peeled_11 : decode cX6_peeled 11 = .ok (.ireturn, 1) := by decide +kernel
theorem dX6_peeled_12 : decode cX6_peeled 12 = .ok (.aload_n 0, 1) := by decide +kernel
theorem dX6_peeled_13 : decode cX6_peeled 13 = .ok (.getfield 19, 3) := by decide +kernel
theorem dX6_peeled_16 : decode cX6_peeled 16 = .ok (.iload_n 1, 1) := by decide +kernel
theorem dX6_peeled_17 : decode cX6_peeled 17 = .ok (.invokevirtual 254, 3) := by decide +kernel
theorem dX6_peeled_20 : decode cX6_peeled 20 = .ok (.ireturn, 1) := by decide +kernel
theorem dX6_link_0 : decode cX6_link 0 = .ok (.aload_n 0, 1) := by decide +kernel
theorem dX6_link_1 : decode cX6_link 1 = .ok (.iload_n 1, 1) := by decide +kernel
theorem dX6_link_2 : decode cX6_link 2 = .ok (.invokevirtual 257, 3) := by decide +kernel
theorem dX6_link_5 : decode cX6_link 5 = .ok (.ifCond .eq 7, 3) := by decide +kernel
theorem dX6_link_8 : decode cX6_link 8 = .ok (.iconst (-1), 1) := by decide +kernel
theorem dX6_link_9 : decode cX6_link 9 = .ok (.goto 15, 3) := by decide +kernel
theorem dX6_link_12 : decode cX6_link 12 = .ok (.aload_n 0, 1) := by decide +kernel
theorem dX6_link_13 : decode cX6_link 13 = .ok (.getfield 19, 3) := by decide +kernel
theorem dX6_link_16 : decode cX6_link 16 = .ok (.getfield 125, 3) := by decide +kernel
theorem dX6_link_19 : decode cX6_link 19 = .ok (.iload_n 1, 1) := by decide +kernel
theorem dX6_link_20 : decode cX6_link 20 = .ok (.iaload, 1) := by decide +kernel
theorem dX6_link_21 : decode cX6_link 21 = .ok (.invokestatic 207, 3) := by decide +kernel
theorem dX6_link_24 : decode cX6_link 24 = .ok (.ireturn, 1) := by decide +kernel
theorem dX6_linkRound_0 : decode cX6_linkRound 0 = .ok (.aload_n 0, 1) := by decide +kernel
theorem dX6_linkRound_1 : decode cX6_linkRound 1 = .ok (.iload_n 1, 1) := by decide +kernel
theorem dX6_linkRound_2 : decode cX6_linkRound 2 = .ok (.invokevirtual 257, 3) := by decide +kernel
theorem dX6_linkRound_5 : decode cX6_linkRound 5 = .ok (.ifCond .ne 36, 3) := by decide +kernel
theorem dX6_linkRound_8 : decode cX6_linkRound 8 = .ok (.aload_n 0, 1) := by decide +kernel
theorem dX6_linkRound_9 : decode cX6_linkRound 9 = .ok (.iload_n 2, 1) := by decide +kernel
theorem dX6_linkRound_10 : decode cX6_linkRound 10 = .ok (.ifCond .lt 19, 3) := by decide +kernel
theorem dX6_linkRound_13 : decode cX6_linkRound 13 = .ok (.iload_n 2, 1) := by decide +kernel
theorem dX6_linkRound_14 : decode cX6_linkRound 14 = .ok (.aload_n 0, 1) := by decide +kernel
theorem dX6_linkRound_15 : decode cX6_linkRound 15 = .ok (.getfield 19, 3) := by decide +kernel
theorem dX6_linkRound_18 : decode cX6_linkRound 18 = .ok (.getfield 99, 3) := by decide +kernel
theorem dX6_linkRound_21 : decode cX6_linkRound 21 = .ok (.iload_n 1, 1) := by decide +kernel
theorem dX6_linkRound_22 : decode cX6_linkRound 22 = .ok (.invokestatic 207, 3) := by decide +kernel
theorem dX6_linkRound_25 : decode cX6_linkRound 25 = .ok (.isub, 1) := by decide +kernel
theorem dX6_linkRound_26 : decode cX6_linkRound 26 = .ok (.if_icmp .le 7, 3) := by decide +kernel
theorem dX6_linkRound_29 : decode cX6_linkRound 29 = .ok (.iconst 1, 1) := by decide +kernel
theorem dX6_linkRound_30 : decode cX6_linkRound 30 = .ok (.goto 4, 3) := by decide +kernel
theorem dX6_linkRound_33 : decode cX6_linkRound 33 = .ok (.iconst 0, 1) := by decide +kernel
theorem dX6_linkRound_34 : decode cX6_linkRound 34 = .ok (.iconst 2, 1) := by decide +kernel
theorem dX6_linkRound_35 : decode cX6_linkRound 35 = .ok (.invokevirtual 66, 3) := by decide +kernel
theorem dX6_linkRound_38 : decode cX6_linkRound 38 = .ok (.ifCond .eq 5, 3) := by decide +kernel
theorem dX6_linkRound_41 : decode cX6_linkRound 41 = .ok (.iconst (-1), 1) := by decide +kernel
theorem dX6_linkRound_42 : decode cX6_linkRound 42 = .ok (.ireturn, 1) := by decide +kernel
theorem dX6_linkRound_43 : decode cX6_linkRound 43 = .ok (.aload_n 0, 1) := by decide +kernel
theorem dX6_linkRound_44 : decode cX6_linkRound 44 = .ok (.getfield 33, 3) := by decide +kernel
theorem dX6_linkRound_47 : decode cX6_linkRound 47 = .ok (.aload_n 0, 1) := by decide +kernel
theorem dX6_linkRound_48 : decode cX6_linkRound 48 = .ok (.getfield 19, 3) := by decide +kernel
theorem dX6_linkRound_51 : decode cX6_linkRound 51 = .ok (.iload_n 1, 1) := by decide +kernel
theorem dX6_linkRound_52 : decode cX6_linkRound 52 = .ok (.invokevirtual 260, 3) := by decide +kernel
theorem dX6_linkRound_55 : decode cX6_linkRound 55 = .ok (.aload_n 0, 1) := by decide +kernel
theorem dX6_linkRound_56 : decode cX6_linkRound 56 = .ok (.getfield 33, 3) := by decide +kernel
theorem dX6_linkRound_59 : decode cX6_linkRound 59 = .ok (.iload_n 2, 1) := by decide +kernel
theorem dX6_linkRound_60 : decode cX6_linkRound 60 = .ok (.invokevirtual 156, 3) := by decide +kernel
theorem dX6_linkRound_63 : decode cX6_linkRound 63 = .ok (.ireturn, 1) := by decide +kernel
theorem dX6_linkShellings_0 : decode cX6_linkShellings 0 = .ok (.aload_n 0, 1) := by decide +kernel
theorem dX6_linkShellings_1 : decode cX6_linkShellings 1 = .ok (.iload_n 1, 1) := by decide +kernel
theorem dX6_linkShellings_2 : decode cX6_linkShellings 2 = .ok (.invokevirtual 257, 3) := by decide +kernel
theorem dX6_linkShellings_5 : decode cX6_linkShellings 5 = .ok (.ifCond .eq 7, 3) := by decide +kernel
theorem dX6_linkShellings_8 : decode cX6_linkShellings 8 = .ok (.iconst (-1), 1) := by decide +kernel
theorem dX6_linkShellings_9 : decode cX6_linkShellings 9 = .ok (.goto 20, 3) := by decide +kernel
theorem dX6_linkShellings_12 : decode cX6_linkShellings 12 = .ok (.aload_n 0, 1) := by decide +kernel
theorem dX6_linkShellings_13 : decode cX6_linkShellings 13 = .ok (.invokevirtual 234, 3) := by decide +kernel
theorem dX6_linkShellings_16 : decode cX6_linkShellings 16 = .ok (.getfield 264, 3) := by decide +kernel
theorem dX6_linkShellings_19 : decode cX6_linkShellings 19 = .ok (.aload_n 0, 1) := by decide +kernel
theorem dX6_linkShellings_20 : decode cX6_linkShellings 20 = .ok (.getfield 19, 3) := by decide +kernel
theorem dX6_linkShellings_23 : decode cX6_linkShellings 23 = .ok (.getfield 125, 3) := by decide +kernel
theorem dX6_linkShellings_26 : decode cX6_linkShellings 26 = .ok (.iload_n 1, 1) := by decide +kernel
theorem dX6_linkShellings_27 : decode cX6_linkShellings 27 = .ok (.iaload, 1) := by decide +kernel
theorem dX6_linkShellings_28 : decode cX6_linkShellings 28 = .ok (.iaload, 1) := by decide +kernel
theorem dX6_linkShellings_29 : decode cX6_linkShellings 29 = .ok (.ireturn, 1) := by decide +kernel
theorem dX6_even_0 : decode cX6_even 0 = .ok (.aload_n 0, 1) := by decide +kernel
theorem dX6_even_1 : decode cX6_even 1 = .ok (.invokevirtual 146, 3) := by decide +kernel
theorem dX6_even_4 : decode cX6_even 4 = .ok (.ifCond .eq 5, 3) := by decide +kernel
theorem dX6_even_7 : decode cX6_even 7 = .ok (.iconst (-1), 1) := by decide +kernel
theorem dX6_even_8 : decode cX6_even 8 = .ok (.ireturn, 1) := by decide +kernel
theorem dX6_even_9 : decode cX6_even 9 = .ok (.iconst 0, 1) := by decide +kernel
theorem dX6_even_10 : decode cX6_even 10 = .ok (.istore_n 1, 1) := by decide +kernel
theorem dX6_even_11 : decode cX6_even 11 = .ok (.iload_n 1, 1) := by decide +kernel
theorem dX6_even_12 : decode cX6_even 12 = .ok (.aload_n 0, 1) := by decide +kernel
theorem dX6_even_13 : decode cX6_even 13 = .ok (.getfield 19, 3) := by decide +kernel
theorem dX6_even_16 : decode cX6_even 16 = .ok (.invokevirtual 159, 3) := by decide +kernel
theorem dX6_even_19 : decode cX6_even 19 = .ok (.if_icmp .gt 37, 3) := by decide +kernel
theorem dX6_even_22 : decode cX6_even 22 = .ok (.aload_n 0, 1) := by decide +kernel
theorem dX6_even_23 : decode cX6_even 23 = .ok (.getfield 19, 3) := by decide +kernel
theorem dX6_even_26 : decode cX6_even 26 = .ok (.iload_n 1, 1) := by decide +kernel
theorem dX6_even_27 : decode cX6_even 27 = .ok (.invokevirtual 216, 3) := by decide +kernel
theorem dX6_even_30 : decode cX6_even 30 = .ok (.ifCond .eq 20, 3) := by decide +kernel
theorem dX6_even_33 : decode cX6_even 33 = .ok (.aload_n 0, 1) := by decide +kernel
theorem dX6_even_34 : decode cX6_even 34 = .ok (.getfield 33, 3) := by decide +kernel
theorem dX6_even_37 : decode cX6_even 37 = .ok (.aload_n 0, 1) := by decide +kernel
theorem dX6_even_38 : decode cX6_even 38 = .ok (.getfield 19, 3) := by decide +kernel
theorem dX6_even_41 : decode cX6_even 41 = .ok (.iload_n 1, 1) := by decide +kernel
theorem dX6_even_42 : decode cX6_even 42 = .ok (.invokevirtual 267, 3) := by decide +kernel
theorem dX6_even_45 : decode cX6_even 45 = .ok (.ifCond .ne 5, 3) := by decide +kernel
theorem dX6_even_48 : decode cX6_even 48 = .ok (.iconst 0, 1) := by decide +kernel
theorem dX6_even_49 : decode cX6_even 49 = .ok (.ireturn, 1) := by decide +kernel
theorem dX6_even_50 : decode cX6_even 50 = .ok (.iinc 1 1, 3) := by decide +kernel
theorem dX6_even_53 : decode cX6_even 53 = .ok (.goto (-42), 3) := by decide +kernel
theorem dX6_even_56 : decode cX6_even 56 = .ok (.iconst 1, 1) := by decide +kernel
theorem dX6_even_57 : decode cX6_even 57 = .ok (.ireturn, 1) := by decide +kernel
theorem dX6_obstruction_0 : decode cX6_obstruction 0 = .ok (.aload_n 0, 1) := by decide +kernel
theorem dX6_obstruction_1 : decode cX6_obstruction 1 = .ok (.invokevirtual 146, 3) := by decide +kernel
theorem dX6_obstruction_4 : decode cX6_obstruction 4 = .ok (.ifCond .eq 5, 3) := by decide +kernel
theorem dX6_obstruction_7 : decode cX6_obstruction 7 = .ok (.iconst (-1), 1) := by decide +kernel
theorem dX6_obstruction_8 : decode cX6_obstruction 8 = .ok (.ireturn, 1) := by decide +kernel
theorem dX6_obstruction_9 : decode cX6_obstruction 9 = .ok (.aload_n 0, 1) := by decide +kernel
theorem dX6_obstruction_10 : decode cX6_obstruction 10 = .ok (.invokevirtual 234, 3) := by decide +kernel
theorem dX6_obstruction_13 : decode cX6_obstruction 13 = .ok (.aload_n 0, 1) := by decide +kernel
theorem dX6_obstruction_14 : decode cX6_obstruction 14 = .ok (.getfield 19, 3) := by decide +kernel
theorem dX6_obstruction_17 : decode cX6_obstruction 17 = .ok (.invokevirtual 270, 3) := by decide +kernel
theorem dX6_obstruction_20 : decode cX6_obstruction 20 = .ok (.ireturn, 1) := by decide +kernel
theorem dX6_fallsApart_0 : decode cX6_fallsApart 0 = .ok (.aload_n 0, 1) := by decide +kernel
theorem dX6_fallsApart_1 : decode cX6_fallsApart 1 = .ok (.invokevirtual 146, 3) := by decide +kernel
theorem dX6_fallsApart_4 : decode cX6_fallsApart 4 = .ok (.ifCond .eq 5, 3) := by decide +kernel
theorem dX6_fallsApart_7 : decode cX6_fallsApart 7 = .ok (.iconst (-1), 1) := by decide +kernel
theorem dX6_fallsApart_8 : decode cX6_fallsApart 8 = .ok (.ireturn, 1) := by decide +kernel
theorem dX6_fallsApart_9 : decode cX6_fallsApart 9 = .ok (.aload_n 0, 1) := by decide +kernel
theorem dX6_fallsApart_10 : decode cX6_fallsApart 10 = .ok (.invokevirtual 273, 3) := by decide +kernel
theorem dX6_fallsApart_13 : decode cX6_fallsApart 13 = .ok (.aload_n 0, 1) := by decide +kernel
theorem dX6_fallsApart_14 : decode cX6_fallsApart 14 = .ok (.getfield 19, 3) := by decide +kernel
theorem dX6_fallsApart_17 : decode cX6_fallsApart 17 = .ok (.aload_n 0, 1) := by decide +kernel
theorem dX6_fallsApart_18 : decode cX6_fallsApart 18 = .ok (.getfield 19, 3) := by decide +kernel
theorem dX6_fallsApart_21 : decode cX6_fallsApart 21 = .ok (.invokevirtual 195, 3) := by decide +kernel
theorem dX6_fallsApart_24 : decode cX6_fallsApart 24 = .ok (.iconst 0, 1) := by decide +kernel
theorem dX6_fallsApart_25 : decode cX6_fallsApart 25 = .ok (.invokevirtual 277, 3) := by decide +kernel
theorem dX6_fallsApart_28 : decode cX6_fallsApart 28 = .ok (.ifCond .eq 7, 3) := by decide +kernel
theorem dX6_fallsApart_31 : decode cX6_fallsApart 31 = .ok (.iconst 1, 1) := by decide +kernel
theorem dX6_fallsApart_32 : decode cX6_fallsApart 32 = .ok (.goto 4, 3) := by decide +kernel
theorem dX6_fallsApart_35 : decode cX6_fallsApart 35 = .ok (.iconst 0, 1) := by decide +kernel
theorem dX6_fallsApart_36 : decode cX6_fallsApart 36 = .ok (.ireturn, 1) := by decide +kernel
theorem dX6_shed_0 : decode cX6_shed 0 = .ok (.aload_n 0, 1) := by decide +kernel
theorem dX6_shed_1 : decode cX6_shed 1 = .ok (.invokevirtual 146, 3) := by decide +kernel
theorem dX6_shed_4 : decode cX6_shed 4 = .ok (.ifCond .eq 5, 3) := by decide +kernel
theorem dX6_shed_7 : decode cX6_shed 7 = .ok (.iconst (-1), 1) := by decide +kernel
theorem dX6_shed_8 : decode cX6_shed 8 = .ok (.ireturn, 1) := by decide +kernel
theorem dX6_shed_9 : decode cX6_shed 9 = .ok (.iconst 0, 1) := by decide +kernel
theorem dX6_shed_10 : decode cX6_shed 10 = .ok (.istore_n 1, 1) := by decide +kernel
theorem dX6_shed_11 : decode cX6_shed 11 = .ok (.iconst 0, 1) := by decide +kernel
theorem dX6_shed_12 : decode cX6_shed 12 = .ok (.istore_n 2, 1) := by decide +kernel
theorem dX6_shed_13 : decode cX6_shed 13 = .ok (.iload_n 2, 1) := by decide +kernel
theorem dX6_shed_14 : decode cX6_shed 14 = .ok (.aload_n 0, 1) := by decide +kernel
theorem dX6_shed_15 : decode cX6_shed 15 = .ok (.getfield 19, 3) := by decide +kernel
theorem dX6_shed_18 : decode cX6_shed 18 = .ok (.getfield 96, 3) := by decide +kernel
theorem dX6_shed_21 : decode cX6_shed 21 = .ok (.if_icmp .ge 33, 3) := by decide +kernel
theorem dX6_shed_24 : decode cX6_shed 24 = .ok (.aload_n 0, 1) := by decide +kernel
theorem dX6_shed_25 : decode cX6_shed 25 = .ok (.getfield 19, 3) := by decide +kernel
theorem dX6_shed_28 : decode cX6_shed 28 = .ok (.aload_n 0, 1) := by decide +kernel
theorem dX6_shed_29 : decode cX6_shed 29 = .ok (.getfield 19, 3) := by decide +kernel
theorem dX6_shed_32 : decode cX6_shed 32 = .ok (.invokevirtual 195, 3) := by decide +kernel
theorem dX6_shed_35 : decode cX6_shed 35 = .ok (.iload_n 2, 1) := by decide +kernel
theorem dX6_shed_36 : decode cX6_shed 36 = .ok (.invokevirtual 281, 3) := by decide +kernel
theorem dX6_shed_39 : decode cX6_shed 39 = .ok (.ifCond .eq 9, 3) := by decide +kernel
theorem dX6_shed_42 : decode cX6_shed 42 = .ok (.iload_n 1, 1) := by decide +kernel
theorem dX6_shed_43 : decode cX6_shed 43 = .ok (.iconst 1, 1) := by decide +kernel
theorem dX6_shed_44 : decode cX6_shed 44 = .ok (.iload_n 2, 1) := by decide +kernel
theorem dX6_shed_45 : decode cX6_shed 45 = .ok (.ishl, 1) := by decide +kernel
theorem dX6_shed_46 : decode cX6_shed 46 = .ok (.ior, 1) := by decide +kernel
theorem dX6_shed_47 : decode cX6_shed 47 = .ok (.istore_n 1, 1) := by decide +kernel
theorem dX6_shed_48 : decode cX6_shed 48 = .ok (.iinc 2 1, 3) := by decide +kernel
theorem dX6_shed_51 : decode cX6_shed 51 = .ok (.goto (-38), 3) := by decide +kernel
theorem dX6_shed_54 : decode cX6_shed 54 = .ok (.iload_n 1, 1) := by decide +kernel
theorem dX6_shed_55 : decode cX6_shed 55 = .ok (.ireturn, 1) := by decide +kernel
theorem dX6_first_0 : decode cX6_first 0 = .ok (.aload_n 0, 1) := by decide +kernel
theorem dX6_first_1 : decode cX6_first 1 = .ok (.invokevirtual 146, 3) := by decide +kernel
theorem dX6_first_4 : decode cX6_first 4 = .ok (.ifCond .eq 5, 3) := by decide +kernel
theorem dX6_first_7 : decode cX6_first 7 = .ok (.iconst (-1), 1) := by decide +kernel
theorem dX6_first_8 : decode cX6_first 8 = .ok (.ireturn, 1) := by decide +kernel
theorem dX6_first_9 : decode cX6_first 9 = .ok (.aload_n 0, 1) := by decide +kernel
theorem dX6_first_10 : decode cX6_first 10 = .ok (.invokevirtual 273, 3) := by decide +kernel
theorem dX6_first_13 : decode cX6_first 13 = .ok (.aload_n 0, 1) := by decide +kernel
theorem dX6_first_14 : decode cX6_first 14 = .ok (.getfield 19, 3) := by decide +kernel
theorem dX6_first_17 : decode cX6_first 17 = .ok (.aload_n 0, 1) := by decide +kernel
theorem dX6_first_18 : decode cX6_first 18 = .ok (.getfield 19, 3) := by decide +kernel
theorem dX6_first_21 : decode cX6_first 21 = .ok (.invokevirtual 195, 3) := by decide +kernel
theorem dX6_first_24 : decode cX6_first 24 = .ok (.iconst 0, 1) := by decide +kernel
theorem dX6_first_25 : decode cX6_first 25 = .ok (.invokevirtual 284, 3) := by decide +kernel
theorem dX6_first_28 : decode cX6_first 28 = .ok (.ireturn, 1) := by decide +kernel
theorem dX6_add_0 : decode cX6_add 0 = .ok (.aload_n 0, 1) := by decide +kernel
theorem dX6_add_1 : decode cX6_add 1 = .ok (.invokevirtual 146, 3) := by decide +kernel
theorem dX6_add_4 : decode cX6_add 4 = .ok (.ifCond .ne 90, 3) := by decide +kernel
theorem dX6_add_7 : decode cX6_add 7 = .ok (.aload_n 0, 1) := by decide +kernel
theorem dX6_add_8 : decode cX6_add 8 = .ok (.aload_n 0, 1) := by decide +kernel
theorem dX6_add_9 : decode cX6_add 9 = .ok (.getfield 19, 3) := by decide +kernel
theorem dX6_add_12 : decode cX6_add 12 = .ok (.iload_n 1, 1) := by decide +kernel
theorem dX6_add_13 : decode cX6_add 13 = .ok (.invokevirtual 287, 3) := by decide +kernel
theorem dX6_add_16 : decode cX6_add 16 = .ok (.ifCond .eq 17, 3) := by decide +kernel
theorem dX6_add_19 : decode cX6_add 19 = .ok (.iload_n 1, 1) := by decide +kernel
theorem dX6_add_20 : decode cX6_add 20 = .ok (.invokestatic 207, 3) := by decide +kernel
theorem dX6_add_23 : decode cX6_add 23 = .ok (.aload_n 0, 1) := by decide +kernel
theorem dX6_add_24 : decode cX6_add 24 = .ok (.getfield 19, 3) := by decide +kernel
theorem dX6_add_27 : decode cX6_add 27 = .ok (.getfield 99, 3) := by decide +kernel
theorem dX6_add_30 : decode cX6_add 30 = .ok (.if_icmp .eq 7, 3) := by decide +kernel
theorem dX6_add_33 : decode cX6_add 33 = .ok (.iconst 1, 1) := by decide +kernel
theorem dX6_add_34 : decode cX6_add 34 = .ok (.goto 4, 3) := by decide +kernel
theorem dX6_add_37 : decode cX6_add 37 = .ok (.iconst 0, 1) := by decide +kernel
theorem dX6_add_38 : decode cX6_add 38 = .ok (.iconst 2, 1) := by decide +kernel
theorem dX6_add_39 : decode cX6_add 39 = .ok (.invokevirtual 66, 3) := by decide +kernel
theorem dX6_add_42 : decode cX6_add 42 = .ok (.ifCond .ne 52, 3) := by decide +kernel
theorem dX6_add_45 : decode cX6_add 45 = .ok (.aload_n 0, 1) := by decide +kernel
theorem dX6_add_46 : decode cX6_add 46 = .ok (.aload_n 0, 1) := by decide +kernel
theorem dX6_add_47 : decode cX6_add 47 = .ok (.getfield 19, 3) := by decide +kernel
theorem dX6_add_50 : decode cX6_add 50 = .ok (.iload_n 1, 1) := by decide +kernel
theorem dX6_add_51 : decode cX6_add 51 = .ok (.invokevirtual 290, 3) := by decide +kernel
theorem dX6_add_54 : decode cX6_add 54 = .ok (.ifCond .lt 7, 3) := by decide +kernel
theorem dX6_add_57 : decode cX6_add 57 = .ok (.iconst 1, 1) := by decide +kernel
theorem dX6_add_58 : decode cX6_add 58 = .ok (.goto 4, 3) := by decide +kernel
theorem dX6_add_61 : decode cX6_add 61 = .ok (.iconst 0, 1) := by decide +kernel
theorem dX6_add_62 : decode cX6_add 62 = .ok (.iconst 5, 1) := by decide +kernel
theorem dX6_add_63 : decode cX6_add 63 = .ok (.invokevirtual 66, 3) := by decide +kernel
theorem dX6_add_66 : decode cX6_add 66 = .ok (.ifCond .ne 28, 3) := by decide +kernel
theorem dX6_add_69 : decode cX6_add 69 = .ok (.aload_n 0, 1) := by decide +kernel
theorem dX6_add_70 : decode cX6_add 70 = .ok (.aload_n 0, 1) := by decide +kernel
theorem dX6_add_71 : decode cX6_add 71 = .ok (.getfield 19, 3) := by decide +kernel
theorem dX6_add_74 : decode cX6_add 74 = .ok (.getfield 84, 3) := by decide +kernel
theorem dX6_add_77 : decode cX6_add 77 = .ok (.bipush 12, 2) := by decide +kernel
theorem dX6_add_79 : decode cX6_add 79 = .ok (.if_icmp .lt 7, 3) := by decide +kernel
theorem dX6_add_82 : decode cX6_add 82 = .ok (.iconst 1, 1) := by decide +kernel
theorem dX6_add_83 : decode cX6_add 83 = .ok (.goto 4, 3) := by decide +kernel
theorem dX6_add_86 : decode cX6_add 86 = .ok (.iconst 0, 1) := by decide +kernel
theorem dX6_add_87 : decode cX6_add 87 = .ok (.iconst 3, 1) := by decide +kernel
theorem dX6_add_88 : decode cX6_add 88 = .ok (.invokevirtual 66, 3) := by decide +kernel
theorem dX6_add_91 : decode cX6_add 91 = .ok (.ifCond .eq 5, 3) := by decide +kernel
theorem dX6_add_94 : decode cX6_add 94 = .ok (.iconst (-1), 1) := by decide +kernel
theorem dX6_add_95 : decode cX6_add 95 = .ok (.ireturn, 1) := by decide +kernel
theorem dX6_add_96 : decode cX6_add 96 = .ok (.aload_n 0, 1) := by decide +kernel
theorem dX6_add_97 : decode cX6_add 97 = .ok (.getfield 26, 3) := by decide +kernel
theorem dX6_add_100 : decode cX6_add 100 = .ok (.aload_n 0, 1) := by decide +kernel
theorem dX6_add_101 : decode cX6_add 101 = .ok (.getfield 19, 3) := by decide +kernel
theorem dX6_add_104 : decode cX6_add 104 = .ok (.getfield 84, 3) := by decide +kernel
theorem dX6_add_107 : decode cX6_add 107 = .ok (.invokevirtual 293, 3) := by decide +kernel
theorem dX6_add_110 : decode cX6_add 110 = .ok (.aload_n 0, 1) := by decide +kernel
theorem dX6_add_111 : decode cX6_add 111 = .ok (.getfield 19, 3) := by decide +kernel
theorem dX6_add_114 : decode cX6_add 114 = .ok (.iload_n 1, 1) := by decide +kernel
theorem dX6_add_115 : decode cX6_add 115 = .ok (.invokevirtual 296, 3) := by decide +kernel
theorem dX6_add_118 : decode cX6_add 118 = .ok (.aload_n 0, 1) := by decide +kernel
theorem dX6_add_119 : decode cX6_add 119 = .ok (.invokevirtual 81, 3) := by decide +kernel
theorem dX6_add_122 : decode cX6_add 122 = .ok (.aload_n 0, 1) := by decide +kernel
theorem dX6_add_123 : decode cX6_add 123 = .ok (.getfield 19, 3) := by decide +kernel
theorem dX6_add_126 : decode cX6_add 126 = .ok (.getfield 84, 3) := by decide +kernel
theorem dX6_add_129 : decode cX6_add 129 = .ok (.ireturn, 1) := by decide +kernel
theorem dX6_drop_0 : decode cX6_drop 0 = .ok (.aload_n 0, 1) := by decide +kernel
theorem dX6_drop_1 : decode cX6_drop 1 = .ok (.aload_n 0, 1) := by decide +kernel
theorem dX6_drop_2 : decode cX6_drop 2 = .ok (.getfield 19, 3) := by decide +kernel
theorem dX6_drop_5 : decode cX6_drop 5 = .ok (.iload_n 1, 1) := by decide +kernel
theorem dX6_drop_6 : decode cX6_drop 6 = .ok (.invokevirtual 115, 3) := by decide +kernel
theorem dX6_drop_9 : decode cX6_drop 9 = .ok (.ifCond .ne 7, 3) := by decide +kernel
theorem dX6_drop_12 : decode cX6_drop 12 = .ok (.iconst 1, 1) := by decide +kernel
theorem dX6_drop_13 : decode cX6_drop 13 = .ok (.goto 4, 3) := by decide +kernel
theorem dX6_drop_16 : decode cX6_drop 16 = .ok (.iconst 0, 1) := by decide +kernel
theorem dX6_drop_17 : decode cX6_drop 17 = .ok (.iconst 1, 1) := by decide +kernel
theorem dX6_drop_18 : decode cX6_drop 18 = .ok (.invokevirtual 66, 3) := by decide +kernel
theorem dX6_drop_21 : decode cX6_drop 21 = .ok (.ifCond .ne 27, 3) := by decide +kernel
theorem dX6_drop_24 : decode cX6_drop 24 = .ok (.aload_n 0, 1) := by decide +kernel
theorem dX6_drop_25 : decode cX6_drop 25 = .ok (.aload_n 0, 1) := by decide +kernel
theorem dX6_drop_26 : decode cX6_drop 26 = .ok (.getfield 19, 3) := by decide +kernel
theorem dX6_drop_29 : decode cX6_drop 29 = .ok (.getfield 84, 3) := by decide +kernel
theorem dX6_drop_32 : decode cX6_drop 32 = .ok (.iconst 1, 1) := by decide +kernel
theorem dX6_drop_33 : decode cX6_drop 33 = .ok (.if_icmp .ne 7, 3) := by decide +kernel
theorem dX6_drop_36 : decode cX6_drop 36 = .ok (.iconst 1, 1) := by decide +kernel
theorem dX6_drop_37 : decode cX6_drop 37 = .ok (.goto 4, 3) := by decide +kernel
theorem dX6_drop_40 : decode cX6_drop 40 = .ok (.iconst 0, 1) := by decide +kernel
theorem dX6_drop_41 : decode cX6_drop 41 = .ok (.iconst 5, 1) := by decide +kernel
theorem dX6_drop_42 : decode cX6_drop 42 = .ok (.invokevirtual 66, 3) := by decide +kernel
theorem dX6_drop_45 : decode cX6_drop 45 = .ok (.ifCond .eq 5, 3) := by decide +kernel
theorem dX6_drop_48 : decode cX6_drop 48 = .ok (.iconst (-1), 1) := by decide +kernel
theorem dX6_drop_49 : decode cX6_drop 49 = .ok (.ireturn, 1) := by decide +kernel
theorem dX6_drop_50 : decode cX6_drop 50 = .ok (.aload_n 0, 1) := by decide +kernel
theorem dX6_drop_51 : decode cX6_drop 51 = .ok (.iload_n 1, 1) := by decide +kernel
theorem dX6_drop_52 : decode cX6_drop 52 = .ok (.invokevirtual 297, 3) := by decide +kernel
theorem dX6_drop_55 : decode cX6_drop 55 = .ok (.aload_n 0, 1) := by decide +kernel
theorem dX6_drop_56 : decode cX6_drop 56 = .ok (.getfield 19, 3) := by decide +kernel
theorem dX6_drop_59 : decode cX6_drop 59 = .ok (.getfield 84, 3) := by decide +kernel
theorem dX6_drop_62 : decode cX6_drop 62 = .ok (.ireturn, 1) := by decide +kernel
theorem dX6_peel_0 : decode cX6_peel 0 = .ok (.aload_n 0, 1) := by decide +kernel
theorem dX6_peel_1 : decode cX6_peel 1 = .ok (.invokevirtual 146, 3) := by decide +kernel
theorem dX6_peel_4 : decode cX6_peel 4 = .ok (.ifCond .ne 27, 3) := by decide +kernel
theorem dX6_peel_7 : decode cX6_peel 7 = .ok (.aload_n 0, 1) := by decide +kernel
theorem dX6_peel_8 : decode cX6_peel 8 = .ok (.aload_n 0, 1) := by decide +kernel
theorem dX6_peel_9 : decode cX6_peel 9 = .ok (.getfield 19, 3) := by decide +kernel
theorem dX6_peel_12 : decode cX6_peel 12 = .ok (.getfield 84, 3) := by decide +kernel
theorem dX6_peel_15 : decode cX6_peel 15 = .ok (.iconst 1, 1) := by decide +kernel
theorem dX6_peel_16 : decode cX6_peel 16 = .ok (.if_icmp .gt 7, 3) := by decide +kernel
theorem dX6_peel_19 : decode cX6_peel 19 = .ok (.iconst 1, 1) := by decide +kernel
theorem dX6_peel_20 : decode cX6_peel 20 = .ok (.goto 4, 3) := by decide +kernel
theorem dX6_peel_23 : decode cX6_peel 23 = .ok (.iconst 0, 1) := by decide +kernel
theorem dX6_peel_24 : decode cX6_peel 24 = .ok (.iconst 5, 1) := by decide +kernel
theorem dX6_peel_25 : decode cX6_peel 25 = .ok (.invokevirtual 66, 3) := by decide +kernel
theorem dX6_peel_28 : decode cX6_peel 28 = .ok (.ifCond .eq 5, 3) := by decide +kernel
theorem dX6_peel_31 : decode cX6_peel 31 = .ok (.iconst (-1), 1) := by decide +kernel
theorem dX6_peel_32 : decode cX6_peel 32 = .ok (.ireturn, 1) := by decide +kernel
theorem dX6_peel_33 : decode cX6_peel 33 = .ok (.aload_n 0, 1) := by decide +kernel
theorem dX6_peel_34 : decode cX6_peel 34 = .ok (.getfield 26, 3) := by decide +kernel
theorem dX6_peel_37 : decode cX6_peel 37 = .ok (.getfield 174, 3) := by decide +kernel
theorem dX6_peel_40 : decode cX6_peel 40 = .ok (.aload_n 0, 1) := by decide +kernel
theorem dX6_peel_41 : decode cX6_peel 41 = .ok (.getfield 19, 3) := by decide +kernel
theorem dX6_peel_44 : decode cX6_peel 44 = .ok (.getfield 84, 3) := by decide +kernel
theorem dX6_peel_47 : decode cX6_peel 47 = .ok (.iconst 1, 1) := by decide +kernel
theorem dX6_peel_48 : decode cX6_peel 48 = .ok (.isub, 1) := by decide +kernel
theorem dX6_peel_49 : decode cX6_peel 49 = .ok (.iaload, 1) := by decide +kernel
theorem dX6_peel_50 : decode cX6_peel 50 = .ok (.istore_n 1, 1) := by decide +kernel
theorem dX6_peel_51 : decode cX6_peel 51 = .ok (.aload_n 0, 1) := by decide +kernel
theorem dX6_peel_52 : decode cX6_peel 52 = .ok (.getfield 19, 3) := by decide +kernel
theorem dX6_peel_55 : decode cX6_peel 55 = .ok (.getfield 118, 3) := by decide +kernel
theorem dX6_peel_58 : decode cX6_peel 58 = .ok (.iload_n 1, 1) := by decide +kernel
theorem dX6_peel_59 : decode cX6_peel 59 = .ok (.iaload, 1) := by decide +kernel
theorem dX6_peel_60 : decode cX6_peel 60 = .ok (.istore_n 2, 1) := by decide +kernel
theorem dX6_peel_61 : decode cX6_peel 61 = .ok (.aload_n 0, 1) := by decide +kernel
theorem dX6_peel_62 : decode cX6_peel 62 = .ok (.iload_n 1, 1) := by decide +kernel
theorem dX6_peel_63 : decode cX6_peel 63 = .ok (.invokevirtual 297, 3) := by decide +kernel
theorem dX6_peel_66 : decode cX6_peel 66 = .ok (.iload_n 2, 1) := by decide +kernel
theorem dX6_peel_67 : decode cX6_peel 67 = .ok (.ireturn, 1) := by decide +kernel
theorem dX6_move_0 : decode cX6_move 0 = .ok (.aload_n 0, 1) := by decide +kernel
theorem dX6_move_1 : decode cX6_move 1 = .ok (.aload_n 0, 1) := by decide +kernel
theorem dX6_move_2 : decode cX6_move 2 = .ok (.getfield 26, 3) := by decide +kernel
theorem dX6_move_5 : decode cX6_move 5 = .ok (.aload_n 0, 1) := by decide +kernel
theorem dX6_move_6 : decode cX6_move 6 = .ok (.getfield 19, 3) := by decide +kernel
theorem dX6_move_9 : decode cX6_move 9 = .ok (.iload_n 1, 1) := by decide +kernel
theorem dX6_move_10 : decode cX6_move 10 = .ok (.invokevirtual 225, 3) := by decide +kernel
theorem dX6_move_13 : decode cX6_move 13 = .ok (.ifCond .eq 18, 3) := by decide +kernel
theorem dX6_move_16 : decode cX6_move 16 = .ok (.aload_n 0, 1) := by decide +kernel
theorem dX6_move_17 : decode cX6_move 17 = .ok (.getfield 26, 3) := by decide +kernel
theorem dX6_move_20 : decode cX6_move 20 = .ok (.aload_n 0, 1) := by decide +kernel
theorem dX6_move_21 : decode cX6_move 21 = .ok (.getfield 19, 3) := by decide +kernel
theorem dX6_move_24 : decode cX6_move 24 = .ok (.iload_n 2, 1) := by decide +kernel
theorem dX6_move_25 : decode cX6_move 25 = .ok (.invokevirtual 225, 3) := by decide +kernel
theorem dX6_move_28 : decode cX6_move 28 = .ok (.ifCond .ne 7, 3) := by decide +kernel
theorem dX6_move_31 : decode cX6_move 31 = .ok (.iconst 1, 1) := by decide +kernel
theorem dX6_move_32 : decode cX6_move 32 = .ok (.goto 4, 3) := by decide +kernel
theorem dX6_move_35 : decode cX6_move 35 = .ok (.iconst 0, 1) := by decide +kernel
theorem dX6_move_36 : decode cX6_move 36 = .ok (.iconst 1, 1) := by decide +kernel
theorem dX6_move_37 : decode cX6_move 37 = .ok (.invokevirtual 66, 3) := by decide +kernel
theorem dX6_move_40 : decode cX6_move 40 = .ok (.ifCond .eq 5, 3) := by decide +kernel
theorem dX6_move_43 : decode cX6_move 43 = .ok (.iconst (-1), 1) := by decide +kernel
theorem dX6_move_44 : decode cX6_move 44 = .ok (.ireturn, 1) := by decide +kernel
theorem dX6_move_45 : decode cX6_move 45 = .ok (.aload_n 0, 1) := by decide +kernel
theorem dX6_move_46 : decode cX6_move 46 = .ok (.getfield 26, 3) := by decide +kernel
theorem dX6_move_49 : decode cX6_move 49 = .ok (.iload_n 1, 1) := by decide +kernel
theorem dX6_move_50 : decode cX6_move 50 = .ok (.iload_n 2, 1) := by decide +kernel
theorem dX6_move_51 : decode cX6_move 51 = .ok (.invokevirtual 300, 3) := by decide +kernel
theorem dX6_move_54 : decode cX6_move 54 = .ok (.aload_n 0, 1) := by decide +kernel
theorem dX6_move_55 : decode cX6_move 55 = .ok (.getfield 26, 3) := by decide +kernel
theorem dX6_move_58 : decode cX6_move 58 = .ok (.aload_n 0, 1) := by decide +kernel
theorem dX6_move_59 : decode cX6_move 59 = .ok (.getfield 19, 3) := by decide +kernel
theorem dX6_move_62 : decode cX6_move 62 = .ok (.invokevirtual 185, 3) := by decide +kernel
theorem dX6_move_65 : decode cX6_move 65 = .ok (.ireturn, 1) := by decide +kernel
theorem dX6_lay_0 : decode cX6_lay 0 = .ok (.aload_n 0, 1) := by decide +kernel
theorem dX6_lay_1 : decode cX6_lay 1 = .ok (.invokevirtual 146, 3) := by decide +kernel
theorem dX6_lay_4 : decode cX6_lay 4 = .ok (.ifCond .ne 28, 3) := by decide +kernel
theorem dX6_lay_7 : decode cX6_lay 7 = .ok (.aload_n 0, 1) := by decide +kernel
theorem dX6_lay_8 : decode cX6_lay 8 = .ok (.aload_n 0, 1) := by decide +kernel
theorem dX6_lay_9 : decode cX6_lay 9 = .ok (.invokevirtual 234, 3) := by decide +kernel
theorem dX6_lay_12 : decode cX6_lay 12 = .ok (.getfield 238, 3) := by decide +kernel
theorem dX6_lay_15 : decode cX6_lay 15 = .ok (.iconst 0, 1) := by decide +kernel
theorem dX6_lay_16 : decode cX6_lay 16 = .ok (.iaload, 1) := by decide +kernel
theorem dX6_lay_17 : decode cX6_lay 17 = .ok (.ifCond .ne 7, 3) := by decide +kernel
theorem dX6_lay_20 : decode cX6_lay 20 = .ok (.iconst 1, 1) := by decide +kernel
theorem dX6_lay_21 : decode cX6_lay 21 = .ok (.goto 4, 3) := by decide +kernel
theorem dX6_lay_24 : decode cX6_lay 24 = .ok (.iconst 0, 1) := by decide +kernel
theorem dX6_lay_25 : decode cX6_lay 25 = .ok (.iconst 5, 1) := by decide +kernel
theorem dX6_lay_26 : decode cX6_lay 26 = .ok (.invokevirtual 66, 3) := by decide +kernel
theorem dX6_lay_29 : decode cX6_lay 29 = .ok (.ifCond .eq 5, 3) := by decide +kernel
theorem dX6_lay_32 : decode cX6_lay 32 = .ok (.iconst (-1), 1) := by decide +kernel
theorem dX6_lay_33 : decode cX6_lay 33 = .ok (.ireturn, 1) := by decide +kernel
theorem dX6_lay_34 : decode cX6_lay 34 = .ok (.iconst 0, 1) := by decide +kernel
theorem dX6_lay_35 : decode cX6_lay 35 = .ok (.istore_n 1, 1) := by decide +kernel
theorem dX6_lay_36 : decode cX6_lay 36 = .ok (.iload_n 1, 1) := by decide +kernel
theorem dX6_lay_37 : decode cX6_lay 37 = .ok (.aload_n 0, 1) := by decide +kernel
theorem dX6_lay_38 : decode cX6_lay 38 = .ok (.getfield 19, 3) := by decide +kernel
theorem dX6_lay_41 : decode cX6_lay 41 = .ok (.getfield 84, 3) := by decide +kernel
theorem dX6_lay_44 : decode cX6_lay 44 = .ok (.if_icmp .ge 30, 3) := by decide +kernel
theorem dX6_lay_47 : decode cX6_lay 47 = .ok (.aload_n 0, 1) := by decide +kernel
theorem dX6_lay_48 : decode cX6_lay 48 = .ok (.getfield 26, 3) := by decide +kernel
theorem dX6_lay_51 : decode cX6_lay 51 = .ok (.getfield 174, 3) := by decide +kernel
theorem dX6_lay_54 : decode cX6_lay 54 = .ok (.iload_n 1, 1) := by decide +kernel
theorem dX6_lay_55 : decode cX6_lay 55 = .ok (.aload_n 0, 1) := by decide +kernel
theorem dX6_lay_56 : decode cX6_lay 56 = .ok (.getfield 40, 3) := by decide +kernel
theorem dX6_lay_59 : decode cX6_lay 59 = .ok (.aload_n 0, 1) := by decide +kernel
theorem dX6_lay_60 : decode cX6_lay 60 = .ok (.getfield 19, 3) := by decide +kernel
theorem dX6_lay_63 : decode cX6_lay 63 = .ok (.iload_n 1, 1) := by decide +kernel
theorem dX6_lay_64 : decode cX6_lay 64 = .ok (.invokevirtual 241, 3) := by decide +kernel
theorem dX6_lay_67 : decode cX6_lay 67 = .ok (.iastore, 1) := by decide +kernel
theorem dX6_lay_68 : decode cX6_lay 68 = .ok (.iinc 1 1, 3) := by decide +kernel
theorem dX6_lay_71 : decode cX6_lay 71 = .ok (.goto (-35), 3) := by decide +kernel
theorem dX6_lay_74 : decode cX6_lay 74 = .ok (.aload_n 0, 1) := by decide +kernel
theorem dX6_lay_75 : decode cX6_lay 75 = .ok (.getfield 40, 3) := by decide +kernel
theorem dX6_lay_78 : decode cX6_lay 78 = .ok (.getfield 238, 3) := by decide +kernel
theorem dX6_lay_81 : decode cX6_lay 81 = .ok (.iconst 0, 1) := by decide +kernel
theorem dX6_lay_82 : decode cX6_lay 82 = .ok (.iaload, 1) := by decide +kernel
theorem dX6_lay_83 : decode cX6_lay 83 = .ok (.ireturn, 1) := by decide +kernel
theorem dX6_turn_0 : decode cX6_turn 0 = .ok (.aload_n 0, 1) := by decide +kernel
theorem dX6_turn_1 : decode cX6_turn 1 = .ok (.aload_n 0, 1) := by decide +kernel
theorem dX6_turn_2 : decode cX6_turn 2 = .ok (.getfield 19, 3) := by decide +kernel
theorem dX6_turn_5 : decode cX6_turn 5 = .ok (.iload_n 1, 1) := by decide +kernel
theorem dX6_turn_6 : decode cX6_turn 6 = .ok (.invokevirtual 304, 3) := by decide +kernel
theorem dX6_turn_9 : decode cX6_turn 9 = .ok (.ifCond .eq 19, 3) := by decide +kernel
theorem dX6_turn_12 : decode cX6_turn 12 = .ok (.aload_n 0, 1) := by decide +kernel
theorem dX6_turn_13 : decode cX6_turn 13 = .ok (.getfield 19, 3) := by decide +kernel
theorem dX6_turn_16 : decode cX6_turn 16 = .ok (.iload_n 2, 1) := by decide +kernel
theorem dX6_turn_17 : decode cX6_turn 17 = .ok (.invokevirtual 304, 3) := by decide +kernel
theorem dX6_turn_20 : decode cX6_turn 20 = .ok (.ifCond .eq 8, 3) := by decide +kernel
theorem dX6_turn_23 : decode cX6_turn 23 = .ok (.iload_n 1, 1) := by decide +kernel
theorem dX6_turn_24 : decode cX6_turn 24 = .ok (.iload_n 2, 1) := by decide +kernel
theorem dX6_turn_25 : decode cX6_turn 25 = .ok (.if_icmp .ne 7, 3) := by decide +kernel
theorem dX6_turn_28 : decode cX6_turn 28 = .ok (.iconst 1, 1) := by decide +kernel
theorem dX6_turn_29 : decode cX6_turn 29 = .ok (.goto 4, 3) := by decide +kernel
theorem dX6_turn_32 : decode cX6_turn 32 = .ok (.iconst 0, 1) := by decide +kernel
theorem dX6_turn_33 : decode cX6_turn 33 = .ok (.iconst 1, 1) := by decide +kernel
theorem dX6_turn_34 : decode cX6_turn 34 = .ok (.invokevirtual 66, 3) := by decide +kernel
theorem dX6_turn_37 : decode cX6_turn 37 = .ok (.ifCond .eq 5, 3) := by decide +kernel
theorem dX6_turn_40 : decode cX6_turn 40 = .ok (.iconst (-1), 1) := by decide +kernel
theorem dX6_turn_41 : decode cX6_turn 41 = .ok (.ireturn, 1) := by decide +kernel
theorem dX6_turn_42 : decode cX6_turn 42 = .ok (.aload_n 0, 1) := by decide +kernel
theorem dX6_turn_43 : decode cX6_turn 43 = .ok (.getfield 19, 3) := by decide +kernel
theorem dX6_turn_46 : decode cX6_turn 46 = .ok (.iload_n 1, 1) := by decide +kernel
theorem dX6_turn_47 : decode cX6_turn 47 = .ok (.iload_n 2, 1) := by decide +kernel
theorem dX6_turn_48 : decode cX6_turn 48 = .ok (.invokevirtual 307, 3) := by decide +kernel
theorem dX6_turn_51 : decode cX6_turn 51 = .ok (.istore_n 3, 1) := by decide +kernel
theorem dX6_turn_52 : decode cX6_turn 52 = .ok (.aload_n 0, 1) := by decide +kernel
theorem dX6_turn_53 : decode cX6_turn 53 = .ok (.invokevirtual 81, 3) := by decide +kernel
theorem dX6_turn_56 : decode cX6_turn 56 = .ok (.iload_n 3, 1) := by decide +kernel
theorem dX6_turn_57 : decode cX6_turn 57 = .ok (.ireturn, 1) := by decide +kernel
theorem dX6_breaks_0 : decode cX6_breaks 0 = .ok (.aload_n 0, 1) := by decide +kernel
theorem dX6_breaks_1 : decode cX6_breaks 1 = .ok (.getfield 26, 3) := by decide +kernel
theorem dX6_breaks_4 : decode cX6_breaks 4 = .ok (.aload_n 0, 1) := by decide +kernel
theorem dX6_breaks_5 : decode cX6_breaks 5 = .ok (.getfield 19, 3) := by decide +kernel
theorem dX6_breaks_8 : decode cX6_breaks 8 = .ok (.iload_n 1, 1) := by decide +kernel
theorem dX6_breaks_9 : decode cX6_breaks 9 = .ok (.invokevirtual 310, 3) := by decide +kernel
theorem dX6_breaks_12 : decode cX6_breaks 12 = .ok (.istore_n 2, 1) := by decide +kernel
theorem dX6_breaks_13 : decode cX6_breaks 13 = .ok (.iload_n 2, 1) := by decide +kernel
theorem dX6_breaks_14 : decode cX6_breaks 14 = .ok (.ifCond .ge 14, 3) := by decide +kernel
theorem dX6_breaks_17 : decode cX6_breaks 17 = .ok (.new 313, 3) := by decide +kernel
theorem dX6_breaks_20 : decode cX6_breaks 20 = .ok (.dup, 1) := by decide +kernel
theorem dX6_breaks_21 : decode cX6_breaks 21 = .ok (.ldc_w 315, 3) := by decide +kernel
theorem dX6_breaks_24 : decode cX6_breaks 24 = .ok (.invokespecial 317, 3) := by decide +kernel
theorem dX6_breaks_27 : decode cX6_breaks 27 = .ok (.athrow, 1) := by decide +kernel
theorem dX6_breaks_28 : decode cX6_breaks 28 = .ok (.iload_n 2, 1) := by decide +kernel
theorem dX6_breaks_29 : decode cX6_breaks 29 = .ok (.ireturn, 1) := by decide +kernel
theorem dX6_size_0 : decode cX6_size 0 = .ok (.aload_n 0, 1) := by decide +kernel
theorem dX6_size_1 : decode cX6_size 1 = .ok (.getfield 10, 3) := by decide +kernel
theorem dX6_size_4 : decode cX6_size 4 = .ok (.getfield 63, 3) := by decide +kernel
theorem dX6_size_7 : decode cX6_size 7 = .ok (.ireturn, 1) := by decide +kernel
theorem dX6_trouble_0 : decode cX6_trouble 0 = .ok (.aload_n 0, 1) := by decide +kernel
theorem dX6_trouble_1 : decode cX6_trouble 1 = .ok (.getfield 51, 3) := by decide +kernel
theorem dX6_trouble_4 : decode cX6_trouble 4 = .ok (.ireturn, 1) := by decide +kernel
theorem dX6_refused_0 : decode cX6_refused 0 = .ok (.aload_n 0, 1) := by decide +kernel
theorem dX6_refused_1 : decode cX6_refused 1 = .ok (.iload_n 1, 1) := by decide +kernel
theorem dX6_refused_2 : decode cX6_refused 2 = .ok (.ifCond .eq 7, 3) := by decide +kernel
theorem dX6_refused_5 : decode cX6_refused 5 = .ok (.iload_n 2, 1) := by decide +kernel
theorem dX6_refused_6 : decode cX6_refused 6 = .ok (.goto 4, 3) := by decide +kernel
theorem dX6_refused_9 : decode cX6_refused 9 = .ok (.iconst 0, 1) := by decide +kernel
theorem dX6_refused_10 : decode cX6_refused 10 = .ok (.putfield 51, 3) := by decide +kernel
theorem dX6_refused_13 : decode cX6_refused 13 = .ok (.iload_n 1, 1) := by decide +kernel
theorem dX6_refused_14 : decode cX6_refused 14 = .ok (.ireturn, 1) := by decide +kernel
theorem dX6_isEmpty_0 : decode cX6_isEmpty 0 = .ok (.aload_n 0, 1) := by decide +kernel
theorem dX6_isEmpty_1 : decode cX6_isEmpty 1 = .ok (.getfield 19, 3) := by decide +kernel
theorem dX6_isEmpty_4 : decode cX6_isEmpty 4 = .ok (.getfield 84, 3) := by decide +kernel
theorem dX6_isEmpty_7 : decode cX6_isEmpty 7 = .ok (.ifCond .ne 7, 3) := by decide +kernel
theorem dX6_isEmpty_10 : decode cX6_isEmpty 10 = .ok (.iconst 1, 1) := by decide +kernel
theorem dX6_isEmpty_11 : decode cX6_isEmpty 11 = .ok (.goto 4, 3) := by decide +kernel
theorem dX6_isEmpty_14 : decode cX6_isEmpty 14 = .ok (.iconst 0, 1) := by decide +kernel
theorem dX6_isEmpty_15 : decode cX6_isEmpty 15 = .ok (.ireturn, 1) := by decide +kernel
theorem dX6_refusesEmpty_0 : decode cX6_refusesEmpty 0 = .ok (.aload_n 0, 1) := by decide +kernel
theorem dX6_refusesEmpty_1 : decode cX6_refusesEmpty 1 = .ok (.aload_n 0, 1) := by decide +kernel
theorem dX6_refusesEmpty_2 : decode cX6_refusesEmpty 2 = .ok (.invokevirtual 93, 3) := by decide +kernel
theorem dX6_refusesEmpty_5 : decode cX6_refusesEmpty 5 = .ok (.iconst 1, 1) := by decide +kernel
theorem dX6_refusesEmpty_6 : decode cX6_refusesEmpty 6 = .ok (.invokevirtual 66, 3) := by decide +kernel
theorem dX6_refusesEmpty_9 : decode cX6_refusesEmpty 9 = .ok (.ireturn, 1) := by decide +kernel
theorem dX6_refusesUpTo_0 : decode cX6_refusesUpTo 0 = .ok (.aload_n 0, 1) := by decide +kernel
theorem dX6_refusesUpTo_1 : decode cX6_refusesUpTo 1 = .ok (.invokevirtual 146, 3) := by decide +kernel
theorem dX6_refusesUpTo_4 : decode cX6_refusesUpTo 4 = .ok (.ifCond .ne 25, 3) := by decide +kernel
theorem dX6_refusesUpTo_7 : decode cX6_refusesUpTo 7 = .ok (.aload_n 0, 1) := by decide +kernel
theorem dX6_refusesUpTo_8 : decode cX6_refusesUpTo 8 = .ok (.iload_n 1, 1) := by decide +kernel
theorem dX6_refusesUpTo_9 : decode cX6_refusesUpTo 9 = .ok (.ifCond .lt 8, 3) := by decide +kernel
theorem dX6_refusesUpTo_12 : decode cX6_refusesUpTo 12 = .ok (.iload_n 1, 1) := by decide +kernel
theorem dX6_refusesUpTo_13 : decode cX6_refusesUpTo 13 = .ok (.iload_n 2, 1) := by decide +kernel
theorem dX6_refusesUpTo_14 : decode cX6_refusesUpTo 14 = .ok (.if_icmp .le 7, 3) := by decide +kernel
theorem dX6_refusesUpTo_17 : decode cX6_refusesUpTo 17 = .ok (.iconst 1, 1) := by decide +kernel
theorem dX6_refusesUpTo_18 : decode cX6_refusesUpTo 18 = .ok (.goto 4, 3) := by decide +kernel
theorem dX6_refusesUpTo_21 : decode cX6_refusesUpTo 21 = .ok (.iconst 0, 1) := by decide +kernel
theorem dX6_refusesUpTo_22 : decode cX6_refusesUpTo 22 = .ok (.iconst 2, 1) := by decide +kernel
theorem dX6_refusesUpTo_23 : decode cX6_refusesUpTo 23 = .ok (.invokevirtual 66, 3) := by decide +kernel
theorem dX6_refusesUpTo_26 : decode cX6_refusesUpTo 26 = .ok (.ifCond .eq 7, 3) := by decide +kernel
theorem dX6_refusesUpTo_29 : decode cX6_refusesUpTo 29 = .ok (.iconst 1, 1) := by decide +kernel
theorem dX6_refusesUpTo_30 : decode cX6_refusesUpTo 30 = .ok (.goto 4, 3) := by decide +kernel
theorem dX6_refusesUpTo_33 : decode cX6_refusesUpTo 33 = .ok (.iconst 0, 1) := by decide +kernel
theorem dX6_refusesUpTo_34 : decode cX6_refusesUpTo 34 = .ok (.ireturn, 1) := by decide +kernel
theorem dX6_refusesSet_0 : decode cX6_refusesSet 0 = .ok (.aload_n 0, 1) := by decide +kernel
theorem dX6_refusesSet_1 : decode cX6_refusesSet 1 = .ok (.invokevirtual 146, 3) := by decide +kernel
theorem dX6_refusesSet_4 : decode cX6_refusesSet 4 = .ok (.ifCond .ne 27, 3) := by decide +kernel
theorem dX6_refusesSet_7 : decode cX6_refusesSet 7 = .ok (.aload_n 0, 1) := by decide +kernel
theorem dX6_refusesSet_8 : decode cX6_refusesSet 8 = .ok (.aload_n 0, 1) := by decide +kernel
theorem dX6_refusesSet_9 : decode cX6_refusesSet 9 = .ok (.getfield 19, 3) := by decide +kernel
theorem dX6_refusesSet_12 : decode cX6_refusesSet 12 = .ok (.iload_n 1, 1) := by decide +kernel
theorem dX6_refusesSet_13 : decode cX6_refusesSet 13 = .ok (.invokevirtual 287, 3) := by decide +kernel
theorem dX6_refusesSet_16 : decode cX6_refusesSet 16 = .ok (.ifCond .ne 7, 3) := by decide +kernel
theorem dX6_refusesSet_19 : decode cX6_refusesSet 19 = .ok (.iconst 1, 1) := by decide +kernel
theorem dX6_refusesSet_20 : decode cX6_refusesSet 20 = .ok (.goto 4, 3) := by decide +kernel
theorem dX6_refusesSet_23 : decode cX6_refusesSet 23 = .ok (.iconst 0, 1) := by decide +kernel
theorem dX6_refusesSet_24 : decode cX6_refusesSet 24 = .ok (.iconst 2, 1) := by decide +kernel
theorem dX6_refusesSet_25 : decode cX6_refusesSet 25 = .ok (.invokevirtual 66, 3) := by decide +kernel
theorem dX6_refusesSet_28 : decode cX6_refusesSet 28 = .ok (.ifCond .eq 7, 3) := by decide +kernel
theorem dX6_refusesSet_31 : decode cX6_refusesSet 31 = .ok (.iconst 1, 1) := by decide +kernel
theorem dX6_refusesSet_32 : decode cX6_refusesSet 32 = .ok (.goto 4, 3) := by decide +kernel
theorem dX6_refusesSet_35 : decode cX6_refusesSet 35 = .ok (.iconst 0, 1) := by decide +kernel
theorem dX6_refusesSet_36 : decode cX6_refusesSet 36 = .ok (.ireturn, 1) := by decide +kernel
theorem dX6_refusesFace_0 : decode cX6_refusesFace 0 = .ok (.aload_n 0, 1) := by decide +kernel
theorem dX6_refusesFace_1 : decode cX6_refusesFace 1 = .ok (.iload_n 1, 1) := by decide +kernel
theorem dX6_refusesFace_2 : decode cX6_refusesFace 2 = .ok (.invokevirtual 122, 3) := by decide +kernel
theorem dX6_refusesFace_5 : decode cX6_refusesFace 5 = .ok (.ifCond .ne 27, 3) := by decide +kernel
theorem dX6_refusesFace_8 : decode cX6_refusesFace 8 = .ok (.aload_n 0, 1) := by decide +kernel
theorem dX6_refusesFace_9 : decode cX6_refusesFace 9 = .ok (.aload_n 0, 1) := by decide +kernel
theorem dX6_refusesFace_10 : decode cX6_refusesFace 10 = .ok (.getfield 19, 3) := by decide +kernel
theorem dX6_refusesFace_13 : decode cX6_refusesFace 13 = .ok (.iload_n 1, 1) := by decide +kernel
theorem dX6_refusesFace_14 : decode cX6_refusesFace 14 = .ok (.invokevirtual 216, 3) := by decide +kernel
theorem dX6_refusesFace_17 : decode cX6_refusesFace 17 = .ok (.ifCond .ne 7, 3) := by decide +kernel
theorem dX6_refusesFace_20 : decode cX6_refusesFace 20 = .ok (.iconst 1, 1) := by decide +kernel
theorem dX6_refusesFace_21 : decode cX6_refusesFace 21 = .ok (.goto 4, 3) := by decide +kernel
theorem dX6_refusesFace_24 : decode cX6_refusesFace 24 = .ok (.iconst 0, 1) := by decide +kernel
theorem dX6_refusesFace_25 : decode cX6_refusesFace 25 = .ok (.iconst 5, 1) := by decide +kernel
theorem dX6_refusesFace_26 : decode cX6_refusesFace 26 = .ok (.invokevirtual 66, 3) := by decide +kernel
theorem dX6_refusesFace_29 : decode cX6_refusesFace 29 = .ok (.ifCond .eq 7, 3) := by decide +kernel
theorem dX6_refusesFace_32 : decode cX6_refusesFace 32 = .ok (.iconst 1, 1) := by decide +kernel
theorem dX6_refusesFace_33 : decode cX6_refusesFace 33 = .ok (.goto 4, 3) := by decide +kernel
theorem dX6_refusesFace_36 : decode cX6_refusesFace 36 = .ok (.iconst 0, 1) := by decide +kernel
theorem dX6_refusesFace_37 : decode cX6_refusesFace 37 = .ok (.ireturn, 1) := by decide +kernel
theorem dX6_refusesPlace_0 : decode cX6_refusesPlace 0 = .ok (.aload_n 0, 1) := by decide +kernel
theorem dX6_refusesPlace_1 : decode cX6_refusesPlace 1 = .ok (.aload_n 0, 1) := by decide +kernel
theorem dX6_refusesPlace_2 : decode cX6_refusesPlace 2 = .ok (.getfield 26, 3) := by decide +kernel
theorem dX6_refusesPlace_5 : decode cX6_refusesPlace 5 = .ok (.aload_n 0, 1) := by decide +kernel
theorem dX6_refusesPlace_6 : decode cX6_refusesPlace 6 = .ok (.getfield 19, 3) := by decide +kernel
theorem dX6_refusesPlace_9 : decode cX6_refusesPlace 9 = .ok (.iload_n 1, 1) := by decide +kernel
theorem dX6_refusesPlace_10 : decode cX6_refusesPlace 10 = .ok (.invokevirtual 225, 3) := by decide +kernel
theorem dX6_refusesPlace_13 : decode cX6_refusesPlace 13 = .ok (.ifCond .ne 7, 3) := by decide +kernel
theorem dX6_refusesPlace_16 : decode cX6_refusesPlace 16 = .ok (.iconst 1, 1) := by decide +kernel
theorem dX6_refusesPlace_17 : decode cX6_refusesPlace 17 = .ok (.goto 4, 3) := by decide +kernel
theorem dX6_refusesPlace_20 : decode cX6_refusesPlace 20 = .ok (.iconst 0, 1) := by decide +kernel
theorem dX6_refusesPlace_21 : decode cX6_refusesPlace 21 = .ok (.iconst 1, 1) := by decide +kernel
theorem dX6_refusesPlace_22 : decode cX6_refusesPlace 22 = .ok (.invokevirtual 66, 3) := by decide +kernel
theorem dX6_refusesPlace_25 : decode cX6_refusesPlace 25 = .ok (.ireturn, 1) := by decide +kernel
theorem dX6_renew_0 : decode cX6_renew 0 = .ok (.aload_n 0, 1) := by decide +kernel
theorem dX6_renew_1 : decode cX6_renew 1 = .ok (.getfield 19, 3) := by decide +kernel
theorem dX6_renew_4 : decode cX6_renew 4 = .ok (.invokevirtual 320, 3) := by decide +kernel
theorem dX6_renew_7 : decode cX6_renew 7 = .ok (.aload_n 0, 1) := by decide +kernel
theorem dX6_renew_8 : decode cX6_renew 8 = .ok (.getfield 40, 3) := by decide +kernel
theorem dX6_renew_11 : decode cX6_renew 11 = .ok (.iconst 0, 1) := by decide +kernel
theorem dX6_renew_12 : decode cX6_renew 12 = .ok (.putfield 323, 3) := by decide +kernel
theorem dX6_renew_15 : decode cX6_renew 15 = .ok (.aload_n 0, 1) := by decide +kernel
theorem dX6_renew_16 : decode cX6_renew 16 = .ok (.getfield 47, 3) := by decide +kernel
theorem dX6_renew_19 : decode cX6_renew 19 = .ok (.iconst 0, 1) := by decide +kernel
theorem dX6_renew_20 : decode cX6_renew 20 = .ok (.putfield 327, 3) := by decide +kernel
theorem dX6_renew_23 : decode cX6_renew 23 = .ok (.return_, 1) := by decide +kernel
theorem dX6_takeAway_0 : decode cX6_takeAway 0 = .ok (.aload_n 0, 1) := by decide +kernel
theorem dX6_takeAway_1 : decode cX6_takeAway 1 = .ok (.getfield 26, 3) := by decide +kernel
theorem dX6_takeAway_4 : decode cX6_takeAway 4 = .ok (.aload_n 0, 1) := by decide +kernel
theorem dX6_takeAway_5 : decode cX6_takeAway 5 = .ok (.getfield 19, 3) := by decide +kernel
theorem dX6_takeAway_8 : decode cX6_takeAway 8 = .ok (.getfield 84, 3) := by decide +kernel
theorem dX6_takeAway_11 : decode cX6_takeAway 11 = .ok (.iload_n 1, 1) := by decide +kernel
theorem dX6_takeAway_12 : decode cX6_takeAway 12 = .ok (.invokevirtual 328, 3) := by decide +kernel
theorem dX6_takeAway_15 : decode cX6_takeAway 15 = .ok (.aload_n 0, 1) := by decide +kernel
theorem dX6_takeAway_16 : decode cX6_takeAway 16 = .ok (.getfield 19, 3) := by decide +kernel
theorem dX6_takeAway_19 : decode cX6_takeAway 19 = .ok (.iload_n 1, 1) := by decide +kernel
theorem dX6_takeAway_20 : decode cX6_takeAway 20 = .ok (.invokevirtual 331, 3) := by decide +kernel
theorem dX6_takeAway_23 : decode cX6_takeAway 23 = .ok (.aload_n 0, 1) := by decide +kernel
theorem dX6_takeAway_24 : decode cX6_takeAway 24 = .ok (.invokevirtual 81, 3) := by decide +kernel
theorem dX6_takeAway_27 : decode cX6_takeAway 27 = .ok (.return_, 1) := by decide +kernel
theorem dX6_allOrders_0 : decode cX6_allOrders 0 = .ok (.aload_n 0, 1) := by decide +kernel
theorem dX6_allOrders_1 : decode cX6_allOrders 1 = .ok (.getfield 40, 3) := by decide +kernel
theorem dX6_allOrders_4 : decode cX6_allOrders 4 = .ok (.aload_n 0, 1) := by decide +kernel
theorem dX6_allOrders_5 : decode cX6_allOrders 5 = .ok (.getfield 19, 3) := by decide +kernel
theorem dX6_allOrders_8 : decode cX6_allOrders 8 = .ok (.invokevirtual 333, 3) := by decide +kernel
theorem dX6_allOrders_11 : decode cX6_allOrders 11 = .ok (.aload_n 0, 1) := by decide +kernel
theorem dX6_allOrders_12 : decode cX6_allOrders 12 = .ok (.getfield 40, 3) := by decide +kernel
theorem dX6_allOrders_15 : decode cX6_allOrders 15 = .ok (.areturn, 1) := by decide +kernel
theorem dX6_allSheddings_0 : decode cX6_allSheddings 0 = .ok (.aload_n 0, 1) := by decide +kernel
theorem dX6_allSheddings_1 : decode cX6_allSheddings 1 = .ok (.getfield 47, 3) := by decide +kernel
theorem dX6_allSheddings_4 : decode cX6_allSheddings 4 = .ok (.invokevirtual 336, 3) := by decide +kernel
theorem dX6_allSheddings_7 : decode cX6_allSheddings 7 = .ok (.aload_n 0, 1) := by decide +kernel
theorem dX6_allSheddings_8 : decode cX6_allSheddings 8 = .ok (.getfield 47, 3) := by decide +kernel
theorem dX6_allSheddings_11 : decode cX6_allSheddings 11 = .ok (.areturn, 1) := by decide +kernel
end
section
theorem dX0_init_0 : decode cX0_init 0 = .ok (.aload_n 0, 1) := by decide +kernel
theorem dX0_init_1 : decode cX0_init 1 = .ok (.invokespecial 3, 3) := by decide +kernel
theorem dX0_init_4 : decode cX0_init 4 = .ok (.aload_n 0, 1) := by decide +kernel
theorem dX0_init_5 : decode cX0_init 5 = .ok (.bipush 12, 2) := by decide +kernel
theorem dX0_init_7 : decode cX0_init 7 = .ok (.newarray .int, 2) := by decide +kernel
theorem dX0_init_9 : decode cX0_init 9 = .ok (.putfield 9, 3) := by decide +kernel
theorem dX0_init_12 : decode cX0_init 12 = .ok (.aload_n 0, 1) := by decide +kernel
theorem dX0_init_13 : decode cX0_init 13 = .ok (.bipush 7, 2) := by decide +kernel
theorem dX0_init_15 : decode cX0_init 15 = .ok (.newarray .int, 2) := by decide +kernel
theorem dX0_init_17 : decode cX0_init 17 = .ok (.putfield 15, 3) := by decide +kernel
theorem dX0_init_20 : decode cX0_init 20 = .ok (.aload_n 0, 1) := by decide +kernel
theorem dX0_init_21 : decode cX0_init 21 = .ok (.sipush 128, 3) := by decide +kernel
theorem dX0_init_24 : decode cX0_init 24 = .ok (.newarray .int, 2) := by decide +kernel
theorem dX0_init_26 : decode cX0_init 26 = .ok (.putfield 18, 3) := by decide +kernel
theorem dX0_init_29 : decode cX0_init 29 = .ok (.aload_n 0, 1) := by decide +kernel
theorem dX0_init_30 : decode cX0_init 30 = .ok (.bipush 84, 2) := by decide +kernel
theorem dX0_init_32 : decode cX0_init 32 = .ok (.newarray .int, 2) := by decide +kernel
theorem dX0_init_34 : decode cX0_init 34 = .ok (.putfield 21, 3) := by decide +kernel
theorem dX0_init_37 : decode cX0_init 37 = .ok (.return_, 1) := by decide +kernel
theorem dX0_choose_0 : decode cX0_choose 0 = .ok (.iload_n 0, 1) := by decide +kernel
theorem dX0_choose_1 : decode cX0_choose 1 = .ok (.ifCond .lt 17, 3) := by decide +kernel
theorem dX0_choose_4 : decode cX0_choose 4 = .ok (.iload_n 0, 1) := by decide +kernel
theorem dX0_choose_5 : decode cX0_choose 5 = .ok (.iconst 5, 1) := by decide +kernel
theorem dX0_choose_6 : decode cX0_choose 6 = .ok (.if_icmp .gt 12, 3) := by decide +kernel
theorem dX0_choose_9 : decode cX0_choose 9 = .ok (.iload_n 1, 1) := by decide +kernel
theorem dX0_choose_10 : decode cX0_choose 10 = .ok (.ifCond .lt 8, 3) := by decide +kernel
theorem dX0_choose_13 : decode cX0_choose 13 = .ok (.iload_n 1, 1) := by decide +kernel
theorem dX0_choose_14 : decode cX0_choose 14 = .ok (.iload_n 0, 1) := by decide +kernel
theorem dX0_choose_15 : decode cX0_choose 15 = .ok (.if_icmp .le 5, 3) := by decide +kernel
theorem dX0_choose_18 : decode cX0_choose 18 = .ok (.iconst 0, 1) := by decide +kernel
theorem dX0_choose_19 : decode cX0_choose 19 = .ok (.ireturn, 1) := by decide +kernel
theorem dX0_choose_20 : decode cX0_choose 20 = .ok (.getstatic 24, 3) := by decide +kernel
theorem dX0_choose_23 : decode cX0_choose 23 = .ok (.iload_n 0, 1) := by decide +kernel
theorem dX0_choose_24 : decode cX0_choose 24 = .ok (.bipush 6, 2) := by decide +kernel
theorem dX0_choose_26 : decode cX0_choose 26 = .ok (.imul, 1) := by decide +kernel
theorem dX0_choose_27 : decode cX0_choose 27 = .ok (.iload_n 1, 1) := by decide +kernel
theorem dX0_choose_28 : decode cX0_choose 28 = .ok (.iadd, 1) := by decide +kernel
theorem dX0_choose_29 : decode cX0_choose 29 = .ok (.iaload, 1) := by decide +kernel
theorem dX0_choose_30 : decode cX0_choose 30 = .ok (.ireturn, 1) := by decide +kernel
theorem dX0_take_0 : decode cX0_take 0 = .ok (.aload_n 0, 1) := by decide +kernel
theorem dX0_take_1 : decode cX0_take 1 = .ok (.aload_n 1, 1) := by decide +kernel
theorem dX0_take_2 : decode cX0_take 2 = .ok (.getfield 27, 3) := by decide +kernel
theorem dX0_take_5 : decode cX0_take 5 = .ok (.putfield 33, 3) := by decide +kernel
theorem dX0_take_8 : decode cX0_take 8 = .ok (.aload_n 0, 1) := by decide +kernel
theorem dX0_take_9 : decode cX0_take 9 = .ok (.aload_n 1, 1) := by decide +kernel
theorem dX0_take_10 : decode cX0_take 10 = .ok (.getfield 34, 3) := by decide +kernel
theorem dX0_take_13 : decode cX0_take 13 = .ok (.putfield 37, 3) := by decide +kernel
theorem dX0_take_16 : decode cX0_take 16 = .ok (.aload_n 0, 1) := by decide +kernel
theorem dX0_take_17 : decode cX0_take 17 = .ok (.aload_n 1, 1) := by decide +kernel
theorem dX0_take_18 : decode cX0_take 18 = .ok (.getfield 38, 3) := by decide +kernel
theorem dX0_take_21 : decode cX0_take 21 = .ok (.putfield 41, 3) := by decide +kernel
theorem dX0_take_24 : decode cX0_take 24 = .ok (.iconst 0, 1) := by decide +kernel
theorem dX0_take_25 : decode cX0_take 25 = .ok (.istore_n 2, 1) := by decide +kernel
theorem dX0_take_26 : decode cX0_take 26 = .ok (.iload_n 2, 1) := by decide +kernel
theorem dX0_take_27 : decode cX0_take 27 = .ok (.aload_n 0, 1) := by decide +kernel
theorem dX0_take_28 : decode cX0_take 28 = .ok (.getfield 41, 3) := by decide +kernel
theorem dX0_take_31 : decode cX0_take 31 = .ok (.if_icmp .ge 21, 3) := by decide +kernel
theorem dX0_take_34 : decode cX0_take 34 = .ok (.aload_n 0, 1) := by decide +kernel
theorem dX0_take_35 : decode cX0_take 35 = .ok (.getfield 9, 3) := by decide +kernel
theorem dX0_take_38 : decode cX0_take 38 = .ok (.iload_n 2, 1) := by decide +kernel
theorem dX0_take_39 : decode cX0_take 39 = .ok (.aload_n 1, 1) := by decide +kernel
theorem dX0_take_40 : decode cX0_take 40 = .ok (.getfield 42, 3) := by decide +kernel
theorem dX0_take_43 : decode cX0_take 43 = .ok (.iload_n 2, 1) := by decide +kernel
theorem dX0_take_44 : decode cX0_take 44 = .ok (.iaload, 1) := by decide +kernel
theorem dX0_take_45 : decode cX0_take 45 = .ok (.iastore, 1) := by decide +kernel
theorem dX0_take_46 : decode cX0_take 46 = .ok (.iinc 2 1, 3) := by decide +kernel
theorem dX0_take_49 : decode cX0_take 49 = .ok (.goto (-23), 3) := by decide +kernel
theorem dX0_take_52 : decode cX0_take 52 = .ok (.return_, 1) := by decide +kernel
theorem dX0_append_0 : decode cX0_append 0 = .ok (.aload_n 0, 1) := by decide +kernel
theorem dX0_append_1 : decode cX0_append 1 = .ok (.getfield 41, 3) := by decide +kernel
theorem dX0_append_4 : decode cX0_append 4 = .ok (.bipush 12, 2) := by decide +kernel
theorem dX0_append_6 : decode cX0_append 6 = .ok (.if_icmp .ge 23, 3) := by decide +kernel
theorem dX0_append_9 : decode cX0_append 9 = .ok (.aload_n 0, 1) := by decide +kernel
theorem dX0_append_10 : decode cX0_append 10 = .ok (.getfield 9, 3) := by decide +kernel
theorem dX0_append_13 : decode cX0_append 13 = .ok (.aload_n 0, 1) := by decide +kernel
theorem dX0_append_14 : decode cX0_append 14 = .ok (.getfield 41, 3) := by decide +kernel
theorem dX0_append_17 : decode cX0_append 17 = .ok (.iload_n 1, 1) := by decide +kernel
theorem dX0_append_18 : decode cX0_append 18 = .ok (.iastore, 1) := by decide +kernel
theorem dX0_append_19 : decode cX0_append 19 = .ok (.aload_n 0, 1) := by decide +kernel
theorem dX0_append_20 : decode cX0_append 20 = .ok (.dup, 1) := by decide +kernel
theorem dX0_append_21 : decode cX0_append 21 = .ok (.getfield 41, 3) := by decide +kernel
theorem dX0_append_24 : decode cX0_append 24 = .ok (.iconst 1, 1) := by decide +kernel
theorem dX0_append_25 : decode cX0_append 25 = .ok (.iadd, 1) := by decide +kernel
theorem dX0_append_26 : decode cX0_append 26 = .ok (.putfield 41, 3) := by decide +kernel
theorem dX0_append_29 : decode cX0_append 29 = .ok (.return_, 1) := by decide +kernel
theorem dX0_remove_0 : decode cX0_remove 0 = .ok (.iload_n 1, 1) := by decide +kernel
theorem dX0_remove_1 : decode cX0_remove 1 = .ok (.istore_n 2, 1) := by decide +kernel
theorem dX0_remove_2 : decode cX0_remove 2 = .ok (.iload_n 2, 1) := by decide +kernel
theorem dX0_remove_3 : decode cX0_remove 3 = .ok (.iconst 1, 1) := by decide +kernel
theorem dX0_remove_4 : decode cX0_remove 4 = .ok (.iadd, 1) := by decide +kernel
theorem dX0_remove_5 : decode cX0_remove 5 = .ok (.aload_n 0, 1) := by decide +kernel
theorem dX0_remove_6 : decode cX0_remove 6 = .ok (.getfield 41, 3) := by decide +kernel
theorem dX0_remove_9 : decode cX0_remove 9 = .ok (.if_icmp .ge 23, 3) := by decide +kernel
theorem dX0_remove_12 : decode cX0_remove 12 = .ok (.aload_n 0, 1) := by decide +kernel
theorem dX0_remove_13 : decode cX0_remove 13 = .ok (.getfield 9, 3) := by decide +kernel
theorem dX0_remove_16 : decode cX0_remove 16 = .ok (.iload_n 2, 1) := by decide +kernel
theorem dX0_remove_17 : decode cX0_remove 17 = .ok (.aload_n 0, 1) := by decide +kernel
theorem dX0_remove_18 : decode cX0_remove 18 = .ok (.getfield 9, 3) := by decide +kernel
theorem dX0_remove_21 : decode cX0_remove 21 = .ok (.iload_n 2, 1) := by decide +kernel
theorem dX0_remove_22 : decode cX0_remove 22 = .ok (.iconst 1, 1) := by decide +kernel
theorem dX0_remove_23 : decode cX0_remove 23 = .ok (.iadd, 1) := by decide +kernel
theorem dX0_remove_24 : decode cX0_remove 24 = .ok (.iaload, 1) := by decide +kernel
theorem dX0_remove_25 : decode cX0_remove 25 = .ok (.iastore, 1) := by decide +kernel
theorem dX0_remove_26 : decode cX0_remove 26 = .ok (.iinc 2 1, 3) := by decide +kernel
theorem dX0_remove_29 : decode cX0_remove 29 = .ok (.goto (-27), 3) := by decide +kernel
theorem dX0_remove_32 : decode cX0_remove 32 = .ok (.aload_n 0, 1) := by decide +kernel
theorem dX0_remove_33 : decode cX0_remove 33 = .ok (.dup, 1) := by decide +kernel
theorem dX0_remove_34 : decode cX0_remove 34 = .ok (.getfield 41, 3) := by decide +kernel
theorem dX0_remove_37 : decode cX0_remove 37 = .ok (.iconst 1, 1) := by decide +kernel
theorem dX0_remove_38 : decode cX0_remove 38 = .ok (.isub, 1) := by decide +kernel
theorem dX0_remove_39 : decode cX0_remove 39 = .ok (.putfield 41, 3) := by decide +kernel
theorem dX0_remove_42 : decode cX0_remove 42 = .ok (.return_, 1) := by decide +kernel
theorem dX0_rename_0 : decode cX0_rename 0 = .ok (.iconst 1, 1) := by decide +kernel
theorem dX0_rename_1 : decode cX0_rename 1 = .ok (.iload_n 1, 1) := by decide +kernel
theorem dX0_rename_2 : decode cX0_rename 2 = .ok (.ishl, 1) := by decide +kernel
theorem dX0_rename_3 : decode cX0_rename 3 = .ok (.iconst 1, 1) := by decide +kernel
theorem dX0_rename_4 : decode cX0_rename 4 = .ok (.iload_n 2, 1) := by decide +kernel
theorem dX0_rename_5 : decode cX0_rename 5 = .ok (.ishl, 1) := by decide +kernel
theorem dX0_rename_6 : decode cX0_rename 6 = .ok (.ior, 1) := by decide +kernel
theorem dX0_rename_7 : decode cX0_rename 7 = .ok (.istore_n 3, 1) := by decide +kernel
theorem dX0_rename_8 : decode cX0_rename 8 = .ok (.iconst 0, 1) := by decide +kernel
theorem dX0_rename_9 : decode cX0_rename 9 = .ok (.istore 4, 2) := by decide +kernel
theorem dX0_rename_11 : decode cX0_rename 11 = .ok (.iconst 0, 1) := by decide +kernel
theorem dX0_rename_12 : decode cX0_rename 12 = .ok (.istore 5, 2) := by decide +kernel
theorem dX0_rename_14 : decode cX0_rename 14 = .ok (.iload 5, 2) := by decide +kernel
theorem dX0_rename_16 : decode cX0_rename 16 = .ok (.aload_n 0, 1) := by decide +kernel
theorem dX0_rename_17 : decode cX0_rename 17 = .ok (.getfield 41, 3) := by decide +kernel
theorem dX0_rename_20 : decode cX0_rename 20 = .ok (.if_icmp .ge 39, 3) := by decide +kernel
theorem dX0_rename_23 : decode cX0_rename 23 = .ok (.aload_n 0, 1) := by decide +kernel
theorem dX0_rename_24 : decode cX0_rename 24 = .ok (.getfield 9, 3) := by decide +kernel
theorem dX0_rename_27 : decode cX0_rename 27 = .ok (.iload 5, 2) := by decide +kernel
theorem dX0_rename_29 : decode cX0_rename 29 = .ok (.iaload, 1) := by decide +kernel
theorem dX0_rename_30 : decode cX0_rename 30 = .ok (.iload_n 3, 1) := by decide +kernel
theorem dX0_rename_31 : decode cX0_rename 31 = .ok (.iand, 1) := by decide +kernel
theorem dX0_rename_32 : decode cX0_rename 32 = .ok (.invokestatic 43, 3) := by decide +kernel
theorem dX0_rename_35 : decode cX0_rename 35 = .ok (.iconst 1, 1) := by decide +kernel
theorem dX0_rename_36 : decode cX0_rename 36 = .ok (.if_icmp .ne 17, 3) := by decide +kernel
theorem dX0_rename_39 : decode cX0_rename 39 = .ok (.aload_n 0, 1) := by decide +kernel
theorem dX0_rename_40 : decode cX0_rename 40 = .ok (.getfield 9, 3) := by decide +kernel
theorem dX0_rename_43 : decode cX0_rename 43 = .ok (.iload 5, 2) := by decide +kernel
theorem dX0_rename_45 : decode cX0_rename 45 = .ok (.dup2, 1) := by decide +kernel
theorem dX0_rename_46 : decode cX0_rename 46 = .ok (.iaload, 1) := by decide +kernel
theorem dX0_rename_47 : decode cX0_rename 47 = .ok (.iload_n 3, 1) := by decide +kernel
theorem dX0_rename_48 : decode cX0_rename 48 = .ok (.ixor, 1) := by decide +kernel
theorem dX0_rename_49 : decode cX0_rename 49 = .ok (.iastore, 1) := by decide +kernel
theorem dX0_rename_50 : decode cX0_rename 50 = .ok (.iinc 4 1, 3) := by decide +kernel
theorem dX0_rename_53 : decode cX0_rename 53 = .ok (.iinc 5 1, 3) := by decide +kernel
theorem dX0_rename_56 : decode cX0_rename 56 = .ok (.goto (-42), 3) := by decide +kernel
theorem dX0_rename_59 : decode cX0_rename 59 = .ok (.iload 4, 2) := by decide +kernel
theorem dX0_rename_61 : decode cX0_rename 61 = .ok (.ireturn, 1) := by decide +kernel
theorem dX0_recount_0 : decode cX0_recount 0 = .ok (.aload_n 0, 1) := by decide +kernel
theorem dX0_recount_1 : decode cX0_recount 1 = .ok (.invokevirtual 49, 3) := by decide +kernel
theorem dX0_recount_4 : decode cX0_recount 4 = .ok (.aload_n 0, 1) := by decide +kernel
theorem dX0_recount_5 : decode cX0_recount 5 = .ok (.invokevirtual 52, 3) := by decide +kernel
theorem dX0_recount_8 : decode cX0_recount 8 = .ok (.aload_n 0, 1) := by decide +kernel
theorem dX0_recount_9 : decode cX0_recount 9 = .ok (.invokevirtual 55, 3) := by decide +kernel
theorem dX0_recount_12 : decode cX0_recount 12 = .ok (.return_, 1) := by decide +kernel
theorem dX0_recountHaving_0 : decode cX0_recountHaving 0 = .ok (.iconst 0, 1) := by decide +kernel
theorem dX0_recountHaving_1 : decode cX0_recountHaving 1 = .ok (.istore_n 1, 1) := by decide +kernel
theorem dX0_recountHaving_2 : decode cX0_recountHaving 2 = .ok (.iload_n 1, 1) := by decide +kernel
theorem dX0_recountHaving_3 : decode cX0_recountHaving 3 = .ok (.bipush 7, 2) := by decide +kernel
theorem dX0_recountHaving_5 : decode cX0_recountHaving 5 = .ok (.if_icmp .ge 53, 3) := by decide +kernel
theorem dX0_recountHaving_8 : decode cX0_recountHaving 8 = .ok (.aload_n 0, 1) := by decide +kernel
theorem dX0_recountHaving_9 : decode cX0_recountHaving 9 = .ok (.getfield 15, 3) := by decide +kernel
theorem dX0_recountHaving_12 : decode cX0_recountHaving 12 = .ok (.iload_n 1, 1) := by decide +kernel
theorem dX0_recountHaving_13 : decode cX0_recountHaving 13 = .ok (.iconst 0, 1) := by decide +kernel
theorem dX0_recountHaving_14 : decode cX0_recountHaving 14 = .ok (.iastore, 1) := by decide +kernel
theorem dX0_recountHaving_15 : decode cX0_recountHaving 15 = .ok (.iconst 0, 1) := by decide +kernel
theorem dX0_recountHaving_16 : decode cX0_recountHaving 16 = .ok (.istore_n 2, 1) := by decide +kernel
theorem dX0_recountHaving_17 : decode cX0_recountHaving 17 = .ok (.iload_n 2, 1) := by decide +kernel
theorem dX0_recountHaving_18 : decode cX0_recountHaving 18 = .ok (.aload_n 0, 1) := by decide +kernel
theorem dX0_recountHaving_19 : decode cX0_recountHaving 19 = .ok (.getfield 41, 3) := by decide +kernel
theorem dX0_recountHaving_22 : decode cX0_recountHaving 22 = .ok (.if_icmp .ge 30, 3) := by decide +kernel
theorem dX0_recountHaving_25 : decode cX0_recountHaving 25 = .ok (.aload_n 0, 1) := by decide +kernel
theorem dX0_recountHaving_26 : decode cX0_recountHaving 26 = .ok (.getfield 15, 3) := by decide +kernel
theorem dX0_recountHaving_29 : decode cX0_recountHaving 29 = .ok (.iload_n 1, 1) := by decide +kernel
theorem dX0_recountHaving_30 : decode cX0_recountHaving 30 = .ok (.dup2, 1) := by decide +kernel
theorem dX0_recountHaving_31 : decode cX0_recountHaving 31 = .ok (.iaload, 1) := by decide +kernel
theorem dX0_recountHaving_32 : decode cX0_recountHaving 32 = .ok (.aload_n 0, 1) := by decide +kernel
theorem dX0_recountHaving_33 : decode cX0_recountHaving 33 = .ok (.getfield 9, 3) := by decide +kernel
theorem dX0_recountHaving_36 : decode cX0_recountHaving 36 = .ok (.iload_n 2, 1) := by decide +kernel
theorem dX0_recountHaving_37 : decode cX0_recountHaving 37 = .ok (.iaload, 1) := by decide +kernel
theorem dX0_recountHaving_38 : decode cX0_recountHaving 38 = .ok (.iload_n 1, 1) := by decide +kernel
theorem dX0_recountHaving_39 : decode cX0_recountHaving 39 = .ok (.ishr, 1) := by decide +kernel
theorem dX0_recountHaving_40 : decode cX0_recountHaving 40 = .ok (.iconst 1, 1) := by decide +kernel
theorem dX0_recountHaving_41 : decode cX0_recountHaving 41 = .ok (.iand, 1) := by decide +kernel
theorem dX0_recountHaving_42 : decode cX0_recountHaving 42 = .ok (.iload_n 2, 1) := by decide +kernel
theorem dX0_recountHaving_43 : decode cX0_recountHaving 43 = .ok (.ishl, 1) := by decide +kernel
theorem dX0_recountHaving_44 : decode cX0_recountHaving 44 = .ok (.ior, 1) := by decide +kernel
theorem dX0_recountHaving_45 : decode cX0_recountHaving 45 = .ok (.iastore, 1) := by decide +kernel
theorem dX0_recountHaving_46 : decode cX0_recountHaving 46 = .ok (.iinc 2 1, 3) := by decide +kernel
theorem dX0_recountHaving_49 : decode cX0_recountHaving 49 = .ok (.goto (-32), 3) := by decide +kernel
theorem dX0_recountHaving_52 : decode cX0_recountHaving 52 = .ok (.iinc 1 1, 3) := by decide +kernel
theorem dX0_recountHaving_55 : decode cX0_recountHaving 55 = .ok (.goto (-53), 3) := by decide +kernel
theorem dX0_recountHaving_58 : decode cX0_recountHaving 58 = .ok (.return_, 1) := by decide +kernel
theorem dX0_recountLying_0 : decode cX0_recountLying 0 = .ok (.aload_n 0, 1) := by decide +kernel
theorem dX0_recountLying_1 : decode cX0_recountLying 1 = .ok (.getfield 18, 3) := by decide +kernel
theorem dX0_recountLying_4 : decode cX0_recountLying 4 = .ok (.iconst 0, 1) := by decide +kernel
theorem dX0_recountLying_5 : decode cX0_recountLying 5 = .ok (.aload_n 0, 1) := by decide +kernel
theorem dX0_recountLying_6 : decode cX0_recountLying 6 = .ok (.invokevirtual 58, 3) := by decide +kernel
theorem dX0_recountLying_9 : decode cX0_recountLying 9 = .ok (.iastore, 1) := by decide +kernel
theorem dX0_recountLying_10 : decode cX0_recountLying 10 = .ok (.iconst 0, 1) := by decide +kernel
theorem dX0_recountLying_11 : decode cX0_recountLying 11 = .ok (.istore_n 1, 1) := by decide +kernel
theorem dX0_recountLying_12 : decode cX0_recountLying 12 = .ok (.iload_n 1, 1) := by decide +kernel
theorem dX0_recountLying_13 : decode cX0_recountLying 13 = .ok (.bipush 7, 2) := by decide +kernel
theorem dX0_recountLying_15 : decode cX0_recountLying 15 = .ok (.if_icmp .ge 47, 3) := by decide +kernel
theorem dX0_recountLying_18 : decode cX0_recountLying 18 = .ok (.iconst 1, 1) := by decide +kernel
theorem dX0_recountLying_19 : decode cX0_recountLying 19 = .ok (.iload_n 1, 1) := by decide +kernel
theorem dX0_recountLying_20 : decode cX0_recountLying 20 = .ok (.ishl, 1) := by decide +kernel
theorem dX0_recountLying_21 : decode cX0_recountLying 21 = .ok (.istore_n 2, 1) := by decide +kernel
theorem dX0_recountLying_22 : decode cX0_recountLying 22 = .ok (.iconst 0, 1) := by decide +kernel
theorem dX0_recountLying_23 : decode cX0_recountLying 23 = .ok (.istore_n 3, 1) := by decide +kernel
theorem dX0_recountLying_24 : decode cX0_recountLying 24 = .ok (.iload_n 3, 1) := by decide +kernel
theorem dX0_recountLying_25 : decode cX0_recountLying 25 = .ok (.iload_n 2, 1) := by decide +kernel
theorem dX0_recountLying_26 : decode cX0_recountLying 26 = .ok (.if_icmp .ge 30, 3) := by decide +kernel
theorem dX0_recountLying_29 : decode cX0_recountLying 29 = .ok (.aload_n 0, 1) := by decide +kernel
theorem dX0_recountLying_30 : decode cX0_recountLying 30 = .ok (.getfield 18, 3) := by decide +kernel
theorem dX0_recountLying_33 : decode cX0_recountLying 33 = .ok (.iload_n 2, 1) := by decide +kernel
theorem dX0_recountLying_34 : decode cX0_recountLying 34 = .ok (.iload_n 3, 1) := by decide +kernel
theorem dX0_recountLying_35 : decode cX0_recountLying 35 = .ok (.ior, 1) := by decide +kernel
theorem dX0_recountLying_36 : decode cX0_recountLying 36 = .ok (.aload_n 0, 1) := by decide +kernel
theorem dX0_recountLying_37 : decode cX0_recountLying 37 = .ok (.getfield 18, 3) := by decide +kernel
theorem dX0_recountLying_40 : decode cX0_recountLying 40 = .ok (.iload_n 3, 1) := by decide +kernel
theorem dX0_recountLying_41 : decode cX0_recountLying 41 = .ok (.iaload, 1) := by decide +kernel
theorem dX0_recountLying_42 : decode cX0_recountLying 42 = .ok (.aload_n 0, 1) := by decide +kernel
theorem dX0_recountLying_43 : decode cX0_recountLying 43 = .ok (.getfield 15, 3) := by decide +kernel
theorem dX0_recountLying_46 : decode cX0_recountLying 46 = .ok (.iload_n 1, 1) := by decide +kernel
theorem dX0_recountLying_47 : decode cX0_recountLying 47 = .ok (.iaload, 1) := by decide +kernel
theorem dX0_recountLying_48 : decode cX0_recountLying 48 = .ok (.iand, 1) := by decide +kernel
theorem dX0_recountLying_49 : decode cX0_recountLying 49 = .ok (.iastore, 1) := by decide +kernel
theorem dX0_recountLying_50 : decode cX0_recountLying 50 = .ok (.iinc 3 1, 3) := by decide +kernel
theorem dX0_recountLying_53 : decode cX0_recountLying 53 = .ok (.goto (-29), 3) := by decide +kernel
theorem dX0_recountLying_56 : decode cX0_recountLying 56 = .ok (.iinc 1 1, 3) := by decide +kernel
theorem dX0_recountLying_59 : decode cX0_recountLying 59 = .ok (.goto (-47), 3) := by decide +kernel
theorem dX0_recountLying_62 : decode cX0_recountLying 62 = .ok (.return_, 1) := by decide +kernel
theorem dX0_recountAcross_0 : decode cX0_recountAcross 0 = .ok (.iconst 0, 1) := by decide +kernel
theorem dX0_recountAcross_1 : decode cX0_recountAcross 1 = .ok (.istore_n 1, 1) := by decide +kernel
theorem dX0_recountAcross_2 : decode cX0_recountAcross 2 = .ok (.iload_n 1, 1) := by decide +kernel
theorem dX0_recountAcross_3 : decode cX0_recountAcross 3 = .ok (.aload_n 0, 1) := by decide +kernel
theorem dX0_recountAcross_4 : decode cX0_recountAcross 4 = .ok (.getfield 41, 3) := by decide +kernel
theorem dX0_recountAcross_7 : decode cX0_recountAcross 7 = .ok (.if_icmp .ge 89, 3) := by decide +kernel
theorem dX0_recountAcross_10 : decode cX0_recountAcross 10 = .ok (.iconst 0, 1) := by decide +kernel
theorem dX0_recountAcross_11 : decode cX0_recountAcross 11 = .ok (.istore_n 2, 1) := by decide +kernel
theorem dX0_recountAcross_12 : decode cX0_recountAcross 12 = .ok (.iload_n 2, 1) := by decide +kernel
theorem dX0_recountAcross_13 : decode cX0_recountAcross 13 = .ok (.bipush 7, 2) := by decide +kernel
theorem dX0_recountAcross_15 : decode cX0_recountAcross 15 = .ok (.if_icmp .ge 75, 3) := by decide +kernel
theorem dX0_recountAcross_18 : decode cX0_recountAcross 18 = .ok (.iconst 1, 1) := by decide +kernel
theorem dX0_recountAcross_19 : decode cX0_recountAcross 19 = .ok (.iload_n 2, 1) := by decide +kernel
theorem dX0_recountAcross_20 : decode cX0_recountAcross 20 = .ok (.ishl, 1) := by decide +kernel
theorem dX0_recountAcross_21 : decode cX0_recountAcross 21 = .ok (.istore_n 3, 1) := by decide +kernel
theorem dX0_recountAcross_22 : decode cX0_recountAcross 22 = .ok (.aload_n 0, 1) := by decide +kernel
theorem dX0_recountAcross_23 : decode cX0_recountAcross 23 = .ok (.getfield 9, 3) := by decide +kernel
theorem dX0_recountAcross_26 : decode cX0_recountAcross 26 = .ok (.iload_n 1, 1) := by decide +kernel
theorem dX0_recountAcross_27 : decode cX0_recountAcross 27 = .ok (.iaload, 1) := by decide +kernel
theorem dX0_recountAcross_28 : decode cX0_recountAcross 28 = .ok (.iload_n 3, 1) := by decide +kernel
theorem dX0_recountAcross_29 : decode cX0_recountAcross 29 = .ok (.iand, 1) := by decide +kernel
theorem dX0_recountAcross_30 : decode cX0_recountAcross 30 = .ok (.ifCond .eq 7, 3) := by decide +kernel
theorem dX0_recountAcross_33 : decode cX0_recountAcross 33 = .ok (.iconst 1, 1) := by decide +kernel
theorem dX0_recountAcross_34 : decode cX0_recountAcross 34 = .ok (.goto 4, 3) := by decide +kernel
theorem dX0_recountAcross_37 : decode cX0_recountAcross 37 = .ok (.iconst 0, 1) := by decide +kernel
theorem dX0_recountAcross_38 : decode cX0_recountAcross 38 = .ok (.istore 4, 2) := by decide +kernel
theorem dX0_recountAcross_40 : decode cX0_recountAcross 40 = .ok (.aload_n 0, 1) := by decide +kernel
theorem dX0_recountAcross_41 : decode cX0_recountAcross 41 = .ok (.getfield 21, 3) := by decide +kernel
theorem dX0_recountAcross_44 : decode cX0_recountAcross 44 = .ok (.iload_n 1, 1) := by decide +kernel
theorem dX0_recountAcross_45 : decode cX0_recountAcross 45 = .ok (.bipush 7, 2) := by decide +kernel
theorem dX0_recountAcross_47 : decode cX0_recountAcross 47 = .ok (.imul, 1) := by decide +kernel
theorem dX0_recountAcross_48 : decode cX0_recountAcross 48 = .ok (.iload_n 2, 1) := by decide +kernel
theorem dX0_recountAcross_49 : decode cX0_recountAcross 49 = .ok (.iadd, 1) := by decide +kernel
theorem dX0_recountAcross_50 : decode cX0_recountAcross 50 = .ok (.iload 4, 2) := by decide +kernel
theorem dX0_recountAcross_52 : decode cX0_recountAcross 52 = .ok (.ifCond .eq 30, 3) := by decide +kernel
theorem dX0_recountAcross_55 : decode cX0_recountAcross 55 = .ok (.aload_n 0, 1) := by decide +kernel
theorem dX0_recountAcross_56 : decode cX0_recountAcross 56 = .ok (.getfield 18, 3) := by decide +kernel
theorem dX0_recountAcross_59 : decode cX0_recountAcross 59 = .ok (.aload_n 0, 1) := by decide +kernel
theorem dX0_recountAcross_60 : decode cX0_recountAcross 60 = .ok (.getfield 9, 3) := by decide +kernel
theorem dX0_recountAcross_63 : decode cX0_recountAcross 63 = .ok (.iload_n 1, 1) := by decide +kernel
theorem dX0_recountAcross_64 : decode cX0_recountAcross 64 = .ok (.iaload, 1) := by decide +kernel
theorem dX0_recountAcross_65 : decode cX0_recountAcross 65 = .ok (.iload_n 3, 1) := by decide +kernel
theorem dX0_recountAcross_66 : decode cX0_recountAcross 66 = .ok (.iconst (-1), 1) := by decide +kernel
theorem dX0_recountAcross_67 : decode cX0_recountAcross 67 = .ok (.ixor, 1) := by decide +kernel
theorem dX0_recountAcross_68 : decode cX0_recountAcross 68 = .ok (.iand, 1) := by decide +kernel
theorem dX0_recountAcross_69 : decode cX0_recountAcross 69 = .ok (.iaload, 1) := by decide +kernel
theorem dX0_recountAcross_70 : decode cX0_recountAcross 70 = .ok (.aload_n 0, 1) := by decide +kernel
theorem dX0_recountAcross_71 : decode cX0_recountAcross 71 = .ok (.getfield 15, 3) := by decide +kernel
theorem dX0_recountAcross_74 : decode cX0_recountAcross 74 = .ok (.iload_n 2, 1) := by decide +kernel
theorem dX0_recountAcross_75 : decode cX0_recountAcross 75 = .ok (.iaload, 1) := by decide +kernel
theorem dX0_recountAcross_76 : decode cX0_recountAcross 76 = .ok (.iconst (-1), 1) := by decide +kernel
theorem dX0_recountAcross_77 : decode cX0_recountAcross 77 = .ok (.ixor, 1) := by decide +kernel
theorem dX0_recountAcross_78 : decode cX0_recountAcross 78 = .ok (.iand, 1) := by decide +kernel
theorem dX0_recountAcross_79 : decode cX0_recountAcross 79 = .ok (.goto 4, 3) := by decide +kernel
theorem dX0_recountAcross_82 : decode cX0_recountAcross 82 = .ok (.iconst 0, 1) := by decide +kernel
theorem dX0_recountAcross_83 : decode cX0_recountAcross 83 = .ok (.iastore, 1) := by decide +kernel
theorem dX0_recountAcross_84 : decode cX0_recountAcross 84 = .ok (.iinc 2 1, 3) := by decide +kernel
theorem dX0_recountAcross_87 : decode cX0_recountAcross 87 = .ok (.goto (-75), 3) := by decide +kernel
theorem dX0_recountAcross_90 : decode cX0_recountAcross 90 = .ok (.iinc 1 1, 3) := by decide +kernel
theorem dX0_recountAcross_93 : decode cX0_recountAcross 93 = .ok (.goto (-91), 3) := by decide +kernel
theorem dX0_recountAcross_96 : decode cX0_recountAcross 96 = .ok (.return_, 1) := by decide +kernel
theorem dX0_everyPoint_0 : decode cX0_everyPoint 0 = .ok (.iconst 1, 1) := by decide +kernel
theorem dX0_everyPoint_1 : decode cX0_everyPoint 1 = .ok (.aload_n 0, 1) := by decide +kernel
theorem dX0_everyPoint_2 : decode cX0_everyPoint 2 = .ok (.getfield 33, 3) := by decide +kernel
theorem dX0_everyPoint_5 : decode cX0_everyPoint 5 = .ok (.ishl, 1) := by decide +kernel
theorem dX0_everyPoint_6 : decode cX0_everyPoint 6 = .ok (.iconst 1, 1) := by decide +kernel
theorem dX0_everyPoint_7 : decode cX0_everyPoint 7 = .ok (.isub, 1) := by decide +kernel
theorem dX0_everyPoint_8 : decode cX0_everyPoint 8 = .ok (.ireturn, 1) := by decide +kernel
theorem dX0_everyFacet_0 : decode cX0_everyFacet 0 = .ok (.iconst 1, 1) := by decide +kernel
theorem dX0_everyFacet_1 : decode cX0_everyFacet 1 = .ok (.aload_n 0, 1) := by decide +kernel
theorem dX0_everyFacet_2 : decode cX0_everyFacet 2 = .ok (.getfield 41, 3) := by decide +kernel
theorem dX0_everyFacet_5 : decode cX0_everyFacet 5 = .ok (.ishl, 1) := by decide +kernel
theorem dX0_everyFacet_6 : decode cX0_everyFacet 6 = .ok (.iconst 1, 1) := by decide +kernel
theorem dX0_everyFacet_7 : decode cX0_everyFacet 7 = .ok (.isub, 1) := by decide +kernel
theorem dX0_everyFacet_8 : decode cX0_everyFacet 8 = .ok (.ireturn, 1) := by decide +kernel
theorem dX0_isPoint_0 : decode cX0_isPoint 0 = .ok (.aload_n 0, 1) := by decide +kernel
theorem dX0_isPoint_1 : decode cX0_isPoint 1 = .ok (.getfield 41, 3) := by decide +kernel
theorem dX0_isPoint_4 : decode cX0_isPoint 4 = .ok (.ifCond .le 19, 3) := by decide +kernel
theorem dX0_isPoint_7 : decode cX0_isPoint 7 = .ok (.iload_n 1, 1) := by decide +kernel
theorem dX0_isPoint_8 : decode cX0_isPoint 8 = .ok (.ifCond .lt 15, 3) := by decide +kernel
theorem dX0_isPoint_11 : decode cX0_isPoint 11 = .ok (.iload_n 1, 1) := by decide +kernel
theorem dX0_isPoint_12 : decode cX0_isPoint 12 = .ok (.aload_n 0, 1) := by decide +kernel
theorem dX0_isPoint_13 : decode cX0_isPoint 13 = .ok (.getfield 33, 3) := by decide +kernel
theorem dX0_isPoint_16 : decode cX0_isPoint 16 = .ok (.if_icmp .ge 7, 3) := by decide +kernel
theorem dX0_isPoint_19 : decode cX0_isPoint 19 = .ok (.iconst 1, 1) := by decide +kernel
theorem dX0_isPoint_20 : decode cX0_isPoint 20 = .ok (.goto 4, 3) := by decide +kernel
theorem dX0_isPoint_23 : decode cX0_isPoint 23 = .ok (.iconst 0, 1) := by decide +kernel
theorem dX0_isPoint_24 : decode cX0_isPoint 24 = .ok (.ireturn, 1) := by decide +kernel
theorem dX0_isFacet_0 : decode cX0_isFacet 0 = .ok (.iload_n 1, 1) := by decide +kernel
theorem dX0_isFacet_1 : decode cX0_isFacet 1 = .ok (.ifCond .lt 15, 3) := by decide +kernel
theorem dX0_isFacet_4 : decode cX0_isFacet 4 = .ok (.iload_n 1, 1) := by decide +kernel
theorem dX0_isFacet_5 : decode cX0_isFacet 5 = .ok (.aload_n 0, 1) := by decide +kernel
theorem dX0_isFacet_6 : decode cX0_isFacet 6 = .ok (.getfield 41, 3) := by decide +kernel
theorem dX0_isFacet_9 : decode cX0_isFacet 9 = .ok (.if_icmp .ge 7, 3) := by decide +kernel
theorem dX0_isFacet_12 : decode cX0_isFacet 12 = .ok (.iconst 1, 1) := by decide +kernel
theorem dX0_isFacet_13 : decode cX0_isFacet 13 = .ok (.goto 4, 3) := by decide +kernel
theorem dX0_isFacet_16 : decode cX0_isFacet 16 = .ok (.iconst 0, 1) := by decide +kernel
theorem dX0_isFacet_17 : decode cX0_isFacet 17 = .ok (.ireturn, 1) := by decide +kernel
theorem dX0_isSet_0 : decode cX0_isSet 0 = .ok (.iload_n 1, 1) := by decide +kernel
theorem dX0_isSet_1 : decode cX0_isSet 1 = .ok (.ifCond .lt 15, 3) := by decide +kernel
theorem dX0_isSet_4 : decode cX0_isSet 4 = .ok (.iload_n 1, 1) := by decide +kernel
theorem dX0_isSet_5 : decode cX0_isSet 5 = .ok (.aload_n 0, 1) := by decide +kernel
theorem dX0_isSet_6 : decode cX0_isSet 6 = .ok (.invokevirtual 62, 3) := by decide +kernel
theorem dX0_isSet_9 : decode cX0_isSet 9 = .ok (.if_icmp .gt 7, 3) := by decide +kernel
theorem dX0_isSet_12 : decode cX0_isSet 12 = .ok (.iconst 1, 1) := by decide +kernel
theorem dX0_isSet_13 : decode cX0_isSet 13 = .ok (.goto 4, 3) := by decide +kernel
theorem dX0_isSet_16 : decode cX0_isSet 16 = .ok (.iconst 0, 1) := by decide +kernel
theorem dX0_isSet_17 : decode cX0_isSet 17 = .ok (.ireturn, 1) := by decide +kernel
theorem dX0_isFace_0 : decode cX0_isFace 0 = .ok (.aload_n 0, 1) := by decide +kernel
theorem dX0_isFace_1 : decode cX0_isFace 1 = .ok (.iload_n 1, 1) := by decide +kernel
theorem dX0_isFace_2 : decode cX0_isFace 2 = .ok (.invokevirtual 65, 3) := by decide +kernel
theorem dX0_isFace_5 : decode cX0_isFace 5 = .ok (.ifCond .eq 16, 3) := by decide +kernel
theorem dX0_isFace_8 : decode cX0_isFace 8 = .ok (.aload_n 0, 1) := by decide +kernel
theorem dX0_isFace_9 : decode cX0_isFace 9 = .ok (.getfield 18, 3) := by decide +kernel
theorem dX0_isFace_12 : decode cX0_isFace 12 = .ok (.iload_n 1, 1) := by decide +kernel
theorem dX0_isFace_13 : decode cX0_isFace 13 = .ok (.iaload, 1) := by decide +kernel
theorem dX0_isFace_14 : decode cX0_isFace 14 = .ok (.ifCond .eq 7, 3) := by decide +kernel
theorem dX0_isFace_17 : decode cX0_isFace 17 = .ok (.iconst 1, 1) := by decide +kernel
theorem dX0_isFace_18 : decode cX0_isFace 18 = .ok (.goto 4, 3) := by decide +kernel
theorem dX0_isFace_21 : decode cX0_isFace 21 = .ok (.iconst 0, 1) := by decide +kernel
theorem dX0_isFace_22 : decode cX0_isFace 22 = .ok (.ireturn, 1) := by decide +kernel
theorem dX0_numberOf_0 : decode cX0_numberOf 0 = .ok (.iconst 0, 1) := by decide +kernel
theorem dX0_numberOf_1 : decode cX0_numberOf 1 = .ok (.istore_n 2, 1) := by decide +kernel
theorem dX0_numberOf_2 : decode cX0_numberOf 2 = .ok (.iload_n 2, 1) := by decide +kernel
theorem dX0_numberOf_3 : decode cX0_numberOf 3 = .ok (.aload_n 0, 1) := by decide +kernel
theorem dX0_numberOf_4 : decode cX0_numberOf 4 = .ok (.getfield 41, 3) := by decide +kernel
theorem dX0_numberOf_7 : decode cX0_numberOf 7 = .ok (.if_icmp .ge 21, 3) := by decide +kernel
theorem dX0_numberOf_10 : decode cX0_numberOf 10 = .ok (.aload_n 0, 1) := by decide +kernel
theorem dX0_numberOf_11 : decode cX0_numberOf 11 = .ok (.getfield 9, 3) := by decide +kernel
theorem dX0_numberOf_14 : decode cX0_numberOf 14 = .ok (.iload_n 2, 1) := by decide +kernel
theorem dX0_numberOf_15 : decode cX0_numberOf 15 = .ok (.iaload, 1) := by decide +kernel
theorem dX0_numberOf_16 : decode cX0_numberOf 16 = .ok (.iload_n 1, 1) := by decide +kernel
theorem dX0_numberOf_17 : decode cX0_numberOf 17 = .ok (.if_icmp .ne 5, 3) := by decide +kernel
theorem dX0_numberOf_20 : decode cX0_numberOf 20 = .ok (.iload_n 2, 1) := by decide +kernel
theorem dX0_numberOf_21 : decode cX0_numberOf 21 = .ok (.ireturn, 1) := by decide +kernel
theorem dX0_numberOf_22 : decode cX0_numberOf 22 = .ok (.iinc 2 1, 3) := by decide +kernel
theorem dX0_numberOf_25 : decode cX0_numberOf 25 = .ok (.goto (-23), 3) := by decide +kernel
theorem dX0_numberOf_28 : decode cX0_numberOf 28 = .ok (.iconst (-1), 1) := by decide +kernel
theorem dX0_numberOf_29 : decode cX0_numberOf 29 = .ok (.ireturn, 1) := by decide +kernel
theorem dX0_countFaces_0 : decode cX0_countFaces 0 = .ok (.iconst 0, 1) := by decide +kernel
theorem dX0_countFaces_1 : decode cX0_countFaces 1 = .ok (.istore_n 1, 1) := by decide +kernel
theorem dX0_countFaces_2 : decode cX0_countFaces 2 = .ok (.iconst 0, 1) := by decide +kernel
theorem dX0_countFaces_3 : decode cX0_countFaces 3 = .ok (.istore_n 2, 1) := by decide +kernel
theorem dX0_countFaces_4 : decode cX0_countFaces 4 = .ok (.iload_n 2, 1) := by decide +kernel
theorem dX0_countFaces_5 : decode cX0_countFaces 5 = .ok (.aload_n 0, 1) := by decide +kernel
theorem dX0_countFaces_6 : decode cX0_countFaces 6 = .ok (.getfield 37, 3) := by decide +kernel
theorem dX0_countFaces_9 : decode cX0_countFaces 9 = .ok (.if_icmp .gt 17, 3) := by decide +kernel
theorem dX0_countFaces_12 : decode cX0_countFaces 12 = .ok (.iload_n 1, 1) := by decide +kernel
theorem dX0_countFaces_13 : decode cX0_countFaces 13 = .ok (.aload_n 0, 1) := by decide +kernel
theorem dX0_countFaces_14 : decode cX0_countFaces 14 = .ok (.iload_n 2, 1) := by decide +kernel
theorem dX0_countFaces_15 : decode cX0_countFaces 15 = .ok (.invokevirtual 69, 3) := by decide +kernel
theorem dX0_countFaces_18 : decode cX0_countFaces 18 = .ok (.iadd, 1) := by decide +kernel
theorem dX0_countFaces_19 : decode cX0_countFaces 19 = .ok (.istore_n 1, 1) := by decide +kernel
theorem dX0_countFaces_20 : decode cX0_countFaces 20 = .ok (.iinc 2 1, 3) := by decide +kernel
theorem dX0_countFaces_23 : decode cX0_countFaces 23 = .ok (.goto (-19), 3) := by decide +kernel
theorem dX0_countFaces_26 : decode cX0_countFaces 26 = .ok (.iload_n 1, 1) := by decide +kernel
theorem dX0_countFaces_27 : decode cX0_countFaces 27 = .ok (.ireturn, 1) := by decide +kernel
theorem dX0_countSized_0 : decode cX0_countSized 0 = .ok (.iconst 0, 1) := by decide +kernel
theorem dX0_countSized_1 : decode cX0_countSized 1 = .ok (.istore_n 2, 1) := by decide +kernel
theorem dX0_countSized_2 : decode cX0_countSized 2 = .ok (.iconst 0, 1) := by decide +kernel
theorem dX0_countSized_3 : decode cX0_countSized 3 = .ok (.istore_n 3, 1) := by decide +kernel
theorem dX0_countSized_4 : decode cX0_countSized 4 = .ok (.iload_n 3, 1) := by decide +kernel
theorem dX0_countSized_5 : decode cX0_countSized 5 = .ok (.aload_n 0, 1) := by decide +kernel
theorem dX0_countSized_6 : decode cX0_countSized 6 = .ok (.invokevirtual 62, 3) := by decide +kernel
theorem dX0_countSized_9 : decode cX0_countSized 9 = .ok (.if_icmp .gt 29, 3) := by decide +kernel
theorem dX0_countSized_12 : decode cX0_countSized 12 = .ok (.aload_n 0, 1) := by decide +kernel
theorem dX0_countSized_13 : decode cX0_countSized 13 = .ok (.getfield 18, 3) := by decide +kernel
theorem dX0_countSized_16 : decode cX0_countSized 16 = .ok (.iload_n 3, 1) := by decide +kernel
theorem dX0_countSized_17 : decode cX0_countSized 17 = .ok (.iaload, 1) := by decide +kernel
theorem dX0_countSized_18 : decode cX0_countSized 18 = .ok (.ifCond .eq 14, 3) := by decide +kernel
theorem dX0_countSized_21 : decode cX0_countSized 21 = .ok (.iload_n 3, 1) := by decide +kernel
theorem dX0_countSized_22 : decode cX0_countSized 22 = .ok (.invokestatic 43, 3) := by decide +kernel
theorem dX0_countSized_25 : decode cX0_countSized 25 = .ok (.iload_n 1, 1) := by decide +kernel
theorem dX0_countSized_26 : decode cX0_countSized 26 = .ok (.if_icmp .ne 6, 3) := by decide +kernel
theorem dX0_countSized_29 : decode cX0_countSized 29 = .ok (.iinc 2 1, 3) := by decide +kernel
theorem dX0_countSized_32 : decode cX0_countSized 32 = .ok (.iinc 3 1, 3) := by decide +kernel
theorem dX0_countSized_35 : decode cX0_countSized 35 = .ok (.goto (-31), 3) := by decide +kernel
theorem dX0_countSized_38 : decode cX0_countSized 38 = .ok (.iload_n 2, 1) := by decide +kernel
theorem dX0_countSized_39 : decode cX0_countSized 39 = .ok (.ireturn, 1) := by decide +kernel
theorem dX0_usedPoints_0 : decode cX0_usedPoints 0 = .ok (.iconst 0, 1) := by decide +kernel
theorem dX0_usedPoints_1 : decode cX0_usedPoints 1 = .ok (.istore_n 1, 1) := by decide +kernel
theorem dX0_usedPoints_2 : decode cX0_usedPoints 2 = .ok (.iconst 0, 1) := by decide +kernel
theorem dX0_usedPoints_3 : decode cX0_usedPoints 3 = .ok (.istore_n 2, 1) := by decide +kernel
theorem dX0_usedPoints_4 : decode cX0_usedPoints 4 = .ok (.iload_n 2, 1) := by decide +kernel
theorem dX0_usedPoints_5 : decode cX0_usedPoints 5 = .ok (.aload_n 0, 1) := by decide +kernel
theorem dX0_usedPoints_6 : decode cX0_usedPoints 6 = .ok (.getfield 41, 3) := by decide +kernel
theorem dX0_usedPoints_9 : decode cX0_usedPoints 9 = .ok (.if_icmp .ge 18, 3) := by decide +kernel
theorem dX0_usedPoints_12 : decode cX0_usedPoints 12 = .ok (.iload_n 1, 1) := by decide +kernel
theorem dX0_usedPoints_13 : decode cX0_usedPoints 13 = .ok (.aload_n 0, 1) := by decide +kernel
theorem dX0_usedPoints_14 : decode cX0_usedPoints 14 = .ok (.getfield 9, 3) := by decide +kernel
theorem dX0_usedPoints_17 : decode cX0_usedPoints 17 = .ok (.iload_n 2, 1) := by decide +kernel
theorem dX0_usedPoints_18 : decode cX0_usedPoints 18 = .ok (.iaload, 1) := by decide +kernel
theorem dX0_usedPoints_19 : decode cX0_usedPoints 19 = .ok (.ior, 1) := by decide +kernel
theorem dX0_usedPoints_20 : decode cX0_usedPoints 20 = .ok (.istore_n 1, 1) := by decide +kernel
theorem dX0_usedPoints_21 : decode cX0_usedPoints 21 = .ok (.iinc 2 1, 3) := by decide +kernel
theorem dX0_usedPoints_24 : decode cX0_usedPoints 24 = .ok (.goto (-20), 3) := by decide +kernel
theorem dX0_usedPoints_27 : decode cX0_usedPoints 27 = .ok (.iload_n 1, 1) := by decide +kernel
theorem dX0_usedPoints_28 : decode cX0_usedPoints 28 = .ok (.ireturn, 1) := by decide +kernel
theorem dX0_commonPoints_0 : decode cX0_commonPoints 0 = .ok (.aload_n 0, 1) := by decide +kernel
theorem dX0_commonPoints_1 : decode cX0_commonPoints 1 = .ok (.invokevirtual 62, 3) := by decide +kernel
theorem dX0_commonPoints_4 : decode cX0_commonPoints 4 = .ok (.istore_n 1, 1) := by decide +kernel
theorem dX0_commonPoints_5 : decode cX0_commonPoints 5 = .ok (.iconst 0, 1) := by decide +kernel
theorem dX0_commonPoints_6 : decode cX0_commonPoints 6 = .ok (.istore_n 2, 1) := by decide +kernel
theorem dX0_commonPoints_7 : decode cX0_commonPoints 7 = .ok (.iload_n 2, 1) := by decide +kernel
theorem dX0_commonPoints_8 : decode cX0_commonPoints 8 = .ok (.aload_n 0, 1) := by decide +kernel
theorem dX0_commonPoints_9 : decode cX0_commonPoints 9 = .ok (.getfield 41, 3) := by decide +kernel
theorem dX0_commonPoints_12 : decode cX0_commonPoints 12 = .ok (.if_icmp .ge 18, 3) := by decide +kernel
theorem dX0_commonPoints_15 : decode cX0_commonPoints 15 = .ok (.iload_n 1, 1) := by decide +kernel
theorem dX0_commonPoints_16 : decode cX0_commonPoints 16 = .ok (.aload_n 0, 1) := by decide +kernel
theorem dX0_commonPoints_17 : decode cX0_commonPoints 17 = .ok (.getfield 9, 3) := by decide +kernel
theorem dX0_commonPoints_20 : decode cX0_commonPoints 20 = .ok (.iload_n 2, 1) := by decide +kernel
theorem dX0_commonPoints_21 : decode cX0_commonPoints 21 = .ok (.iaload, 1) := by decide +kernel
theorem dX0_commonPoints_22 : decode cX0_commonPoints 22 = .ok (.iand, 1) := by decide +kernel
theorem dX0_commonPoints_23 : decode cX0_commonPoints 23 = .ok (.istore_n 1, 1) := by decide +kernel
theorem dX0_commonPoints_24 : decode cX0_commonPoints 24 = .ok (.iinc 2 1, 3) := by decide +kernel
theorem dX0_commonPoints_27 : decode cX0_commonPoints 27 = .ok (.goto (-20), 3) := by decide +kernel
theorem dX0_commonPoints_30 : decode cX0_commonPoints 30 = .ok (.iload_n 1, 1) := by decide +kernel
theorem dX0_commonPoints_31 : decode cX0_commonPoints 31 = .ok (.ireturn, 1) := by decide +kernel
theorem dX0_isMissing_0 : decode cX0_isMissing 0 = .ok (.aload_n 0, 1) := by decide +kernel
theorem dX0_isMissing_1 : decode cX0_isMissing 1 = .ok (.getfield 18, 3) := by decide +kernel
theorem dX0_isMissing_4 : decode cX0_isMissing 4 = .ok (.iload_n 1, 1) := by decide +kernel
theorem dX0_isMissing_5 : decode cX0_isMissing 5 = .ok (.iaload, 1) := by decide +kernel
theorem dX0_isMissing_6 : decode cX0_isMissing 6 = .ok (.ifCond .eq 5, 3) := by decide +kernel
theorem dX0_isMissing_9 : decode cX0_isMissing 9 = .ok (.iconst 0, 1) := by decide +kernel
theorem dX0_isMissing_10 : decode cX0_isMissing 10 = .ok (.ireturn, 1) := by decide +kernel
theorem dX0_isMissing_11 : decode cX0_isMissing 11 = .ok (.iconst 0, 1) := by decide +kernel
theorem dX0_isMissing_12 : decode cX0_isMissing 12 = .ok (.istore_n 2, 1) := by decide +kernel
theorem dX0_isMissing_13 : decode cX0_isMissing 13 = .ok (.iload_n 2, 1) := by decide +kernel
theorem dX0_isMissing_14 : decode cX0_isMissing 14 = .ok (.aload_n 0, 1) := by decide +kernel
theorem dX0_isMissing_15 : decode cX0_isMissing 15 = .ok (.getfield 33, 3) := by decide +kernel
theorem dX0_isMissing_18 : decode cX0_isMissing 18 = .ok (.if_icmp .ge 34, 3) := by decide +kernel
theorem dX0_isMissing_21 : decode cX0_isMissing 21 = .ok (.iconst 1, 1) := by decide +kernel
theorem dX0_isMissing_22 : decode cX0_isMissing 22 = .ok (.iload_n 2, 1) := by decide +kernel
theorem dX0_isMissing_23 : decode cX0_isMissing 23 = .ok (.ishl, 1) := by decide +kernel
theorem dX0_isMissing_24 : decode cX0_isMissing 24 = .ok (.istore_n 3, 1) := by decide +kernel
theorem dX0_isMissing_25 : decode cX0_isMissing 25 = .ok (.iload_n 1, 1) := by decide +kernel
theorem dX0_isMissing_26 : decode cX0_isMissing 26 = .ok (.iload_n 3, 1) := by decide +kernel
theorem dX0_isMissing_27 : decode cX0_isMissing 27 = .ok (.iand, 1) := by decide +kernel
theorem dX0_isMissing_28 : decode cX0_isMissing 28 = .ok (.ifCond .eq 18, 3) := by decide +kernel
theorem dX0_isMissing_31 : decode cX0_isMissing 31 = .ok (.aload_n 0, 1) := by decide +kernel
theorem dX0_isMissing_32 : decode cX0_isMissing 32 = .ok (.getfield 18, 3) := by decide +kernel
theorem dX0_isMissing_35 : decode cX0_isMissing 35 = .ok (.iload_n 1, 1) := by decide +kernel
theorem dX0_isMissing_36 : decode cX0_isMissing 36 = .ok (.iload_n 3, 1) := by decide +kernel
theorem dX0_isMissing_37 : decode cX0_isMissing 37 = .ok (.iconst (-1), 1) := by decide +kernel
theorem dX0_isMissing_38 : decode cX0_isMissing 38 = .ok (.ixor, 1) := by decide +kernel
theorem dX0_isMissing_39 : decode cX0_isMissing 39 = .ok (.iand, 1) := by decide +kernel
theorem dX0_isMissing_40 : decode cX0_isMissing 40 = .ok (.iaload, 1) := by decide +kernel
theorem dX0_isMissing_41 : decode cX0_isMissing 41 = .ok (.ifCond .ne 5, 3) := by decide +kernel
theorem dX0_isMissing_44 : decode cX0_isMissing 44 = .ok (.iconst 0, 1) := by decide +kernel
theorem dX0_isMissing_45 : decode cX0_isMissing 45 = .ok (.ireturn, 1) := by decide +kernel
theorem dX0_isMissing_46 : decode cX0_isMissing 46 = .ok (.iinc 2 1, 3) := by decide +kernel
theorem dX0_isMissing_49 : decode cX0_isMissing 49 = .ok (.goto (-36), 3) := by decide +kernel
theorem dX0_isMissing_52 : decode cX0_isMissing 52 = .ok (.iconst 1, 1) := by decide +kernel
theorem dX0_isMissing_53 : decode cX0_isMissing 53 = .ok (.ireturn, 1) := by decide +kernel
theorem dX0_countMissing_0 : decode cX0_countMissing 0 = .ok (.iconst 0, 1) := by decide +kernel
theorem dX0_countMissing_1 : decode cX0_countMissing 1 = .ok (.istore_n 1, 1) := by decide +kernel
theorem dX0_countMissing_2 : decode cX0_countMissing 2 = .ok (.iconst 0, 1) := by decide +kernel
theorem dX0_countMissing_3 : decode cX0_countMissing 3 = .ok (.istore_n 2, 1) := by decide +kernel
theorem dX0_countMissing_4 : decode cX0_countMissing 4 = .ok (.iload_n 2, 1) := by decide +kernel
theorem dX0_countMissing_5 : decode cX0_countMissing 5 = .ok (.aload_n 0, 1) := by decide +kernel
theorem dX0_countMissing_6 : decode cX0_countMissing 6 = .ok (.invokevirtual 62, 3) := by decide +kernel
theorem dX0_countMissing_9 : decode cX0_countMissing 9 = .ok (.if_icmp .gt 20, 3) := by decide +kernel
theorem dX0_countMissing_12 : decode cX0_countMissing 12 = .ok (.aload_n 0, 1) := by decide +kernel
theorem dX0_countMissing_13 : decode cX0_countMissing 13 = .ok (.iload_n 2, 1) := by decide +kernel
theorem dX0_countMissing_14 : decode cX0_countMissing 14 = .ok (.invokevirtual 72, 3) := by decide +kernel
theorem dX0_countMissing_17 : decode cX0_countMissing 17 = .ok (.ifCond .eq 6, 3) := by decide +kernel
theorem dX0_countMissing_20 : decode cX0_countMissing 20 = .ok (.iinc 1 1, 3) := by decide +kernel
theorem dX0_countMissing_23 : decode cX0_countMissing 23 = .ok (.iinc 2 1, 3) := by decide +kernel
theorem dX0_countMissing_26 : decode cX0_countMissing 26 = .ok (.goto (-22), 3) := by decide +kernel
theorem dX0_countMissing_29 : decode cX0_countMissing 29 = .ok (.iload_n 1, 1) := by decide +kernel
theorem dX0_countMissing_30 : decode cX0_countMissing 30 = .ok (.ireturn, 1) := by decide +kernel
theorem dX0_nthMissing_0 : decode cX0_nthMissing 0 = .ok (.aload_n 0, 1) := by decide +kernel
theorem dX0_nthMissing_1 : decode cX0_nthMissing 1 = .ok (.getfield 41, 3) := by decide +kernel
theorem dX0_nthMissing_4 : decode cX0_nthMissing 4 = .ok (.ifCond .eq 7, 3) := by decide +kernel
theorem dX0_nthMissing_7 : decode cX0_nthMissing 7 = .ok (.iload_n 1, 1) := by decide +kernel
theorem dX0_nthMissing_8 : decode cX0_nthMissing 8 = .ok (.ifCond .ge 5, 3) := by decide +kernel
theorem dX0_nthMissing_11 : decode cX0_nthMissing 11 = .ok (.iconst (-1), 1) := by decide +kernel
theorem dX0_nthMissing_12 : decode cX0_nthMissing 12 = .ok (.ireturn, 1) := by decide +kernel
theorem dX0_nthMissing_13 : decode cX0_nthMissing 13 = .ok (.iload_n 1, 1) := by decide +kernel
theorem dX0_nthMissing_14 : decode cX0_nthMissing 14 = .ok (.istore_n 2, 1) := by decide +kernel
theorem dX0_nthMissing_15 : decode cX0_nthMissing 15 = .ok (.iconst 0, 1) := by decide +kernel
theorem dX0_nthMissing_16 : decode cX0_nthMissing 16 = .ok (.istore_n 3, 1) := by decide +kernel
theorem dX0_nthMissing_17 : decode cX0_nthMissing 17 = .ok (.iload_n 3, 1) := by decide +kernel
theorem dX0_nthMissing_18 : decode cX0_nthMissing 18 = .ok (.aload_n 0, 1) := by decide +kernel
theorem dX0_nthMissing_19 : decode cX0_nthMissing 19 = .ok (.invokevirtual 62, 3) := by decide +kernel
theorem dX0_nthMissing_22 : decode cX0_nthMissing 22 = .ok (.if_icmp .gt 26, 3) := by decide +kernel
theorem dX0_nthMissing_25 : decode cX0_nthMissing 25 = .ok (.aload_n 0, 1) := by decide +kernel
theorem dX0_nthMissing_26 : decode cX0_nthMissing 26 = .ok (.iload_n 3, 1) := by decide +kernel
theorem dX0_nthMissing_27 : decode cX0_nthMissing 27 = .ok (.invokevirtual 72, 3) := by decide +kernel
theorem dX0_nthMissing_30 : decode cX0_nthMissing 30 = .ok (.ifCond .eq 12, 3) := by decide +kernel
theorem dX0_nthMissing_33 : decode cX0_nthMissing 33 = .ok (.iload_n 2, 1) := by decide +kernel
theorem dX0_nthMissing_34 : decode cX0_nthMissing 34 = .ok (.ifCond .ne 5, 3) := by decide +kernel
theorem dX0_nthMissing_37 : decode cX0_nthMissing 37 = .ok (.iload_n 3, 1) := by decide +kernel
theorem dX0_nthMissing_38 : decode cX0_nthMissing 38 = .ok (.ireturn, 1) := by decide +kernel
theorem dX0_nthMissing_39 : decode cX0_nthMissing 39 = .ok (.iinc 2 (-1), 3) := by decide +kernel
theorem dX0_nthMissing_42 : decode cX0_nthMissing 42 = .ok (.iinc 3 1, 3) := by decide +kernel
theorem dX0_nthMissing_45 : decode cX0_nthMissing 45 = .ok (.goto (-28), 3) := by decide +kernel
theorem dX0_nthMissing_48 : decode cX0_nthMissing 48 = .ok (.iconst (-1), 1) := by decide +kernel
theorem dX0_nthMissing_49 : decode cX0_nthMissing 49 = .ok (.ireturn, 1) := by decide +kernel
theorem dX0_neighbours_0 : decode cX0_neighbours 0 = .ok (.iconst 0, 1) := by decide +kernel
theorem dX0_neighbours_1 : decode cX0_neighbours 1 = .ok (.istore_n 2, 1) := by decide +kernel
theorem dX0_neighbours_2 : decode cX0_neighbours 2 = .ok (.iconst 0, 1) := by decide +kernel
theorem dX0_neighbours_3 : decode cX0_neighbours 3 = .ok (.istore_n 3, 1) := by decide +kernel
theorem dX0_neighbours_4 : decode cX0_neighbours 4 = .ok (.iload_n 3, 1) := by decide +kernel
theorem dX0_neighbours_5 : decode cX0_neighbours 5 = .ok (.aload_n 0, 1) := by decide +kernel
theorem dX0_neighbours_6 : decode cX0_neighbours 6 = .ok (.getfield 33, 3) := by decide +kernel
theorem dX0_neighbours_9 : decode cX0_neighbours 9 = .ok (.if_icmp .ge 23, 3) := by decide +kernel
theorem dX0_neighbours_12 : decode cX0_neighbours 12 = .ok (.iload_n 2, 1) := by decide +kernel
theorem dX0_neighbours_13 : decode cX0_neighbours 13 = .ok (.aload_n 0, 1) := by decide +kernel
theorem dX0_neighbours_14 : decode cX0_neighbours 14 = .ok (.getfield 21, 3) := by decide +kernel
theorem dX0_neighbours_17 : decode cX0_neighbours 17 = .ok (.iload_n 1, 1) := by decide +kernel
theorem dX0_neighbours_18 : decode cX0_neighbours 18 = .ok (.bipush 7, 2) := by decide +kernel
theorem dX0_neighbours_20 : decode cX0_neighbours 20 = .ok (.imul, 1) := by decide +kernel
theorem dX0_neighbours_21 : decode cX0_neighbours 21 = .ok (.iload_n 3, 1) := by decide +kernel
theorem dX0_neighbours_22 : decode cX0_neighbours 22 = .ok (.iadd, 1) := by decide +kernel
theorem dX0_neighbours_23 : decode cX0_neighbours 23 = .ok (.iaload, 1) := by decide +kernel
theorem dX0_neighbours_24 : decode cX0_neighbours 24 = .ok (.ior, 1) := by decide +kernel
theorem dX0_neighbours_25 : decode cX0_neighbours 25 = .ok (.istore_n 2, 1) := by decide +kernel
theorem dX0_neighbours_26 : decode cX0_neighbours 26 = .ok (.iinc 3 1, 3) := by decide +kernel
theorem dX0_neighbours_29 : decode cX0_neighbours 29 = .ok (.goto (-25), 3) := by decide +kernel
theorem dX0_neighbours_32 : decode cX0_neighbours 32 = .ok (.iload_n 2, 1) := by decide +kernel
theorem dX0_neighbours_33 : decode cX0_neighbours 33 = .ok (.ireturn, 1) := by decide +kernel
theorem dX0_steps_0 : decode cX0_steps 0 = .ok (.iconst 1, 1) := by decide +kernel
theorem dX0_steps_1 : decode cX0_steps 1 = .ok (.iload_n 1, 1) := by decide +kernel
theorem dX0_steps_2 : decode cX0_steps 2 = .ok (.ishl, 1) := by decide +kernel
theorem dX0_steps_3 : decode cX0_steps 3 = .ok (.istore_n 3, 1) := by decide +kernel
theorem dX0_steps_4 : decode cX0_steps 4 = .ok (.iconst 0, 1) := by decide +kernel
theorem dX0_steps_5 : decode cX0_steps 5 = .ok (.istore 4, 2) := by decide +kernel
theorem dX0_steps_7 : decode cX0_steps 7 = .ok (.iload 4, 2) := by decide +kernel
theorem dX0_steps_9 : decode cX0_steps 9 = .ok (.bipush 12, 2) := by decide +kernel
theorem dX0_steps_11 : decode cX0_steps 11 = .ok (.if_icmp .ge 66, 3) := by decide +kernel
theorem dX0_steps_14 : decode cX0_steps 14 = .ok (.iload_n 3, 1) := by decide +kernel
theorem dX0_steps_15 : decode cX0_steps 15 = .ok (.iload_n 2, 1) := by decide +kernel
theorem dX0_steps_16 : decode cX0_steps 16 = .ok (.ishr, 1) := by decide +kernel
theorem dX0_steps_17 : decode cX0_steps 17 = .ok (.iconst 1, 1) := by decide +kernel
theorem dX0_steps_18 : decode cX0_steps 18 = .ok (.iand, 1) := by decide +kernel
theorem dX0_steps_19 : decode cX0_steps 19 = .ok (.iconst 1, 1) := by decide +kernel
theorem dX0_steps_20 : decode cX0_steps 20 = .ok (.if_icmp .ne 6, 3) := by decide +kernel
theorem dX0_steps_23 : decode cX0_steps 23 = .ok (.iload 4, 2) := by decide +kernel
theorem dX0_steps_25 : decode cX0_steps 25 = .ok (.ireturn, 1) := by decide +kernel
theorem dX0_steps_26 : decode cX0_steps 26 = .ok (.iload_n 3, 1) := by decide +kernel
theorem dX0_steps_27 : decode cX0_steps 27 = .ok (.istore 5, 2) := by decide +kernel
theorem dX0_steps_29 : decode cX0_steps 29 = .ok (.iconst 0, 1) := by decide +kernel
theorem dX0_steps_30 : decode cX0_steps 30 = .ok (.istore 6, 2) := by decide +kernel
theorem dX0_steps_32 : decode cX0_steps 32 = .ok (.iload 6, 2) := by decide +kernel
theorem dX0_steps_34 : decode cX0_steps 34 = .ok (.aload_n 0, 1) := by decide +kernel
theorem dX0_steps_35 : decode cX0_steps 35 = .ok (.getfield 41, 3) := by decide +kernel
theorem dX0_steps_38 : decode cX0_steps 38 = .ok (.if_icmp .ge 30, 3) := by decide +kernel
theorem dX0_steps_41 : decode cX0_steps 41 = .ok (.iload_n 3, 1) := by decide +kernel
theorem dX0_steps_42 : decode cX0_steps 42 = .ok (.iload 6, 2) := by decide +kernel
theorem dX0_steps_44 : decode cX0_steps 44 = .ok (.ishr, 1) := by decide +kernel
theorem dX0_steps_45 : decode cX0_steps 45 = .ok (.iconst 1, 1) := by decide +kernel
theorem dX0_steps_46 : decode cX0_steps 46 = .ok (.iand, 1) := by decide +kernel
theorem dX0_steps_47 : decode cX0_steps 47 = .ok (.iconst 1, 1) := by decide +kernel
theorem dX0_steps_48 : decode cX0_steps 48 = .ok (.if_icmp .ne 14, 3) := by decide +kernel
theorem dX0_steps_51 : decode cX0_steps 51 = .ok (.iload 5, 2) := by decide +kernel
theorem dX0_steps_53 : decode cX0_steps 53 = .ok (.aload_n 0, 1) := by decide +kernel
theorem dX0_steps_54 : decode cX0_steps 54 = .ok (.iload 6, 2) := by decide +kernel
theorem dX0_steps_56 : decode cX0_steps 56 = .ok (.invokevirtual 75, 3) := by decide +kernel
theorem dX0_steps_59 : decode cX0_steps 59 = .ok (.ior, 1) := by decide +kernel
theorem dX0_steps_60 : decode cX0_steps 60 = .ok (.istore 5, 2) := by decide +kernel
theorem dX0_steps_62 : decode cX0_steps 62 = .ok (.iinc 6 1, 3) := by decide +kernel
theorem dX0_steps_65 : decode cX0_steps 65 = .ok (.goto (-33), 3) := by decide +kernel
theorem dX0_steps_68 : decode cX0_steps 68 = .ok (.iload 5, 2) := by decide +kernel
theorem dX0_steps_70 : decode cX0_steps 70 = .ok (.istore_n 3, 1) := by decide +kernel
theorem dX0_steps_71 : decode cX0_steps 71 = .ok (.iinc 4 1, 3) := by decide +kernel
theorem dX0_steps_74 : decode cX0_steps 74 = .ok (.goto (-67), 3) := by decide +kernel
theorem dX0_steps_77 : decode cX0_steps 77 = .ok (.bipush (-2), 2) := by decide +kernel
theorem dX0_steps_79 : decode cX0_steps 79 = .ok (.ireturn, 1) := by decide +kernel
theorem dX0_restriction_0 : decode cX0_restriction 0 = .ok (.iconst 0, 1) := by decide +kernel
theorem dX0_restriction_1 : decode cX0_restriction 1 = .ok (.istore_n 3, 1) := by decide +kernel
theorem dX0_restriction_2 : decode cX0_restriction 2 = .ok (.iconst 0, 1) := by decide +kernel
theorem dX0_restriction_3 : decode cX0_restriction 3 = .ok (.istore 4, 2) := by decide +kernel
theorem dX0_restriction_5 : decode cX0_restriction 5 = .ok (.iload 4, 2) := by decide +kernel
theorem dX0_restriction_7 : decode cX0_restriction 7 = .ok (.aload_n 0, 1) := by decide +kernel
theorem dX0_restriction_8 : decode cX0_restriction 8 = .ok (.getfield 33, 3) := by decide +kernel
theorem dX0_restriction_11 : decode cX0_restriction 11 = .ok (.if_icmp .ge 33, 3) := by decide +kernel
theorem dX0_restriction_14 : decode cX0_restriction 14 = .ok (.aload_n 0, 1) := by decide +kernel
theorem dX0_restriction_15 : decode cX0_restriction 15 = .ok (.getfield 21, 3) := by decide +kernel
theorem dX0_restriction_18 : decode cX0_restriction 18 = .ok (.iload_n 1, 1) := by decide +kernel
theorem dX0_restriction_19 : decode cX0_restriction 19 = .ok (.bipush 7, 2) := by decide +kernel
theorem dX0_restriction_21 : decode cX0_restriction 21 = .ok (.imul, 1) := by decide +kernel
theorem dX0_restriction_22 : decode cX0_restriction 22 = .ok (.iload 4, 2) := by decide +kernel
theorem dX0_restriction_24 : decode cX0_restriction 24 = .ok (.iadd, 1) := by decide +kernel
theorem dX0_restriction_25 : decode cX0_restriction 25 = .ok (.iaload, 1) := by decide +kernel
theorem dX0_restriction_26 : decode cX0_restriction 26 = .ok (.iload_n 2, 1) := by decide +kernel
theorem dX0_restriction_27 : decode cX0_restriction 27 = .ok (.iand, 1) := by decide +kernel
theorem dX0_restriction_28 : decode cX0_restriction 28 = .ok (.ifCond .eq 10, 3) := by decide +kernel
theorem dX0_restriction_31 : decode cX0_restriction 31 = .ok (.iload_n 3, 1) := by decide +kernel
theorem dX0_restriction_32 : decode cX0_restriction 32 = .ok (.iconst 1, 1) := by decide +kernel
theorem dX0_restriction_33 : decode cX0_restriction 33 = .ok (.iload 4, 2) := by decide +kernel
theorem dX0_restriction_35 : decode cX0_restriction 35 = .ok (.ishl, 1) := by decide +kernel
theorem dX0_restriction_36 : decode cX0_restriction 36 = .ok (.ior, 1) := by decide +kernel
theorem dX0_restriction_37 : decode cX0_restriction 37 = .ok (.istore_n 3, 1) := by decide +kernel
theorem dX0_restriction_38 : decode cX0_restriction 38 = .ok (.iinc 4 1, 3) := by decide +kernel
theorem dX0_restriction_41 : decode cX0_restriction 41 = .ok (.goto (-36), 3) := by decide +kernel
theorem dX0_restriction_44 : decode cX0_restriction 44 = .ok (.iload_n 3, 1) := by decide +kernel
theorem dX0_restriction_45 : decode cX0_restriction 45 = .ok (.ireturn, 1) := by decide +kernel
theorem dX0_fits_0 : decode cX0_fits 0 = .ok (.iload_n 2, 1) := by decide +kernel
theorem dX0_fits_1 : decode cX0_fits 1 = .ok (.istore_n 3, 1) := by decide +kernel
theorem dX0_fits_2 : decode cX0_fits 2 = .ok (.iconst 0, 1) := by decide +kernel
theorem dX0_fits_3 : decode cX0_fits 3 = .ok (.istore 4, 2) := by decide +kernel
theorem dX0_fits_5 : decode cX0_fits 5 = .ok (.iload 4, 2) := by decide +kernel
theorem dX0_fits_7 : decode cX0_fits 7 = .ok (.aload_n 0, 1) := by decide +kernel
theorem dX0_fits_8 : decode cX0_fits 8 = .ok (.getfield 33, 3) := by decide +kernel
theorem dX0_fits_11 : decode cX0_fits 11 = .ok (.if_icmp .ge 40, 3) := by decide +kernel
theorem dX0_fits_14 : decode cX0_fits 14 = .ok (.iload_n 3, 1) := by decide +kernel
theorem dX0_fits_15 : decode cX0_fits 15 = .ok (.ifCond .eq 36, 3) := by decide +kernel
theorem dX0_fits_18 : decode cX0_fits 18 = .ok (.aload_n 0, 1) := by decide +kernel
theorem dX0_fits_19 : decode cX0_fits 19 = .ok (.getfield 21, 3) := by decide +kernel
theorem dX0_fits_22 : decode cX0_fits 22 = .ok (.iload_n 1, 1) := by decide +kernel
theorem dX0_fits_23 : decode cX0_fits 23 = .ok (.bipush 7, 2) := by decide +kernel
theorem dX0_fits_25 : decode cX0_fits 25 = .ok (.imul, 1) := by decide +kernel
theorem dX0_fits_26 : decode cX0_fits 26 = .ok (.iload 4, 2) := by decide +kernel
theorem dX0_fits_28 : decode cX0_fits 28 = .ok (.iadd, 1) := by decide +kernel
theorem dX0_fits_29 : decode cX0_fits 29 = .ok (.iaload, 1) := by decide +kernel
theorem dX0_fits_30 : decode cX0_fits 30 = .ok (.iload_n 2, 1) := by decide +kernel
theorem dX0_fits_31 : decode cX0_fits 31 = .ok (.iand, 1) := by decide +kernel
theorem dX0_fits_32 : decode cX0_fits 32 = .ok (.ifCond .eq 13, 3) := by decide +kernel
theorem dX0_fits_35 : decode cX0_fits 35 = .ok (.iload_n 3, 1) := by decide +kernel
theorem dX0_fits_36 : decode cX0_fits 36 = .ok (.aload_n 0, 1) := by decide +kernel
theorem dX0_fits_37 : decode cX0_fits 37 = .ok (.getfield 15, 3) := by decide +kernel
theorem dX0_fits_40 : decode cX0_fits 40 = .ok (.iload 4, 2) := by decide +kernel
theorem dX0_fits_42 : decode cX0_fits 42 = .ok (.iaload, 1) := by decide +kernel
theorem dX0_fits_43 : decode cX0_fits 43 = .ok (.iand, 1) := by decide +kernel
theorem dX0_fits_44 : decode cX0_fits 44 = .ok (.istore_n 3, 1) := by decide +kernel
theorem dX0_fits_45 : decode cX0_fits 45 = .ok (.iinc 4 1, 3) := by decide +kernel
theorem dX0_fits_48 : decode cX0_fits 48 = .ok (.goto (-43), 3) := by decide +kernel
theorem dX0_fits_51 : decode cX0_fits 51 = .ok (.iload_n 3, 1) := by decide +kernel
theorem dX0_fits_52 : decode cX0_fits 52 = .ok (.ifCond .ne 7, 3) := by decide +kernel
theorem dX0_fits_55 : decode cX0_fits 55 = .ok (.iconst 1, 1) := by decide +kernel
theorem dX0_fits_56 : decode cX0_fits 56 = .ok (.goto 4, 3) := by decide +kernel
theorem dX0_fits_59 : decode cX0_fits 59 = .ok (.iconst 0, 1) := by decide +kernel
theorem dX0_fits_60 : decode cX0_fits 60 = .ok (.ireturn, 1) := by decide +kernel
theorem dX0_loose_0 : decode cX0_loose 0 = .ok (.iconst 0, 1) := by decide +kernel
theorem dX0_loose_1 : decode cX0_loose 1 = .ok (.istore_n 2, 1) := by decide +kernel
theorem dX0_loose_2 : decode cX0_loose 2 = .ok (.iconst 0, 1) := by decide +kernel
theorem dX0_loose_3 : decode cX0_loose 3 = .ok (.istore_n 3, 1) := by decide +kernel
theorem dX0_loose_4 : decode cX0_loose 4 = .ok (.iload_n 3, 1) := by decide +kernel
theorem dX0_loose_5 : decode cX0_loose 5 = .ok (.aload_n 0, 1) := by decide +kernel
theorem dX0_loose_6 : decode cX0_loose 6 = .ok (.getfield 41, 3) := by decide +kernel
theorem dX0_loose_9 : decode cX0_loose 9 = .ok (.if_icmp .ge 40, 3) := by decide +kernel
theorem dX0_loose_12 : decode cX0_loose 12 = .ok (.iconst 1, 1) := by decide +kernel
theorem dX0_loose_13 : decode cX0_loose 13 = .ok (.iload_n 3, 1) := by decide +kernel
theorem dX0_loose_14 : decode cX0_loose 14 = .ok (.ishl, 1) := by decide +kernel
theorem dX0_loose_15 : decode cX0_loose 15 = .ok (.istore 4, 2) := by decide +kernel
theorem dX0_loose_17 : decode cX0_loose 17 = .ok (.iload_n 1, 1) := by decide +kernel
theorem dX0_loose_18 : decode cX0_loose 18 = .ok (.iload 4, 2) := by decide +kernel
theorem dX0_loose_20 : decode cX0_loose 20 = .ok (.iand, 1) := by decide +kernel
theorem dX0_loose_21 : decode cX0_loose 21 = .ok (.ifCond .eq 22, 3) := by decide +kernel
theorem dX0_loose_24 : decode cX0_loose 24 = .ok (.aload_n 0, 1) := by decide +kernel
theorem dX0_loose_25 : decode cX0_loose 25 = .ok (.iload_n 3, 1) := by decide +kernel
theorem dX0_loose_26 : decode cX0_loose 26 = .ok (.iload_n 1, 1) := by decide +kernel
theorem dX0_loose_27 : decode cX0_loose 27 = .ok (.iload 4, 2) := by decide +kernel
theorem dX0_loose_29 : decode cX0_loose 29 = .ok (.iconst (-1), 1) := by decide +kernel
theorem dX0_loose_30 : decode cX0_loose 30 = .ok (.ixor, 1) := by decide +kernel
theorem dX0_loose_31 : decode cX0_loose 31 = .ok (.iand, 1) := by decide +kernel
theorem dX0_loose_32 : decode cX0_loose 32 = .ok (.invokevirtual 78, 3) := by decide +kernel
theorem dX0_loose_35 : decode cX0_loose 35 = .ok (.ifCond .eq 8, 3) := by decide +kernel
theorem dX0_loose_38 : decode cX0_loose 38 = .ok (.iload_n 2, 1) := by decide +kernel
theorem dX0_loose_39 : decode cX0_loose 39 = .ok (.iload 4, 2) := by decide +kernel
theorem dX0_loose_41 : decode cX0_loose 41 = .ok (.ior, 1) := by decide +kernel
theorem dX0_loose_42 : decode cX0_loose 42 = .ok (.istore_n 2, 1) := by decide +kernel
theorem dX0_loose_43 : decode cX0_loose 43 = .ok (.iinc 3 1, 3) := by decide +kernel
theorem dX0_loose_46 : decode cX0_loose 46 = .ok (.goto (-42), 3) := by decide +kernel
theorem dX0_loose_49 : decode cX0_loose 49 = .ok (.iload_n 2, 1) := by decide +kernel
theorem dX0_loose_50 : decode cX0_loose 50 = .ok (.ireturn, 1) := by decide +kernel
theorem dX0_peelByDraws_0 : decode cX0_peelByDraws 0 = .ok (.aload_n 0, 1) := by decide +kernel
theorem dX0_peelByDraws_1 : decode cX0_peelByDraws 1 = .ok (.invokevirtual 58, 3) := by decide +kernel
theorem dX0_peelByDraws_4 : decode cX0_peelByDraws 4 = .ok (.istore_n 2, 1) := by decide +kernel
theorem dX0_peelByDraws_5 : decode cX0_peelByDraws 5 = .ok (.iload_n 1, 1) := by decide +kernel
theorem dX0_peelByDraws_6 : decode cX0_peelByDraws 6 = .ok (.istore_n 3, 1) := by decide +kernel
theorem dX0_peelByDraws_7 : decode cX0_peelByDraws 7 = .ok (.iconst 0, 1) := by decide +kernel
theorem dX0_peelByDraws_8 : decode cX0_peelByDraws 8 = .ok (.istore 4, 2) := by decide +kernel
theorem dX0_peelByDraws_10 : decode cX0_peelByDraws 10 = .ok (.iload 4, 2) := by decide +kernel
theorem dX0_peelByDraws_12 : decode cX0_peelByDraws 12 = .ok (.bipush 12, 2) := by decide +kernel
theorem dX0_peelByDraws_14 : decode cX0_peelByDraws 14 = .ok (.if_icmp .ge 66, 3) := by decide +kernel
theorem dX0_peelByDraws_17 : decode cX0_peelByDraws 17 = .ok (.iload_n 2, 1) := by decide +kernel
theorem dX0_peelByDraws_18 : decode cX0_peelByDraws 18 = .ok (.invokestatic 43, 3) := by decide +kernel
theorem dX0_peelByDraws_21 : decode cX0_peelByDraws 21 = .ok (.iconst 1, 1) := by decide +kernel
theorem dX0_peelByDraws_22 : decode cX0_peelByDraws 22 = .ok (.if_icmp .le 58, 3) := by decide +kernel
theorem dX0_peelByDraws_25 : decode cX0_peelByDraws 25 = .ok (.aload_n 0, 1) := by decide +kernel
theorem dX0_peelByDraws_26 : decode cX0_peelByDraws 26 = .ok (.iload_n 2, 1) := by decide +kernel
theorem dX0_peelByDraws_27 : decode cX0_peelByDraws 27 = .ok (.invokevirtual 82, 3) := by decide +kernel
theorem dX0_peelByDraws_30 : decode cX0_peelByDraws 30 = .ok (.istore 5, 2) := by decide +kernel
theorem dX0_peelByDraws_32 : decode cX0_peelByDraws 32 = .ok (.iload 5, 2) := by decide +kernel
theorem dX0_peelByDraws_34 : decode cX0_peelByDraws 34 = .ok (.invokestatic 43, 3) := by decide +kernel
theorem dX0_peelByDraws_37 : decode cX0_peelByDraws 37 = .ok (.istore 6, 2) := by decide +kernel
theorem dX0_peelByDraws_39 : decode cX0_peelByDraws 39 = .ok (.iload 6, 2) := by decide +kernel
theorem dX0_peelByDraws_41 : decode cX0_peelByDraws 41 = .ok (.ifCond .ne 8, 3) := by decide +kernel
theorem dX0_peelByDraws_44 : decode cX0_peelByDraws 44 = .ok (.iload_n 2, 1) := by decide +kernel
theorem dX0_peelByDraws_45 : decode cX0_peelByDraws 45 = .ok (.invokestatic 43, 3) := by decide +kernel
theorem dX0_peelByDraws_48 : decode cX0_peelByDraws 48 = .ok (.ireturn, 1) := by decide +kernel
theorem dX0_peelByDraws_49 : decode cX0_peelByDraws 49 = .ok (.bipush 75, 2) := by decide +kernel
theorem dX0_peelByDraws_51 : decode cX0_peelByDraws 51 = .ok (.iload_n 3, 1) := by decide +kernel
theorem dX0_peelByDraws_52 : decode cX0_peelByDraws 52 = .ok (.imul, 1) := by decide +kernel
theorem dX0_peelByDraws_53 : decode cX0_peelByDraws 53 = .ok (.bipush 74, 2) := by decide +kernel
theorem dX0_peelByDraws_55 : decode cX0_peelByDraws 55 = .ok (.iadd, 1) := by decide +kernel
theorem dX0_peelByDraws_56 : decode cX0_peelByDraws 56 = .ok (.ldc 85, 2) := by decide +kernel
theorem dX0_peelByDraws_58 : decode cX0_peelByDraws 58 = .ok (.irem, 1) := by decide +kernel
theorem dX0_peelByDraws_59 : decode cX0_peelByDraws 59 = .ok (.istore_n 3, 1) := by decide +kernel
theorem dX0_peelByDraws_60 : decode cX0_peelByDraws 60 = .ok (.iload_n 2, 1) := by decide +kernel
theorem dX0_peelByDraws_61 : decode cX0_peelByDraws 61 = .ok (.iload 5, 2) := by decide +kernel
theorem dX0_peelByDraws_63 : decode cX0_peelByDraws 63 = .ok (.iload_n 3, 1) := by decide +kernel
theorem dX0_peelByDraws_64 : decode cX0_peelByDraws 64 = .ok (.iload 6, 2) := by decide +kernel
theorem dX0_peelByDraws_66 : decode cX0_peelByDraws 66 = .ok (.irem, 1) := by decide +kernel
theorem dX0_peelByDraws_67 : decode cX0_peelByDraws 67 = .ok (.invokestatic 86, 3) := by decide +kernel
theorem dX0_peelByDraws_70 : decode cX0_peelByDraws 70 = .ok (.iconst (-1), 1) := by decide +kernel
theorem dX0_peelByDraws_71 : decode cX0_peelByDraws 71 = .ok (.ixor, 1) := by decide +kernel
theorem dX0_peelByDraws_72 : decode cX0_peelByDraws 72 = .ok (.iand, 1) := by decide +kernel
theorem dX0_peelByDraws_73 : decode cX0_peelByDraws 73 = .ok (.istore_n 2, 1) := by decide +kernel
theorem dX0_peelByDraws_74 : decode cX0_peelByDraws 74 = .ok (.iinc 4 1, 3) := by decide +kernel
theorem dX0_peelByDraws_77 : decode cX0_peelByDraws 77 = .ok (.goto (-67), 3) := by decide +kernel
theorem dX0_peelByDraws_80 : decode cX0_peelByDraws 80 = .ok (.iload_n 2, 1) := by decide +kernel
theorem dX0_peelByDraws_81 : decode cX0_peelByDraws 81 = .ok (.invokestatic 43, 3) := by decide +kernel
theorem dX0_peelByDraws_84 : decode cX0_peelByDraws 84 = .ok (.ireturn, 1) := by decide +kernel
theorem dX0_nthBit_0 : decode cX0_nthBit 0 = .ok (.iload_n 0, 1) := by decide +kernel
theorem dX0_nthBit_1 : decode cX0_nthBit 1 = .ok (.istore_n 2, 1) := by decide +kernel
theorem dX0_nthBit_2 : decode cX0_nthBit 2 = .ok (.iconst 0, 1) := by decide +kernel
theorem dX0_nthBit_3 : decode cX0_nthBit 3 = .ok (.istore_n 3, 1) := by decide +kernel
theorem dX0_nthBit_4 : decode cX0_nthBit 4 = .ok (.iload_n 3, 1) := by decide +kernel
theorem dX0_nthBit_5 : decode cX0_nthBit 5 = .ok (.iload_n 1, 1) := by decide +kernel
theorem dX0_nthBit_6 : decode cX0_nthBit 6 = .ok (.if_icmp .ge 15, 3) := by decide +kernel
theorem dX0_nthBit_9 : decode cX0_nthBit 9 = .ok (.iload_n 2, 1) := by decide +kernel
theorem dX0_nthBit_10 : decode cX0_nthBit 10 = .ok (.iload_n 2, 1) := by decide +kernel
theorem dX0_nthBit_11 : decode cX0_nthBit 11 = .ok (.iconst 1, 1) := by decide +kernel
theorem dX0_nthBit_12 : decode cX0_nthBit 12 = .ok (.isub, 1) := by decide +kernel
theorem dX0_nthBit_13 : decode cX0_nthBit 13 = .ok (.iand, 1) := by decide +kernel
theorem dX0_nthBit_14 : decode cX0_nthBit 14 = .ok (.istore_n 2, 1) := by decide +kernel
theorem dX0_nthBit_15 : decode cX0_nthBit 15 = .ok (.iinc 3 1, 3) := by decide +kernel
theorem dX0_nthBit_18 : decode cX0_nthBit 18 = .ok (.goto (-14), 3) := by decide +kernel
theorem dX0_nthBit_21 : decode cX0_nthBit 21 = .ok (.iload_n 2, 1) := by decide +kernel
theorem dX0_nthBit_22 : decode cX0_nthBit 22 = .ok (.iload_n 2, 1) := by decide +kernel
theorem dX0_nthBit_23 : decode cX0_nthBit 23 = .ok (.ineg, 1) := by decide +kernel
theorem dX0_nthBit_24 : decode cX0_nthBit 24 = .ok (.iand, 1) := by decide +kernel
theorem dX0_nthBit_25 : decode cX0_nthBit 25 = .ok (.ireturn, 1) := by decide +kernel
theorem dX0_canLose_0 : decode cX0_canLose 0 = .ok (.iload_n 1, 1) := by decide +kernel
theorem dX0_canLose_1 : decode cX0_canLose 1 = .ok (.aload_n 0, 1) := by decide +kernel
theorem dX0_canLose_2 : decode cX0_canLose 2 = .ok (.getfield 15, 3) := by decide +kernel
theorem dX0_canLose_5 : decode cX0_canLose 5 = .ok (.iload_n 2, 1) := by decide +kernel
theorem dX0_canLose_6 : decode cX0_canLose 6 = .ok (.iaload, 1) := by decide +kernel
theorem dX0_canLose_7 : decode cX0_canLose 7 = .ok (.iand, 1) := by decide +kernel
theorem dX0_canLose_8 : decode cX0_canLose 8 = .ok (.istore_n 3, 1) := by decide +kernel
theorem dX0_canLose_9 : decode cX0_canLose 9 = .ok (.iload_n 1, 1) := by decide +kernel
theorem dX0_canLose_10 : decode cX0_canLose 10 = .ok (.aload_n 0, 1) := by decide +kernel
theorem dX0_canLose_11 : decode cX0_canLose 11 = .ok (.getfield 15, 3) := by decide +kernel
theorem dX0_canLose_14 : decode cX0_canLose 14 = .ok (.iload_n 2, 1) := by decide +kernel
theorem dX0_canLose_15 : decode cX0_canLose 15 = .ok (.iaload, 1) := by decide +kernel
theorem dX0_canLose_16 : decode cX0_canLose 16 = .ok (.iconst (-1), 1) := by decide +kernel
theorem dX0_canLose_17 : decode cX0_canLose 17 = .ok (.ixor, 1) := by decide +kernel
theorem dX0_canLose_18 : decode cX0_canLose 18 = .ok (.iand, 1) := by decide +kernel
theorem dX0_canLose_19 : decode cX0_canLose 19 = .ok (.istore 4, 2) := by decide +kernel
theorem dX0_canLose_21 : decode cX0_canLose 21 = .ok (.iload_n 3, 1) := by decide +kernel
theorem dX0_canLose_22 : decode cX0_canLose 22 = .ok (.ifCond .eq 8, 3) := by decide +kernel
theorem dX0_canLose_25 : decode cX0_canLose 25 = .ok (.iload 4, 2) := by decide +kernel
theorem dX0_canLose_27 : decode cX0_canLose 27 = .ok (.ifCond .ne 5, 3) := by decide +kernel
theorem dX0_canLose_30 : decode cX0_canLose 30 = .ok (.iconst 0, 1) := by decide +kernel
theorem dX0_canLose_31 : decode cX0_canLose 31 = .ok (.ireturn, 1) := by decide +kernel
theorem dX0_canLose_32 : decode cX0_canLose 32 = .ok (.iconst 0, 1) := by decide +kernel
theorem dX0_canLose_33 : decode cX0_canLose 33 = .ok (.istore 5, 2) := by decide +kernel
theorem dX0_canLose_35 : decode cX0_canLose 35 = .ok (.iload 5, 2) := by decide +kernel
theorem dX0_canLose_37 : decode cX0_canLose 37 = .ok (.aload_n 0, 1) := by decide +kernel
theorem dX0_canLose_38 : decode cX0_canLose 38 = .ok (.getfield 41, 3) := by decide +kernel
theorem dX0_canLose_41 : decode cX0_canLose 41 = .ok (.if_icmp .ge 39, 3) := by decide +kernel
theorem dX0_canLose_44 : decode cX0_canLose 44 = .ok (.iload_n 3, 1) := by decide +kernel
theorem dX0_canLose_45 : decode cX0_canLose 45 = .ok (.iload 5, 2) := by decide +kernel
theorem dX0_canLose_47 : decode cX0_canLose 47 = .ok (.ishr, 1) := by decide +kernel
theorem dX0_canLose_48 : decode cX0_canLose 48 = .ok (.iconst 1, 1) := by decide +kernel
theorem dX0_canLose_49 : decode cX0_canLose 49 = .ok (.iand, 1) := by decide +kernel
theorem dX0_canLose_50 : decode cX0_canLose 50 = .ok (.iconst 1, 1) := by decide +kernel
theorem dX0_canLose_51 : decode cX0_canLose 51 = .ok (.if_icmp .ne 23, 3) := by decide +kernel
theorem dX0_canLose_54 : decode cX0_canLose 54 = .ok (.aload_n 0, 1) := by decide +kernel
theorem dX0_canLose_55 : decode cX0_canLose 55 = .ok (.getfield 21, 3) := by decide +kernel
theorem dX0_canLose_58 : decode cX0_canLose 58 = .ok (.iload 5, 2) := by decide +kernel
theorem dX0_canLose_60 : decode cX0_canLose 60 = .ok (.bipush 7, 2) := by decide +kernel
theorem dX0_canLose_62 : decode cX0_canLose 62 = .ok (.imul, 1) := by decide +kernel
theorem dX0_canLose_63 : decode cX0_canLose 63 = .ok (.iload_n 2, 1) := by decide +kernel
theorem dX0_canLose_64 : decode cX0_canLose 64 = .ok (.iadd, 1) := by decide +kernel
theorem dX0_canLose_65 : decode cX0_canLose 65 = .ok (.iaload, 1) := by decide +kernel
theorem dX0_canLose_66 : decode cX0_canLose 66 = .ok (.iload 4, 2) := by decide +kernel
theorem dX0_canLose_68 : decode cX0_canLose 68 = .ok (.iand, 1) := by decide +kernel
theorem dX0_canLose_69 : decode cX0_canLose 69 = .ok (.ifCond .ne 5, 3) := by decide +kernel
theorem dX0_canLose_72 : decode cX0_canLose 72 = .ok (.iconst 0, 1) := by decide +kernel
theorem dX0_canLose_73 : decode cX0_canLose 73 = .ok (.ireturn, 1) := by decide +kernel
theorem dX0_canLose_74 : decode cX0_canLose 74 = .ok (.iinc 5 1, 3) := by decide +kernel
theorem dX0_canLose_77 : decode cX0_canLose 77 = .ok (.goto (-42), 3) := by decide +kernel
theorem dX0_canLose_80 : decode cX0_canLose 80 = .ok (.iconst 1, 1) := by decide +kernel
theorem dX0_canLose_81 : decode cX0_canLose 81 = .ok (.ireturn, 1) := by decide +kernel
theorem dX1_init_0 : decode cX1_init 0 = .ok (.aload_n 0, 1) := by decide +kernel
theorem dX1_init_1 : decode cX1_init 1 = .ok (.invokespecial 3, 3) := by decide +kernel
theorem dX1_init_4 : decode cX1_init 4 = .ok (.aload_n 0, 1) := by decide +kernel
theorem dX1_init_5 : decode cX1_init 5 = .ok (.sipush 128, 3) := by decide +kernel
theorem dX1_init_8 : decode cX1_init 8 = .ok (.newarray .int, 2) := by decide +kernel
theorem dX1_init_10 : decode cX1_init 10 = .ok (.putfield 9, 3) := by decide +kernel
theorem dX1_init_13 : decode cX1_init 13 = .ok (.aload_n 0, 1) := by decide +kernel
theorem dX1_init_14 : decode cX1_init 14 = .ok (.sipush 128, 3) := by decide +kernel
theorem dX1_init_17 : decode cX1_init 17 = .ok (.newarray .boolean, 2) := by decide +kernel
theorem dX1_init_19 : decode cX1_init 19 = .ok (.putfield 15, 3) := by decide +kernel
theorem dX1_init_22 : decode cX1_init 22 = .ok (.aload_n 0, 1) := by decide +kernel
theorem dX1_init_23 : decode cX1_init 23 = .ok (.bipush 35, 2) := by decide +kernel
theorem dX1_init_25 : decode cX1_init 25 = .ok (.newarray .long, 2) := by decide +kernel
theorem dX1_init_27 : decode cX1_init 27 = .ok (.putfield 19, 3) := by decide +kernel
theorem dX1_init_30 : decode cX1_init 30 = .ok (.aload_n 0, 1) := by decide +kernel
theorem dX1_init_31 : decode cX1_init 31 = .ok (.bipush 35, 2) := by decide +kernel
theorem dX1_init_33 : decode cX1_init 33 = .ok (.newarray .int, 2) := by decide +kernel
theorem dX1_init_35 : decode cX1_init 35 = .ok (.putfield 23, 3) := by decide +kernel
theorem dX1_init_38 : decode cX1_init 38 = .ok (.bipush 8, 2) := by decide +kernel
theorem dX1_init_40 : decode cX1_init 40 = .ok (.newarray .int, 2) := by decide +kernel
theorem dX1_init_42 : decode cX1_init 42 = .ok (.astore_n 1, 1) := by decide +kernel
theorem dX1_init_43 : decode cX1_init 43 = .ok (.iconst 0, 1) := by decide +kernel
theorem dX1_init_44 : decode cX1_init 44 = .ok (.istore_n 2, 1) := by decide +kernel
theorem dX1_init_45 : decode cX1_init 45 = .ok (.iload_n 2, 1) := by decide +kernel
theorem dX1_init_46 : decode cX1_init 46 = .ok (.sipush 128, 3) := by decide +kernel
theorem dX1_init_49 : decode cX1_init 49 = .ok (.if_icmp .ge 30, 3) := by decide +kernel
theorem dX1_init_52 : decode cX1_init 52 = .ok (.iload_n 2, 1) := by decide +kernel
theorem dX1_init_53 : decode cX1_init 53 = .ok (.invokestatic 26, 3) := by decide +kernel
theorem dX1_init_56 : decode cX1_init 56 = .ok (.istore_n 3, 1) := by decide +kernel
theorem dX1_init_57 : decode cX1_init 57 = .ok (.aload_n 0, 1) := by decide +kernel
theorem dX1_init_58 : decode cX1_init 58 = .ok (.getfield 9, 3) := by decide +kernel
theorem dX1_init_61 : decode cX1_init 61 = .ok (.iload_n 2, 1) := by decide +kernel
theorem dX1_init_62 : decode cX1_init 62 = .ok (.aload_n 1, 1) := by decide +kernel
theorem dX1_init_63 : decode cX1_init 63 = .ok (.iload_n 3, 1) := by decide +kernel
theorem dX1_init_64 : decode cX1_init 64 = .ok (.iaload, 1) := by decide +kernel
theorem dX1_init_65 : decode cX1_init 65 = .ok (.iastore, 1) := by decide +kernel
theorem dX1_init_66 : decode cX1_init 66 = .ok (.aload_n 1, 1) := by decide +kernel
theorem dX1_init_67 : decode cX1_init 67 = .ok (.iload_n 3, 1) := by decide +kernel
theorem dX1_init_68 : decode cX1_init 68 = .ok (.dup2, 1) := by decide +kernel
theorem dX1_init_69 : decode cX1_init 69 = .ok (.iaload, 1) := by decide +kernel
theorem dX1_init_70 : decode cX1_init 70 = .ok (.iconst 1, 1) := by decide +kernel
theorem dX1_init_71 : decode cX1_init 71 = .ok (.iadd, 1) := by decide +kernel
theorem dX1_init_72 : decode cX1_init 72 = .ok (.iastore, 1) := by decide +kernel
theorem dX1_init_73 : decode cX1_init 73 = .ok (.iinc 2 1, 3) := by decide +kernel
theorem dX1_init_76 : decode cX1_init 76 = .ok (.goto (-31), 3) := by decide +kernel
theorem dX1_init_79 : decode cX1_init 79 = .ok (.return_, 1) := by decide +kernel
theorem dX1_takeFaces_0 : decode cX1_takeFaces 0 = .ok (.aload_n 0, 1) := by decide +kernel
theorem dX1_takeFaces_1 : decode cX1_takeFaces 1 = .ok (.aload_n 1, 1) := by decide +kernel
theorem dX1_takeFaces_2 : decode cX1_takeFaces 2 = .ok (.iconst 0, 1) := by decide +kernel
theorem dX1_takeFaces_3 : decode cX1_takeFaces 3 = .ok (.invokevirtual 32, 3) := by decide +kernel
theorem dX1_takeFaces_6 : decode cX1_takeFaces 6 = .ok (.return_, 1) := by decide +kernel
theorem dX1_takeLink_0 : decode cX1_takeLink 0 = .ok (.aload_n 0, 1) := by decide +kernel
theorem dX1_takeLink_1 : decode cX1_takeLink 1 = .ok (.aload_n 1, 1) := by decide +kernel
theorem dX1_takeLink_2 : decode cX1_takeLink 2 = .ok (.invokevirtual 36, 3) := by decide +kernel
theorem dX1_takeLink_5 : decode cX1_takeLink 5 = .ok (.putfield 42, 3) := by decide +kernel
theorem dX1_takeLink_8 : decode cX1_takeLink 8 = .ok (.iconst 0, 1) := by decide +kernel
theorem dX1_takeLink_9 : decode cX1_takeLink 9 = .ok (.istore_n 3, 1) := by decide +kernel
theorem dX1_takeLink_10 : decode cX1_takeLink 10 = .ok (.iload_n 3, 1) := by decide +kernel
theorem dX1_takeLink_11 : decode cX1_takeLink 11 = .ok (.aload_n 0, 1) := by decide +kernel
theorem dX1_takeLink_12 : decode cX1_takeLink 12 = .ok (.getfield 42, 3) := by decide +kernel
theorem dX1_takeLink_15 : decode cX1_takeLink 15 = .ok (.if_icmp .gt 36, 3) := by decide +kernel
theorem dX1_takeLink_18 : decode cX1_takeLink 18 = .ok (.aload_n 0, 1) := by decide +kernel
theorem dX1_takeLink_19 : decode cX1_takeLink 19 = .ok (.getfield 15, 3) := by decide +kernel
theorem dX1_takeLink_22 : decode cX1_takeLink 22 = .ok (.iload_n 3, 1) := by decide +kernel
theorem dX1_takeLink_23 : decode cX1_takeLink 23 = .ok (.iload_n 3, 1) := by decide +kernel
theorem dX1_takeLink_24 : decode cX1_takeLink 24 = .ok (.iload_n 2, 1) := by decide +kernel
theorem dX1_takeLink_25 : decode cX1_takeLink 25 = .ok (.iand, 1) := by decide +kernel
theorem dX1_takeLink_26 : decode cX1_takeLink 26 = .ok (.ifCond .ne 17, 3) := by decide +kernel
theorem dX1_takeLink_29 : decode cX1_takeLink 29 = .ok (.aload_n 1, 1) := by decide +kernel
theorem dX1_takeLink_30 : decode cX1_takeLink 30 = .ok (.iload_n 3, 1) := by decide +kernel
theorem dX1_takeLink_31 : decode cX1_takeLink 31 = .ok (.iload_n 2, 1) := by decide +kernel
theorem dX1_takeLink_32 : decode cX1_takeLink 32 = .ok (.ior, 1) := by decide +kernel
theorem dX1_takeLink_33 : decode cX1_takeLink 33 = .ok (.invokevirtual 46, 3) := by decide +kernel
theorem dX1_takeLink_36 : decode cX1_takeLink 36 = .ok (.ifCond .eq 7, 3) := by decide +kernel
theorem dX1_takeLink_39 : decode cX1_takeLink 39 = .ok (.iconst 1, 1) := by decide +kernel
theorem dX1_takeLink_40 : decode cX1_takeLink 40 = .ok (.goto 4, 3) := by decide +kernel
theorem dX1_takeLink_43 : decode cX1_takeLink 43 = .ok (.iconst 0, 1) := by decide +kernel
theorem dX1_takeLink_44 : decode cX1_takeLink 44 = .ok (.bastore, 1) := by decide +kernel
theorem dX1_takeLink_45 : decode cX1_takeLink 45 = .ok (.iinc 3 1, 3) := by decide +kernel
theorem dX1_takeLink_48 : decode cX1_takeLink 48 = .ok (.goto (-38), 3) := by decide +kernel
theorem dX1_takeLink_51 : decode cX1_takeLink 51 = .ok (.return_, 1) := by decide +kernel
theorem dX1_takeDual_0 : decode cX1_takeDual 0 = .ok (.aload_n 0, 1) := by decide +kernel
theorem dX1_takeDual_1 : decode cX1_takeDual 1 = .ok (.aload_n 1, 1) := by decide +kernel
theorem dX1_takeDual_2 : decode cX1_takeDual 2 = .ok (.invokevirtual 36, 3) := by decide +kernel
theorem dX1_takeDual_5 : decode cX1_takeDual 5 = .ok (.putfield 42, 3) := by decide +kernel
theorem dX1_takeDual_8 : decode cX1_takeDual 8 = .ok (.iconst 0, 1) := by decide +kernel
theorem dX1_takeDual_9 : decode cX1_takeDual 9 = .ok (.istore_n 2, 1) := by decide +kernel
theorem dX1_takeDual_10 : decode cX1_takeDual 10 = .ok (.iload_n 2, 1) := by decide +kernel
theorem dX1_takeDual_11 : decode cX1_takeDual 11 = .ok (.aload_n 0, 1) := by decide +kernel
theorem dX1_takeDual_12 : decode cX1_takeDual 12 = .ok (.getfield 42, 3) := by decide +kernel
theorem dX1_takeDual_15 : decode cX1_takeDual 15 = .ok (.if_icmp .gt 35, 3) := by decide +kernel
theorem dX1_takeDual_18 : decode cX1_takeDual 18 = .ok (.aload_n 0, 1) := by decide +kernel
theorem dX1_takeDual_19 : decode cX1_takeDual 19 = .ok (.getfield 15, 3) := by decide +kernel
theorem dX1_takeDual_22 : decode cX1_takeDual 22 = .ok (.iload_n 2, 1) := by decide +kernel
theorem dX1_takeDual_23 : decode cX1_takeDual 23 = .ok (.aload_n 1, 1) := by decide +kernel
theorem dX1_takeDual_24 : decode cX1_takeDual 24 = .ok (.aload_n 0, 1) := by decide +kernel
theorem dX1_takeDual_25 : decode cX1_takeDual 25 = .ok (.getfield 42, 3) := by decide +kernel
theorem dX1_takeDual_28 : decode cX1_takeDual 28 = .ok (.iload_n 2, 1) := by decide +kernel
theorem dX1_takeDual_29 : decode cX1_takeDual 29 = .ok (.iconst (-1), 1) := by decide +kernel
theorem dX1_takeDual_30 : decode cX1_takeDual 30 = .ok (.ixor, 1) := by decide +kernel
theorem dX1_takeDual_31 : decode cX1_takeDual 31 = .ok (.iand, 1) := by decide +kernel
theorem dX1_takeDual_32 : decode cX1_takeDual 32 = .ok (.invokevirtual 46, 3) := by decide +kernel
theorem dX1_takeDual_35 : decode cX1_takeDual 35 = .ok (.ifCond .ne 7, 3) := by decide +kernel
theorem dX1_takeDual_38 : decode cX1_takeDual 38 = .ok (.iconst 1, 1) := by decide +kernel
theorem dX1_takeDual_39 : decode cX1_takeDual 39 = .ok (.goto 4, 3) := by decide +kernel
theorem dX1_takeDual_42 : decode cX1_takeDual 42 = .ok (.iconst 0, 1) := by decide +kernel
theorem dX1_takeDual_43 : decode cX1_takeDual 43 = .ok (.bastore, 1) := by decide +kernel
theorem dX1_takeDual_44 : decode cX1_takeDual 44 = .ok (.iinc 2 1, 3) := by decide +kernel
theorem dX1_takeDual_47 : decode cX1_takeDual 47 = .ok (.goto (-37), 3) := by decide +kernel
theorem dX1_takeDual_50 : decode cX1_takeDual 50 = .ok (.return_, 1) := by decide +kernel
theorem dX1_clear_0 : decode cX1_clear 0 = .ok (.iconst 0, 1) := by decide +kernel
theorem dX1_clear_1 : decode cX1_clear 1 = .ok (.istore_n 1, 1) := by decide +kernel
theorem dX1_clear_2 : decode cX1_clear 2 = .ok (.iload_n 1, 1) := by decide +kernel
theorem dX1_clear_3 : decode cX1_clear 3 = .ok (.bipush 35, 2) := by decide +kernel
theorem dX1_clear_5 : decode cX1_clear 5 = .ok (.if_icmp .ge 23, 3) := by decide +kernel
theorem dX1_clear_8 : decode cX1_clear 8 = .ok (.aload_n 0, 1) := by decide +kernel
theorem dX1_clear_9 : decode cX1_clear 9 = .ok (.getfield 19, 3) := by decide +kernel
theorem dX1_clear_12 : decode cX1_clear 12 = .ok (.iload_n 1, 1) := by decide +kernel
theorem dX1_clear_13 : decode cX1_clear 13 = .ok (.lconst 0, 1) := by decide +kernel
theorem dX1_clear_14 : decode cX1_clear 14 = .ok (.lastore, 1) := by decide +kernel
theorem dX1_clear_15 : decode cX1_clear 15 = .ok (.aload_n 0, 1) := by decide +kernel
theorem dX1_clear_16 : decode cX1_clear 16 = .ok (.getfield 23, 3) := by decide +kernel
theorem dX1_clear_19 : decode cX1_clear 19 = .ok (.iload_n 1, 1) := by decide +kernel
theorem dX1_clear_20 : decode cX1_clear 20 = .ok (.iconst 0, 1) := by decide +kernel
theorem dX1_clear_21 : decode cX1_clear 21 = .ok (.iastore, 1) := by decide +kernel
theorem dX1_clear_22 : decode cX1_clear 22 = .ok (.iinc 1 1, 3) := by decide +kernel
theorem dX1_clear_25 : decode cX1_clear 25 = .ok (.goto (-23), 3) := by decide +kernel
theorem dX1_clear_28 : decode cX1_clear 28 = .ok (.return_, 1) := by decide +kernel
theorem dX1_rowOf_0 : decode cX1_rowOf 0 = .ok (.lconst 0, 1) := by decide +kernel
theorem dX1_rowOf_1 : decode cX1_rowOf 1 = .ok (.lstore_n 2, 1) := by decide +kernel
theorem dX1_rowOf_2 : decode cX1_rowOf 2 = .ok (.iconst 0, 1) := by decide +kernel
theorem dX1_rowOf_3 : decode cX1_rowOf 3 = .ok (.istore 4, 2) := by decide +kernel
theorem dX1_rowOf_5 : decode cX1_rowOf 5 = .ok (.iload 4, 2) := by decide +kernel
theorem dX1_rowOf_7 : decode cX1_rowOf 7 = .ok (.bipush 7, 2) := by decide +kernel
theorem dX1_rowOf_9 : decode cX1_rowOf 9 = .ok (.if_icmp .ge 38, 3) := by decide +kernel
theorem dX1_rowOf_12 : decode cX1_rowOf 12 = .ok (.iconst 1, 1) := by decide +kernel
theorem dX1_rowOf_13 : decode cX1_rowOf 13 = .ok (.iload 4, 2) := by decide +kernel
theorem dX1_rowOf_15 : decode cX1_rowOf 15 = .ok (.ishl, 1) := by decide +kernel
theorem dX1_rowOf_16 : decode cX1_rowOf 16 = .ok (.istore 5, 2) := by decide +kernel
theorem dX1_rowOf_18 : decode cX1_rowOf 18 = .ok (.iload_n 1, 1) := by decide +kernel
theorem dX1_rowOf_19 : decode cX1_rowOf 19 = .ok (.iload 5, 2) := by decide +kernel
theorem dX1_rowOf_21 : decode cX1_rowOf 21 = .ok (.iand, 1) := by decide +kernel
theorem dX1_rowOf_22 : decode cX1_rowOf 22 = .ok (.ifCond .eq 19, 3) := by decide +kernel
theorem dX1_rowOf_25 : decode cX1_rowOf 25 = .ok (.lload_n 2, 1) := by decide +kernel
theorem dX1_rowOf_26 : decode cX1_rowOf 26 = .ok (.lconst 1, 1) := by decide +kernel
theorem dX1_rowOf_27 : decode cX1_rowOf 27 = .ok (.aload_n 0, 1) := by decide +kernel
theorem dX1_rowOf_28 : decode cX1_rowOf 28 = .ok (.getfield 9, 3) := by decide +kernel
theorem dX1_rowOf_31 : decode cX1_rowOf 31 = .ok (.iload_n 1, 1) := by decide +kernel
theorem dX1_rowOf_32 : decode cX1_rowOf 32 = .ok (.iload 5, 2) := by decide +kernel
theorem dX1_rowOf_34 : decode cX1_rowOf 34 = .ok (.iconst (-1), 1) := by decide +kernel
theorem dX1_rowOf_35 : decode cX1_rowOf 35 = .ok (.ixor, 1) := by decide +kernel
theorem dX1_rowOf_36 : decode cX1_rowOf 36 = .ok (.iand, 1) := by decide +kernel
theorem dX1_rowOf_37 : decode cX1_rowOf 37 = .ok (.iaload, 1) := by decide +kernel
theorem dX1_rowOf_38 : decode cX1_rowOf 38 = .ok (.lshl, 1) := by decide +kernel
theorem dX1_rowOf_39 : decode cX1_rowOf 39 = .ok (.lor, 1) := by decide +kernel
theorem dX1_rowOf_40 : decode cX1_rowOf 40 = .ok (.lstore_n 2, 1) := by decide +kernel
theorem dX1_rowOf_41 : decode cX1_rowOf 41 = .ok (.iinc 4 1, 3) := by decide +kernel
theorem dX1_rowOf_44 : decode cX1_rowOf 44 = .ok (.goto (-39), 3) := by decide +kernel
theorem dX1_rowOf_47 : decode cX1_rowOf 47 = .ok (.lload_n 2, 1) := by decide +kernel
theorem dX1_rowOf_48 : decode cX1_rowOf 48 = .ok (.lreturn, 1) := by decide +kernel
theorem dX1_settle_0 : decode cX1_settle 0 = .ok (.lload_n 1, 1) := by decide +kernel
theorem dX1_settle_1 : decode cX1_settle 1 = .ok (.lstore 4, 2) := by decide +kernel
theorem dX1_settle_3 : decode cX1_settle 3 = .ok (.aload_n 0, 1) := by decide +kernel
theorem dX1_settle_4 : decode cX1_settle 4 = .ok (.iload_n 3, 1) := by decide +kernel
theorem dX1_settle_5 : decode cX1_settle 5 = .ok (.putfield 50, 3) := by decide +kernel
theorem dX1_settle_8 : decode cX1_settle 8 = .ok (.bipush 34, 2) := by decide +kernel
theorem dX1_settle_10 : decode cX1_settle 10 = .ok (.istore 6, 2) := by decide +kernel
theorem dX1_settle_12 : decode cX1_settle 12 = .ok (.iload 6, 2) := by decide +kernel
theorem dX1_settle_14 : decode cX1_settle 14 = .ok (.ifCond .lt 90, 3) := by decide +kernel
theorem dX1_settle_17 : decode cX1_settle 17 = .ok (.lload 4, 2) := by decide +kernel
theorem dX1_settle_19 : decode cX1_settle 19 = .ok (.lconst 0, 1) := by decide +kernel
theorem dX1_settle_20 : decode cX1_settle 20 = .ok (.lcmp, 1) := by decide +kernel
theorem dX1_settle_21 : decode cX1_settle 21 = .ok (.ifCond .eq 83, 3) := by decide +kernel
theorem dX1_settle_24 : decode cX1_settle 24 = .ok (.lload 4, 2) := by decide +kernel
theorem dX1_settle_26 : decode cX1_settle 26 = .ok (.iload 6, 2) := by decide +kernel
theorem dX1_settle_28 : decode cX1_settle 28 = .ok (.lushr, 1) := by decide +kernel
theorem dX1_settle_29 : decode cX1_settle 29 = .ok (.lconst 1, 1) := by decide +kernel
theorem dX1_settle_30 : decode cX1_settle 30 = .ok (.land, 1) := by decide +kernel
theorem dX1_settle_31 : decode cX1_settle 31 = .ok (.lconst 1, 1) := by decide +kernel
theorem dX1_settle_32 : decode cX1_settle 32 = .ok (.lcmp, 1) := by decide +kernel
theorem dX1_settle_33 : decode cX1_settle 33 = .ok (.ifCond .ne 65, 3) := by decide +kernel
theorem dX1_settle_36 : decode cX1_settle 36 = .ok (.aload_n 0, 1) := by decide +kernel
theorem dX1_settle_37 : decode cX1_settle 37 = .ok (.getfield 19, 3) := by decide +kernel
theorem dX1_settle_40 : decode cX1_settle 40 = .ok (.iload 6, 2) := by decide +kernel
theorem dX1_settle_42 : decode cX1_settle 42 = .ok (.laload, 1) := by decide +kernel
theorem dX1_settle_43 : decode cX1_settle 43 = .ok (.lconst 0, 1) := by decide +kernel
theorem dX1_settle_44 : decode cX1_settle 44 = .ok (.lcmp, 1) := by decide +kernel
theorem dX1_settle_45 : decode cX1_settle 45 = .ok (.ifCond .ne 25, 3) := by decide +kernel
theorem dX1_settle_48 : decode cX1_settle 48 = .ok (.aload_n 0, 1) := by decide +kernel
theorem dX1_settle_49 : decode cX1_settle 49 = .ok (.getfield 19, 3) := by decide +kernel
theorem dX1_settle_52 : decode cX1_settle 52 = .ok (.iload 6, 2) := by decide +kernel
theorem dX1_settle_54 : decode cX1_settle 54 = .ok (.lload 4, 2) := by decide +kernel
theorem dX1_settle_56 : decode cX1_settle 56 = .ok (.lastore, 1) := by decide +kernel
theorem dX1_settle_57 : decode cX1_settle 57 = .ok (.aload_n 0, 1) := by decide +kernel
theorem dX1_settle_58 : decode cX1_settle 58 = .ok (.getfield 23, 3) := by decide +kernel
theorem dX1_settle_61 : decode cX1_settle 61 = .ok (.iload 6, 2) := by decide +kernel
theorem dX1_settle_63 : decode cX1_settle 63 = .ok (.aload_n 0, 1) := by decide +kernel
theorem dX1_settle_64 : decode cX1_settle 64 = .ok (.getfield 50, 3) := by decide +kernel
theorem dX1_settle_67 : decode cX1_settle 67 = .ok (.iastore, 1) := by decide +kernel
theorem dX1_settle_68 : decode cX1_settle 68 = .ok (.iconst 1, 1) := by decide +kernel
theorem dX1_settle_69 : decode cX1_settle 69 = .ok (.ireturn, 1) := by decide +kernel
theorem dX1_settle_70 : decode cX1_settle 70 = .ok (.lload 4, 2) := by decide +kernel
theorem dX1_settle_72 : decode cX1_settle 72 = .ok (.aload_n 0, 1) := by decide +kernel
theorem dX1_settle_73 : decode cX1_settle 73 = .ok (.getfield 19, 3) := by decide +kernel
theorem dX1_settle_76 : decode cX1_settle 76 = .ok (.iload 6, 2) := by decide +kernel
theorem dX1_settle_78 : decode cX1_settle 78 = .ok (.laload, 1) := by decide +kernel
theorem dX1_settle_79 : decode cX1_settle 79 = .ok (.lxor, 1) := by decide +kernel
theorem dX1_settle_80 : decode cX1_settle 80 = .ok (.lstore 4, 2) := by decide +kernel
theorem dX1_settle_82 : decode cX1_settle 82 = .ok (.aload_n 0, 1) := by decide +kernel
theorem dX1_settle_83 : decode cX1_settle 83 = .ok (.dup, 1) := by decide +kernel
theorem dX1_settle_84 : decode cX1_settle 84 = .ok (.getfield 50, 3) := by decide +kernel
theorem dX1_settle_87 : decode cX1_settle 87 = .ok (.aload_n 0, 1) := by decide +kernel
theorem dX1_settle_88 : decode cX1_settle 88 = .ok (.getfield 23, 3) := by decide +kernel
theorem dX1_settle_91 : decode cX1_settle 91 = .ok (.iload 6, 2) := by decide +kernel
theorem dX1_settle_93 : decode cX1_settle 93 = .ok (.iaload, 1) := by decide +kernel
theorem dX1_settle_94 : decode cX1_settle 94 = .ok (.ixor, 1) := by decide +kernel
theorem dX1_settle_95 : decode cX1_settle 95 = .ok (.putfield 50, 3) := by decide +kernel
theorem dX1_settle_98 : decode cX1_settle 98 = .ok (.iinc 6 (-1), 3) := by decide +kernel
theorem dX1_settle_101 : decode cX1_settle 101 = .ok (.goto (-89), 3) := by decide +kernel
theorem dX1_settle_104 : decode cX1_settle 104 = .ok (.iconst 0, 1) := by decide +kernel
theorem dX1_settle_105 : decode cX1_settle 105 = .ok (.ireturn, 1) := by decide +kernel
theorem dX1_rankOf_0 : decode cX1_rankOf 0 = .ok (.iload_n 1, 1) := by decide +kernel
theorem dX1_rankOf_1 : decode cX1_rankOf 1 = .ok (.iconst 1, 1) := by decide +kernel
theorem dX1_rankOf_2 : decode cX1_rankOf 2 = .ok (.if_icmp .ge 5, 3) := by decide +kernel
theorem dX1_rankOf_5 : decode cX1_rankOf 5 = .ok (.iconst 0, 1) := by decide +kernel
theorem dX1_rankOf_6 : decode cX1_rankOf 6 = .ok (.ireturn, 1) := by decide +kernel
theorem dX1_rankOf_7 : decode cX1_rankOf 7 = .ok (.aload_n 0, 1) := by decide +kernel
theorem dX1_rankOf_8 : decode cX1_rankOf 8 = .ok (.invokevirtual 53, 3) := by decide +kernel
theorem dX1_rankOf_11 : decode cX1_rankOf 11 = .ok (.iconst 0, 1) := by decide +kernel
theorem dX1_rankOf_12 : decode cX1_rankOf 12 = .ok (.istore_n 2, 1) := by decide +kernel
theorem dX1_rankOf_13 : decode cX1_rankOf 13 = .ok (.iconst 0, 1) := by decide +kernel
theorem dX1_rankOf_14 : decode cX1_rankOf 14 = .ok (.istore_n 3, 1) := by decide +kernel
theorem dX1_rankOf_15 : decode cX1_rankOf 15 = .ok (.iload_n 3, 1) := by decide +kernel
theorem dX1_rankOf_16 : decode cX1_rankOf 16 = .ok (.aload_n 0, 1) := by decide +kernel
theorem dX1_rankOf_17 : decode cX1_rankOf 17 = .ok (.getfield 42, 3) := by decide +kernel
theorem dX1_rankOf_20 : decode cX1_rankOf 20 = .ok (.if_icmp .gt 42, 3) := by decide +kernel
theorem dX1_rankOf_23 : decode cX1_rankOf 23 = .ok (.aload_n 0, 1) := by decide +kernel
theorem dX1_rankOf_24 : decode cX1_rankOf 24 = .ok (.getfield 15, 3) := by decide +kernel
theorem dX1_rankOf_27 : decode cX1_rankOf 27 = .ok (.iload_n 3, 1) := by decide +kernel
theorem dX1_rankOf_28 : decode cX1_rankOf 28 = .ok (.baload, 1) := by decide +kernel
theorem dX1_rankOf_29 : decode cX1_rankOf 29 = .ok (.ifCond .eq 27, 3) := by decide +kernel
theorem dX1_rankOf_32 : decode cX1_rankOf 32 = .ok (.iload_n 3, 1) := by decide +kernel
theorem dX1_rankOf_33 : decode cX1_rankOf 33 = .ok (.invokestatic 26, 3) := by decide +kernel
theorem dX1_rankOf_36 : decode cX1_rankOf 36 = .ok (.iload_n 1, 1) := by decide +kernel
theorem dX1_rankOf_37 : decode cX1_rankOf 37 = .ok (.if_icmp .ne 19, 3) := by decide +kernel
theorem dX1_rankOf_40 : decode cX1_rankOf 40 = .ok (.aload_n 0, 1) := by decide +kernel
theorem dX1_rankOf_41 : decode cX1_rankOf 41 = .ok (.aload_n 0, 1) := by decide +kernel
theorem dX1_rankOf_42 : decode cX1_rankOf 42 = .ok (.iload_n 3, 1) := by decide +kernel
theorem dX1_rankOf_43 : decode cX1_rankOf 43 = .ok (.invokevirtual 56, 3) := by decide +kernel
theorem dX1_rankOf_46 : decode cX1_rankOf 46 = .ok (.iconst 0, 1) := by decide +kernel
theorem dX1_rankOf_47 : decode cX1_rankOf 47 = .ok (.invokevirtual 60, 3) := by decide +kernel
theorem dX1_rankOf_50 : decode cX1_rankOf 50 = .ok (.ifCond .eq 6, 3) := by decide +kernel
theorem dX1_rankOf_53 : decode cX1_rankOf 53 = .ok (.iinc 2 1, 3) := by decide +kernel
theorem dX1_rankOf_56 : decode cX1_rankOf 56 = .ok (.iinc 3 1, 3) := by decide +kernel
theorem dX1_rankOf_59 : decode cX1_rankOf 59 = .ok (.goto (-44), 3) := by decide +kernel
theorem dX1_rankOf_62 : decode cX1_rankOf 62 = .ok (.iload_n 2, 1) := by decide +kernel
theorem dX1_rankOf_63 : decode cX1_rankOf 63 = .ok (.ireturn, 1) := by decide +kernel
theorem dX1_countOf_0 : decode cX1_countOf 0 = .ok (.iconst 0, 1) := by decide +kernel
theorem dX1_countOf_1 : decode cX1_countOf 1 = .ok (.istore_n 2, 1) := by decide +kernel
theorem dX1_countOf_2 : decode cX1_countOf 2 = .ok (.iconst 0, 1) := by decide +kernel
theorem dX1_countOf_3 : decode cX1_countOf 3 = .ok (.istore_n 3, 1) := by decide +kernel
theorem dX1_countOf_4 : decode cX1_countOf 4 = .ok (.iload_n 3, 1) := by decide +kernel
theorem dX1_countOf_5 : decode cX1_countOf 5 = .ok (.aload_n 0, 1) := by decide +kernel
theorem dX1_countOf_6 : decode cX1_countOf 6 = .ok (.getfield 42, 3) := by decide +kernel
theorem dX1_countOf_9 : decode cX1_countOf 9 = .ok (.if_icmp .gt 29, 3) := by decide +kernel
theorem dX1_countOf_12 : decode cX1_countOf 12 = .ok (.aload_n 0, 1) := by decide +kernel
theorem dX1_countOf_13 : decode cX1_countOf 13 = .ok (.getfield 15, 3) := by decide +kernel
theorem dX1_countOf_16 : decode cX1_countOf 16 = .ok (.iload_n 3, 1) := by decide +kernel
theorem dX1_countOf_17 : decode cX1_countOf 17 = .ok (.baload, 1) := by decide +kernel
theorem dX1_countOf_18 : decode cX1_countOf 18 = .ok (.ifCond .eq 14, 3) := by decide +kernel
theorem dX1_countOf_21 : decode cX1_countOf 21 = .ok (.iload_n 3, 1) := by decide +kernel
theorem dX1_countOf_22 : decode cX1_countOf 22 = .ok (.invokestatic 26, 3) := by decide +kernel
theorem dX1_countOf_25 : decode cX1_countOf 25 = .ok (.iload_n 1, 1) := by decide +kernel
theorem dX1_countOf_26 : decode cX1_countOf 26 = .ok (.if_icmp .ne 6, 3) := by decide +kernel
theorem dX1_countOf_29 : decode cX1_countOf 29 = .ok (.iinc 2 1, 3) := by decide +kernel
theorem dX1_countOf_32 : decode cX1_countOf 32 = .ok (.iinc 3 1, 3) := by decide +kernel
theorem dX1_countOf_35 : decode cX1_countOf 35 = .ok (.goto (-31), 3) := by decide +kernel
theorem dX1_countOf_38 : decode cX1_countOf 38 = .ok (.iload_n 2, 1) := by decide +kernel
theorem dX1_countOf_39 : decode cX1_countOf 39 = .ok (.ireturn, 1) := by decide +kernel
theorem dX1_roundOf_0 : decode cX1_roundOf 0 = .ok (.aload_n 0, 1) := by decide +kernel
theorem dX1_roundOf_1 : decode cX1_roundOf 1 = .ok (.iload_n 1, 1) := by decide +kernel
theorem dX1_roundOf_2 : decode cX1_roundOf 2 = .ok (.invokevirtual 64, 3) := by decide +kernel
theorem dX1_roundOf_5 : decode cX1_roundOf 5 = .ok (.aload_n 0, 1) := by decide +kernel
theorem dX1_roundOf_6 : decode cX1_roundOf 6 = .ok (.iload_n 1, 1) := by decide +kernel
theorem dX1_roundOf_7 : decode cX1_roundOf 7 = .ok (.invokevirtual 67, 3) := by decide +kernel
theorem dX1_roundOf_10 : decode cX1_roundOf 10 = .ok (.isub, 1) := by decide +kernel
theorem dX1_roundOf_11 : decode cX1_roundOf 11 = .ok (.aload_n 0, 1) := by decide +kernel
theorem dX1_roundOf_12 : decode cX1_roundOf 12 = .ok (.iload_n 1, 1) := by decide +kernel
theorem dX1_roundOf_13 : decode cX1_roundOf 13 = .ok (.iconst 1, 1) := by decide +kernel
theorem dX1_roundOf_14 : decode cX1_roundOf 14 = .ok (.iadd, 1) := by decide +kernel
theorem dX1_roundOf_15 : decode cX1_roundOf 15 = .ok (.invokevirtual 67, 3) := by decide +kernel
theorem dX1_roundOf_18 : decode cX1_roundOf 18 = .ok (.isub, 1) := by decide +kernel
theorem dX1_roundOf_19 : decode cX1_roundOf 19 = .ok (.ireturn, 1) := by decide +kernel
theorem dX1_isFlatLink_0 : decode cX1_isFlatLink 0 = .ok (.aload_n 0, 1) := by decide +kernel
theorem dX1_isFlatLink_1 : decode cX1_isFlatLink 1 = .ok (.aload_n 1, 1) := by decide +kernel
theorem dX1_isFlatLink_2 : decode cX1_isFlatLink 2 = .ok (.iload_n 2, 1) := by decide +kernel
theorem dX1_isFlatLink_3 : decode cX1_isFlatLink 3 = .ok (.invokevirtual 32, 3) := by decide +kernel
theorem dX1_isFlatLink_6 : decode cX1_isFlatLink 6 = .ok (.iconst 0, 1) := by decide +kernel
theorem dX1_isFlatLink_7 : decode cX1_isFlatLink 7 = .ok (.istore_n 3, 1) := by decide +kernel
theorem dX1_isFlatLink_8 : decode cX1_isFlatLink 8 = .ok (.iconst 0, 1) := by decide +kernel
theorem dX1_isFlatLink_9 : decode cX1_isFlatLink 9 = .ok (.istore 4, 2) := by decide +kernel
theorem dX1_isFlatLink_11 : decode cX1_isFlatLink 11 = .ok (.iload 4, 2) := by decide +kernel
theorem dX1_isFlatLink_13 : decode cX1_isFlatLink 13 = .ok (.aload_n 1, 1) := by decide +kernel
theorem dX1_isFlatLink_14 : decode cX1_isFlatLink 14 = .ok (.getfield 70, 3) := by decide +kernel
theorem dX1_isFlatLink_17 : decode cX1_isFlatLink 17 = .ok (.iload_n 2, 1) := by decide +kernel
theorem dX1_isFlatLink_18 : decode cX1_isFlatLink 18 = .ok (.invokestatic 26, 3) := by decide +kernel
theorem dX1_isFlatLink_21 : decode cX1_isFlatLink 21 = .ok (.isub, 1) := by decide +kernel
theorem dX1_isFlatLink_22 : decode cX1_isFlatLink 22 = .ok (.if_icmp .ge 37, 3) := by decide +kernel
theorem dX1_isFlatLink_25 : decode cX1_isFlatLink 25 = .ok (.aload_n 0, 1) := by decide +kernel
theorem dX1_isFlatLink_26 : decode cX1_isFlatLink 26 = .ok (.iload 4, 2) := by decide +kernel
theorem dX1_isFlatLink_28 : decode cX1_isFlatLink 28 = .ok (.iconst 1, 1) := by decide +kernel
theorem dX1_isFlatLink_29 : decode cX1_isFlatLink 29 = .ok (.iadd, 1) := by decide +kernel
theorem dX1_isFlatLink_30 : decode cX1_isFlatLink 30 = .ok (.invokevirtual 67, 3) := by decide +kernel
theorem dX1_isFlatLink_33 : decode cX1_isFlatLink 33 = .ok (.istore 5, 2) := by decide +kernel
theorem dX1_isFlatLink_35 : decode cX1_isFlatLink 35 = .ok (.aload_n 0, 1) := by decide +kernel
theorem dX1_isFlatLink_36 : decode cX1_isFlatLink 36 = .ok (.iload 4, 2) := by decide +kernel
theorem dX1_isFlatLink_38 : decode cX1_isFlatLink 38 = .ok (.invokevirtual 64, 3) := by decide +kernel
theorem dX1_isFlatLink_41 : decode cX1_isFlatLink 41 = .ok (.iload_n 3, 1) := by decide +kernel
theorem dX1_isFlatLink_42 : decode cX1_isFlatLink 42 = .ok (.iload 5, 2) := by decide +kernel
theorem dX1_isFlatLink_44 : decode cX1_isFlatLink 44 = .ok (.iadd, 1) := by decide +kernel
theorem dX1_isFlatLink_45 : decode cX1_isFlatLink 45 = .ok (.if_icmp .eq 5, 3) := by decide +kernel
theorem dX1_isFlatLink_48 : decode cX1_isFlatLink 48 = .ok (.iconst 0, 1) := by decide +kernel
theorem dX1_isFlatLink_49 : decode cX1_isFlatLink 49 = .ok (.ireturn, 1) := by decide +kernel
theorem dX1_isFlatLink_50 : decode cX1_isFlatLink 50 = .ok (.iload 5, 2) := by decide +kernel
theorem dX1_isFlatLink_52 : decode cX1_isFlatLink 52 = .ok (.istore_n 3, 1) := by decide +kernel
theorem dX1_isFlatLink_53 : decode cX1_isFlatLink 53 = .ok (.iinc 4 1, 3) := by decide +kernel
theorem dX1_isFlatLink_56 : decode cX1_isFlatLink 56 = .ok (.goto (-45), 3) := by decide +kernel
theorem dX1_isFlatLink_59 : decode cX1_isFlatLink 59 = .ok (.iconst 1, 1) := by decide +kernel
theorem dX1_isFlatLink_60 : decode cX1_isFlatLink 60 = .ok (.ireturn, 1) := by decide +kernel
theorem dX1_cycleOf_0 : decode cX1_cycleOf 0 = .ok (.aload_n 0, 1) := by decide +kernel
theorem dX1_cycleOf_1 : decode cX1_cycleOf 1 = .ok (.invokevirtual 53, 3) := by decide +kernel
theorem dX1_cycleOf_4 : decode cX1_cycleOf 4 = .ok (.iconst 0, 1) := by decide +kernel
theorem dX1_cycleOf_5 : decode cX1_cycleOf 5 = .ok (.istore 4, 2) := by decide +kernel
theorem dX1_cycleOf_7 : decode cX1_cycleOf 7 = .ok (.iload 4, 2) := by decide +kernel
theorem dX1_cycleOf_9 : decode cX1_cycleOf 9 = .ok (.aload_n 1, 1) := by decide +kernel
theorem dX1_cycleOf_10 : decode cX1_cycleOf 10 = .ok (.getfield 73, 3) := by decide +kernel
theorem dX1_cycleOf_13 : decode cX1_cycleOf 13 = .ok (.if_icmp .ge 39, 3) := by decide +kernel
theorem dX1_cycleOf_16 : decode cX1_cycleOf 16 = .ok (.iload_n 3, 1) := by decide +kernel
theorem dX1_cycleOf_17 : decode cX1_cycleOf 17 = .ok (.iload 4, 2) := by decide +kernel
theorem dX1_cycleOf_19 : decode cX1_cycleOf 19 = .ok (.ishr, 1) := by decide +kernel
theorem dX1_cycleOf_20 : decode cX1_cycleOf 20 = .ok (.iconst 1, 1) := by decide +kernel
theorem dX1_cycleOf_21 : decode cX1_cycleOf 21 = .ok (.iand, 1) := by decide +kernel
theorem dX1_cycleOf_22 : decode cX1_cycleOf 22 = .ok (.iconst 1, 1) := by decide +kernel
theorem dX1_cycleOf_23 : decode cX1_cycleOf 23 = .ok (.if_icmp .ne 23, 3) := by decide +kernel
theorem dX1_cycleOf_26 : decode cX1_cycleOf 26 = .ok (.aload_n 0, 1) := by decide +kernel
theorem dX1_cycleOf_27 : decode cX1_cycleOf 27 = .ok (.aload_n 0, 1) := by decide +kernel
theorem dX1_cycleOf_28 : decode cX1_cycleOf 28 = .ok (.aload_n 1, 1) := by decide +kernel
theorem dX1_cycleOf_29 : decode cX1_cycleOf 29 = .ok (.getfield 76, 3) := by decide +kernel
theorem dX1_cycleOf_32 : decode cX1_cycleOf 32 = .ok (.iload 4, 2) := by decide +kernel
theorem dX1_cycleOf_34 : decode cX1_cycleOf 34 = .ok (.iaload, 1) := by decide +kernel
theorem dX1_cycleOf_35 : decode cX1_cycleOf 35 = .ok (.invokevirtual 56, 3) := by decide +kernel
theorem dX1_cycleOf_38 : decode cX1_cycleOf 38 = .ok (.iconst 1, 1) := by decide +kernel
theorem dX1_cycleOf_39 : decode cX1_cycleOf 39 = .ok (.iload 4, 2) := by decide +kernel
theorem dX1_cycleOf_41 : decode cX1_cycleOf 41 = .ok (.ishl, 1) := by decide +kernel
theorem dX1_cycleOf_42 : decode cX1_cycleOf 42 = .ok (.invokevirtual 60, 3) := by decide +kernel
theorem dX1_cycleOf_45 : decode cX1_cycleOf 45 = .ok (.pop, 1) := by decide +kernel
theorem dX1_cycleOf_46 : decode cX1_cycleOf 46 = .ok (.iinc 4 1, 3) := by decide +kernel
theorem dX1_cycleOf_49 : decode cX1_cycleOf 49 = .ok (.goto (-42), 3) := by decide +kernel
theorem dX1_cycleOf_52 : decode cX1_cycleOf 52 = .ok (.aload_n 0, 1) := by decide +kernel
theorem dX1_cycleOf_53 : decode cX1_cycleOf 53 = .ok (.aload_n 0, 1) := by decide +kernel
theorem dX1_cycleOf_54 : decode cX1_cycleOf 54 = .ok (.aload_n 1, 1) := by decide +kernel
theorem dX1_cycleOf_55 : decode cX1_cycleOf 55 = .ok (.getfield 76, 3) := by decide +kernel
theorem dX1_cycleOf_58 : decode cX1_cycleOf 58 = .ok (.iload_n 2, 1) := by decide +kernel
theorem dX1_cycleOf_59 : decode cX1_cycleOf 59 = .ok (.iaload, 1) := by decide +kernel
theorem dX1_cycleOf_60 : decode cX1_cycleOf 60 = .ok (.invokevirtual 56, 3) := by decide +kernel
theorem dX1_cycleOf_63 : decode cX1_cycleOf 63 = .ok (.iconst 1, 1) := by decide +kernel
theorem dX1_cycleOf_64 : decode cX1_cycleOf 64 = .ok (.iload_n 2, 1) := by decide +kernel
theorem dX1_cycleOf_65 : decode cX1_cycleOf 65 = .ok (.ishl, 1) := by decide +kernel
theorem dX1_cycleOf_66 : decode cX1_cycleOf 66 = .ok (.invokevirtual 60, 3) := by decide +kernel
theorem dX1_cycleOf_69 : decode cX1_cycleOf 69 = .ok (.pop, 1) := by decide +kernel
theorem dX1_cycleOf_70 : decode cX1_cycleOf 70 = .ok (.aload_n 0, 1) := by decide +kernel
theorem dX1_cycleOf_71 : decode cX1_cycleOf 71 = .ok (.getfield 50, 3) := by decide +kernel
theorem dX1_cycleOf_74 : decode cX1_cycleOf 74 = .ok (.ireturn, 1) := by decide +kernel
theorem dX2_init_0 : decode cX2_init 0 = .ok (.aload_n 0, 1) := by decide +kernel
theorem dX2_init_1 : decode cX2_init 1 = .ok (.invokespecial 3, 3) := by decide +kernel
theorem dX2_init_4 : decode cX2_init 4 = .ok (.aload_n 0, 1) := by decide +kernel
theorem dX2_init_5 : decode cX2_init 5 = .ok (.sipush 4096, 3) := by decide +kernel
theorem dX2_init_8 : decode cX2_init 8 = .ok (.newarray .int, 2) := by decide +kernel
theorem dX2_init_10 : decode cX2_init 10 = .ok (.putfield 9, 3) := by decide +kernel
theorem dX2_init_13 : decode cX2_init 13 = .ok (.aload_n 0, 1) := by decide +kernel
theorem dX2_init_14 : decode cX2_init 14 = .ok (.sipush 4096, 3) := by decide +kernel
theorem dX2_init_17 : decode cX2_init 17 = .ok (.newarray .int, 2) := by decide +kernel
theorem dX2_init_19 : decode cX2_init 19 = .ok (.putfield 15, 3) := by decide +kernel
theorem dX2_init_22 : decode cX2_init 22 = .ok (.aload_n 0, 1) := by decide +kernel
theorem dX2_init_23 : decode cX2_init 23 = .ok (.sipush 4096, 3) := by decide +kernel
theorem dX2_init_26 : decode cX2_init 26 = .ok (.newarray .int, 2) := by decide +kernel
theorem dX2_init_28 : decode cX2_init 28 = .ok (.putfield 18, 3) := by decide +kernel
theorem dX2_init_31 : decode cX2_init 31 = .ok (.return_, 1) := by decide +kernel
theorem dX2_fill_0 : decode cX2_fill 0 = .ok (.aload_n 0, 1) := by decide +kernel
theorem dX2_fill_1 : decode cX2_fill 1 = .ok (.getfield 21, 3) := by decide +kernel
theorem dX2_fill_4 : decode cX2_fill 4 = .ok (.ifCond .ne 18, 3) := by decide +kernel
theorem dX2_fill_7 : decode cX2_fill 7 = .ok (.aload_n 0, 1) := by decide +kernel
theorem dX2_fill_8 : decode cX2_fill 8 = .ok (.aload_n 1, 1) := by decide +kernel
theorem dX2_fill_9 : decode cX2_fill 9 = .ok (.invokevirtual 25, 3) := by decide +kernel
theorem dX2_fill_12 : decode cX2_fill 12 = .ok (.aload_n 0, 1) := by decide +kernel
theorem dX2_fill_13 : decode cX2_fill 13 = .ok (.aload_n 1, 1) := by decide +kernel
theorem dX2_fill_14 : decode cX2_fill 14 = .ok (.invokevirtual 29, 3) := by decide +kernel
theorem dX2_fill_17 : decode cX2_fill 17 = .ok (.aload_n 0, 1) := by decide +kernel
theorem dX2_fill_18 : decode cX2_fill 18 = .ok (.iconst 1, 1) := by decide +kernel
theorem dX2_fill_19 : decode cX2_fill 19 = .ok (.putfield 21, 3) := by decide +kernel
theorem dX2_fill_22 : decode cX2_fill 22 = .ok (.return_, 1) := by decide +kernel
theorem dX2_fillWays_0 : decode cX2_fillWays 0 = .ok (.aload_n 1, 1) := by decide +kernel
theorem dX2_fillWays_1 : decode cX2_fillWays 1 = .ok (.invokevirtual 32, 3) := by decide +kernel
theorem dX2_fillWays_4 : decode cX2_fillWays 4 = .ok (.istore_n 2, 1) := by decide +kernel
theorem dX2_fillWays_5 : decode cX2_fillWays 5 = .ok (.iconst 0, 1) := by decide +kernel
theorem dX2_fillWays_6 : decode cX2_fillWays 6 = .ok (.istore_n 3, 1) := by decide +kernel
theorem dX2_fillWays_7 : decode cX2_fillWays 7 = .ok (.iload_n 3, 1) := by decide +kernel
theorem dX2_fillWays_8 : decode cX2_fillWays 8 = .ok (.iload_n 2, 1) := by decide +kernel
theorem dX2_fillWays_9 : decode cX2_fillWays 9 = .ok (.if_icmp .gt 23, 3) := by decide +kernel
theorem dX2_fillWays_12 : decode cX2_fillWays 12 = .ok (.aload_n 0, 1) := by decide +kernel
theorem dX2_fillWays_13 : decode cX2_fillWays 13 = .ok (.getfield 9, 3) := by decide +kernel
theorem dX2_fillWays_16 : decode cX2_fillWays 16 = .ok (.iload_n 3, 1) := by decide +kernel
theorem dX2_fillWays_17 : decode cX2_fillWays 17 = .ok (.iconst 0, 1) := by decide +kernel
theorem dX2_fillWays_18 : decode cX2_fillWays 18 = .ok (.iastore, 1) := by decide +kernel
theorem dX2_fillWays_19 : decode cX2_fillWays 19 = .ok (.aload_n 0, 1) := by decide +kernel
theorem dX2_fillWays_20 : decode cX2_fillWays 20 = .ok (.getfield 15, 3) := by decide +kernel
theorem dX2_fillWays_23 : decode cX2_fillWays 23 = .ok (.iload_n 3, 1) := by decide +kernel
theorem dX2_fillWays_24 : decode cX2_fillWays 24 = .ok (.iconst 0, 1) := by decide +kernel
theorem dX2_fillWays_25 : decode cX2_fillWays 25 = .ok (.iastore, 1) := by decide +kernel
theorem dX2_fillWays_26 : decode cX2_fillWays 26 = .ok (.iinc 3 1, 3) := by decide +kernel
theorem dX2_fillWays_29 : decode cX2_fillWays 29 = .ok (.goto (-22), 3) := by decide +kernel
theorem dX2_fillWays_32 : decode cX2_fillWays 32 = .ok (.aload_n 0, 1) := by decide +kernel
theorem dX2_fillWays_33 : decode cX2_fillWays 33 = .ok (.getfield 9, 3) := by decide +kernel
theorem dX2_fillWays_36 : decode cX2_fillWays 36 = .ok (.iconst 0, 1) := by decide +kernel
theorem dX2_fillWays_37 : decode cX2_fillWays 37 = .ok (.iconst 1, 1) := by decide +kernel
theorem dX2_fillWays_38 : decode cX2_fillWays 38 = .ok (.iastore, 1) := by decide +kernel
theorem dX2_fillWays_39 : decode cX2_fillWays 39 = .ok (.iconst 0, 1) := by decide +kernel
theorem dX2_fillWays_40 : decode cX2_fillWays 40 = .ok (.istore_n 3, 1) := by decide +kernel
theorem dX2_fillWays_41 : decode cX2_fillWays 41 = .ok (.iload_n 3, 1) := by decide +kernel
theorem dX2_fillWays_42 : decode cX2_fillWays 42 = .ok (.iload_n 2, 1) := by decide +kernel
theorem dX2_fillWays_43 : decode cX2_fillWays 43 = .ok (.if_icmp .ge 24, 3) := by decide +kernel
theorem dX2_fillWays_46 : decode cX2_fillWays 46 = .ok (.aload_n 0, 1) := by decide +kernel
theorem dX2_fillWays_47 : decode cX2_fillWays 47 = .ok (.getfield 9, 3) := by decide +kernel
theorem dX2_fillWays_50 : decode cX2_fillWays 50 = .ok (.iload_n 3, 1) := by decide +kernel
theorem dX2_fillWays_51 : decode cX2_fillWays 51 = .ok (.iaload, 1) := by decide +kernel
theorem dX2_fillWays_52 : decode cX2_fillWays 52 = .ok (.ifCond .eq 9, 3) := by decide +kernel
theorem dX2_fillWays_55 : decode cX2_fillWays 55 = .ok (.aload_n 0, 1) := by decide +kernel
theorem dX2_fillWays_56 : decode cX2_fillWays 56 = .ok (.aload_n 1, 1) := by decide +kernel
theorem dX2_fillWays_57 : decode cX2_fillWays 57 = .ok (.iload_n 3, 1) := by decide +kernel
theorem dX2_fillWays_58 : decode cX2_fillWays 58 = .ok (.invokevirtual 38, 3) := by decide +kernel
theorem dX2_fillWays_61 : decode cX2_fillWays 61 = .ok (.iinc 3 1, 3) := by decide +kernel
theorem dX2_fillWays_64 : decode cX2_fillWays 64 = .ok (.goto (-23), 3) := by decide +kernel
theorem dX2_fillWays_67 : decode cX2_fillWays 67 = .ok (.return_, 1) := by decide +kernel
theorem dX2_pushOn_0 : decode cX2_pushOn 0 = .ok (.iconst 0, 1) := by decide +kernel
theorem dX2_pushOn_1 : decode cX2_pushOn 1 = .ok (.istore_n 3, 1) := by decide +kernel
theorem dX2_pushOn_2 : decode cX2_pushOn 2 = .ok (.iconst 0, 1) := by decide +kernel
theorem dX2_pushOn_3 : decode cX2_pushOn 3 = .ok (.istore 4, 2) := by decide +kernel
theorem dX2_pushOn_5 : decode cX2_pushOn 5 = .ok (.iload 4, 2) := by decide +kernel
theorem dX2_pushOn_7 : decode cX2_pushOn 7 = .ok (.aload_n 1, 1) := by decide +kernel
theorem dX2_pushOn_8 : decode cX2_pushOn 8 = .ok (.getfield 42, 3) := by decide +kernel
theorem dX2_pushOn_11 : decode cX2_pushOn 11 = .ok (.if_icmp .ge 55, 3) := by decide +kernel
theorem dX2_pushOn_14 : decode cX2_pushOn 14 = .ok (.iconst 1, 1) := by decide +kernel
theorem dX2_pushOn_15 : decode cX2_pushOn 15 = .ok (.iload 4, 2) := by decide +kernel
theorem dX2_pushOn_17 : decode cX2_pushOn 17 = .ok (.ishl, 1) := by decide +kernel
theorem dX2_pushOn_18 : decode cX2_pushOn 18 = .ok (.istore 5, 2) := by decide +kernel
theorem dX2_pushOn_20 : decode cX2_pushOn 20 = .ok (.iload_n 2, 1) := by decide +kernel
theorem dX2_pushOn_21 : decode cX2_pushOn 21 = .ok (.iload 5, 2) := by decide +kernel
theorem dX2_pushOn_23 : decode cX2_pushOn 23 = .ok (.iand, 1) := by decide +kernel
theorem dX2_pushOn_24 : decode cX2_pushOn 24 = .ok (.ifCond .ne 36, 3) := by decide +kernel
theorem dX2_pushOn_27 : decode cX2_pushOn 27 = .ok (.aload_n 1, 1) := by decide +kernel
theorem dX2_pushOn_28 : decode cX2_pushOn 28 = .ok (.iload 4, 2) := by decide +kernel
theorem dX2_pushOn_30 : decode cX2_pushOn 30 = .ok (.iload_n 2, 1) := by decide +kernel
theorem dX2_pushOn_31 : decode cX2_pushOn 31 = .ok (.invokevirtual 46, 3) := by decide +kernel
theorem dX2_pushOn_34 : decode cX2_pushOn 34 = .ok (.ifCond .eq 26, 3) := by decide +kernel
theorem dX2_pushOn_37 : decode cX2_pushOn 37 = .ok (.iload_n 3, 1) := by decide +kernel
theorem dX2_pushOn_38 : decode cX2_pushOn 38 = .ok (.iload 5, 2) := by decide +kernel
theorem dX2_pushOn_40 : decode cX2_pushOn 40 = .ok (.ior, 1) := by decide +kernel
theorem dX2_pushOn_41 : decode cX2_pushOn 41 = .ok (.istore_n 3, 1) := by decide +kernel
theorem dX2_pushOn_42 : decode cX2_pushOn 42 = .ok (.aload_n 0, 1) := by decide +kernel
theorem dX2_pushOn_43 : decode cX2_pushOn 43 = .ok (.getfield 9, 3) := by decide +kernel
theorem dX2_pushOn_46 : decode cX2_pushOn 46 = .ok (.iload_n 2, 1) := by decide +kernel
theorem dX2_pushOn_47 : decode cX2_pushOn 47 = .ok (.iload 5, 2) := by decide +kernel
theorem dX2_pushOn_49 : decode cX2_pushOn 49 = .ok (.ior, 1) := by decide +kernel
theorem dX2_pushOn_50 : decode cX2_pushOn 50 = .ok (.dup2, 1) := by decide +kernel
theorem dX2_pushOn_51 : decode cX2_pushOn 51 = .ok (.iaload, 1) := by decide +kernel
theorem dX2_pushOn_52 : decode cX2_pushOn 52 = .ok (.aload_n 0, 1) := by decide +kernel
theorem dX2_pushOn_53 : decode cX2_pushOn 53 = .ok (.getfield 9, 3) := by decide +kernel
theorem dX2_pushOn_56 : decode cX2_pushOn 56 = .ok (.iload_n 2, 1) := by decide +kernel
theorem dX2_pushOn_57 : decode cX2_pushOn 57 = .ok (.iaload, 1) := by decide +kernel
theorem dX2_pushOn_58 : decode cX2_pushOn 58 = .ok (.iadd, 1) := by decide +kernel
theorem dX2_pushOn_59 : decode cX2_pushOn 59 = .ok (.iastore, 1) := by decide +kernel
theorem dX2_pushOn_60 : decode cX2_pushOn 60 = .ok (.iinc 4 1, 3) := by decide +kernel
theorem dX2_pushOn_63 : decode cX2_pushOn 63 = .ok (.goto (-58), 3) := by decide +kernel
theorem dX2_pushOn_66 : decode cX2_pushOn 66 = .ok (.aload_n 0, 1) := by decide +kernel
theorem dX2_pushOn_67 : decode cX2_pushOn 67 = .ok (.getfield 15, 3) := by decide +kernel
theorem dX2_pushOn_70 : decode cX2_pushOn 70 = .ok (.iload_n 2, 1) := by decide +kernel
theorem dX2_pushOn_71 : decode cX2_pushOn 71 = .ok (.iload_n 3, 1) := by decide +kernel
theorem dX2_pushOn_72 : decode cX2_pushOn 72 = .ok (.iastore, 1) := by decide +kernel
theorem dX2_pushOn_73 : decode cX2_pushOn 73 = .ok (.return_, 1) := by decide +kernel
theorem dX2_fillOnward_0 : decode cX2_fillOnward 0 = .ok (.aload_n 1, 1) := by decide +kernel
theorem dX2_fillOnward_1 : decode cX2_fillOnward 1 = .ok (.invokevirtual 32, 3) := by decide +kernel
theorem dX2_fillOnward_4 : decode cX2_fillOnward 4 = .ok (.istore_n 2, 1) := by decide +kernel
theorem dX2_fillOnward_5 : decode cX2_fillOnward 5 = .ok (.aload_n 0, 1) := by decide +kernel
theorem dX2_fillOnward_6 : decode cX2_fillOnward 6 = .ok (.getfield 18, 3) := by decide +kernel
theorem dX2_fillOnward_9 : decode cX2_fillOnward 9 = .ok (.iload_n 2, 1) := by decide +kernel
theorem dX2_fillOnward_10 : decode cX2_fillOnward 10 = .ok (.aload_n 0, 1) := by decide +kernel
theorem dX2_fillOnward_11 : decode cX2_fillOnward 11 = .ok (.getfield 9, 3) := by decide +kernel
theorem dX2_fillOnward_14 : decode cX2_fillOnward 14 = .ok (.iload_n 2, 1) := by decide +kernel
theorem dX2_fillOnward_15 : decode cX2_fillOnward 15 = .ok (.iaload, 1) := by decide +kernel
theorem dX2_fillOnward_16 : decode cX2_fillOnward 16 = .ok (.ifCond .ne 7, 3) := by decide +kernel
theorem dX2_fillOnward_19 : decode cX2_fillOnward 19 = .ok (.iconst 0, 1) := by decide +kernel
theorem dX2_fillOnward_20 : decode cX2_fillOnward 20 = .ok (.goto 4, 3) := by decide +kernel
theorem dX2_fillOnward_23 : decode cX2_fillOnward 23 = .ok (.iconst 1, 1) := by decide +kernel
theorem dX2_fillOnward_24 : decode cX2_fillOnward 24 = .ok (.iastore, 1) := by decide +kernel
theorem dX2_fillOnward_25 : decode cX2_fillOnward 25 = .ok (.iload_n 2, 1) := by decide +kernel
theorem dX2_fillOnward_26 : decode cX2_fillOnward 26 = .ok (.iconst 1, 1) := by decide +kernel
theorem dX2_fillOnward_27 : decode cX2_fillOnward 27 = .ok (.isub, 1) := by decide +kernel
theorem dX2_fillOnward_28 : decode cX2_fillOnward 28 = .ok (.istore_n 3, 1) := by decide +kernel
theorem dX2_fillOnward_29 : decode cX2_fillOnward 29 = .ok (.iload_n 3, 1) := by decide +kernel
theorem dX2_fillOnward_30 : decode cX2_fillOnward 30 = .ok (.ifCond .lt 34, 3) := by decide +kernel
theorem dX2_fillOnward_33 : decode cX2_fillOnward 33 = .ok (.aload_n 0, 1) := by decide +kernel
theorem dX2_fillOnward_34 : decode cX2_fillOnward 34 = .ok (.getfield 18, 3) := by decide +kernel
theorem dX2_fillOnward_37 : decode cX2_fillOnward 37 = .ok (.iload_n 3, 1) := by decide +kernel
theorem dX2_fillOnward_38 : decode cX2_fillOnward 38 = .ok (.aload_n 0, 1) := by decide +kernel
theorem dX2_fillOnward_39 : decode cX2_fillOnward 39 = .ok (.getfield 15, 3) := by decide +kernel
theorem dX2_fillOnward_42 : decode cX2_fillOnward 42 = .ok (.iload_n 3, 1) := by decide +kernel
theorem dX2_fillOnward_43 : decode cX2_fillOnward 43 = .ok (.iaload, 1) := by decide +kernel
theorem dX2_fillOnward_44 : decode cX2_fillOnward 44 = .ok (.ifCond .ne 7, 3) := by decide +kernel
theorem dX2_fillOnward_47 : decode cX2_fillOnward 47 = .ok (.iconst 0, 1) := by decide +kernel
theorem dX2_fillOnward_48 : decode cX2_fillOnward 48 = .ok (.goto 9, 3) := by decide +kernel
theorem dX2_fillOnward_51 : decode cX2_fillOnward 51 = .ok (.aload_n 0, 1) := by decide +kernel
theorem dX2_fillOnward_52 : decode cX2_fillOnward 52 = .ok (.aload_n 1, 1) := by decide +kernel
theorem dX2_fillOnward_53 : decode cX2_fillOnward 53 = .ok (.iload_n 3, 1) := by decide +kernel
theorem dX2_fillOnward_54 : decode cX2_fillOnward 54 = .ok (.invokevirtual 50, 3) := by decide +kernel
theorem dX2_fillOnward_57 : decode cX2_fillOnward 57 = .ok (.iastore, 1) := by decide +kernel
theorem dX2_fillOnward_58 : decode cX2_fillOnward 58 = .ok (.iinc 3 (-1), 3) := by decide +kernel
theorem dX2_fillOnward_61 : decode cX2_fillOnward 61 = .ok (.goto (-32), 3) := by decide +kernel
theorem dX2_fillOnward_64 : decode cX2_fillOnward 64 = .ok (.return_, 1) := by decide +kernel
theorem dX2_sumOnward_0 : decode cX2_sumOnward 0 = .ok (.iconst 0, 1) := by decide +kernel
theorem dX2_sumOnward_1 : decode cX2_sumOnward 1 = .ok (.istore_n 3, 1) := by decide +kernel
theorem dX2_sumOnward_2 : decode cX2_sumOnward 2 = .ok (.iconst 0, 1) := by decide +kernel
theorem dX2_sumOnward_3 : decode cX2_sumOnward 3 = .ok (.istore 4, 2) := by decide +kernel
theorem dX2_sumOnward_5 : decode cX2_sumOnward 5 = .ok (.iload 4, 2) := by decide +kernel
theorem dX2_sumOnward_7 : decode cX2_sumOnward 7 = .ok (.aload_n 1, 1) := by decide +kernel
theorem dX2_sumOnward_8 : decode cX2_sumOnward 8 = .ok (.getfield 42, 3) := by decide +kernel
theorem dX2_sumOnward_11 : decode cX2_sumOnward 11 = .ok (.if_icmp .ge 39, 3) := by decide +kernel
theorem dX2_sumOnward_14 : decode cX2_sumOnward 14 = .ok (.iconst 1, 1) := by decide +kernel
theorem dX2_sumOnward_15 : decode cX2_sumOnward 15 = .ok (.iload 4, 2) := by decide +kernel
theorem dX2_sumOnward_17 : decode cX2_sumOnward 17 = .ok (.ishl, 1) := by decide +kernel
theorem dX2_sumOnward_18 : decode cX2_sumOnward 18 = .ok (.istore 5, 2) := by decide +kernel
theorem dX2_sumOnward_20 : decode cX2_sumOnward 20 = .ok (.aload_n 0, 1) := by decide +kernel
theorem dX2_sumOnward_21 : decode cX2_sumOnward 21 = .ok (.getfield 15, 3) := by decide +kernel
theorem dX2_sumOnward_24 : decode cX2_sumOnward 24 = .ok (.iload_n 2, 1) := by decide +kernel
theorem dX2_sumOnward_25 : decode cX2_sumOnward 25 = .ok (.iaload, 1) := by decide +kernel
theorem dX2_sumOnward_26 : decode cX2_sumOnward 26 = .ok (.iload 5, 2) := by decide +kernel
theorem dX2_sumOnward_28 : decode cX2_sumOnward 28 = .ok (.iand, 1) := by decide +kernel
theorem dX2_sumOnward_29 : decode cX2_sumOnward 29 = .ok (.ifCond .eq 15, 3) := by decide +kernel
theorem dX2_sumOnward_32 : decode cX2_sumOnward 32 = .ok (.iload_n 3, 1) := by decide +kernel
theorem dX2_sumOnward_33 : decode cX2_sumOnward 33 = .ok (.aload_n 0, 1) := by decide +kernel
theorem dX2_sumOnward_34 : decode cX2_sumOnward 34 = .ok (.getfield 18, 3) := by decide +kernel
theorem dX2_sumOnward_37 : decode cX2_sumOnward 37 = .ok (.iload_n 2, 1) := by decide +kernel
theorem dX2_sumOnward_38 : decode cX2_sumOnward 38 = .ok (.iload 5, 2) := by decide +kernel
theorem dX2_sumOnward_40 : decode cX2_sumOnward 40 = .ok (.ior, 1) := by decide +kernel
theorem dX2_sumOnward_41 : decode cX2_sumOnward 41 = .ok (.iaload, 1) := by decide +kernel
theorem dX2_sumOnward_42 : decode cX2_sumOnward 42 = .ok (.iadd, 1) := by decide +kernel
theorem dX2_sumOnward_43 : decode cX2_sumOnward 43 = .ok (.istore_n 3, 1) := by decide +kernel
theorem dX2_sumOnward_44 : decode cX2_sumOnward 44 = .ok (.iinc 4 1, 3) := by decide +kernel
theorem dX2_sumOnward_47 : decode cX2_sumOnward 47 = .ok (.goto (-42), 3) := by decide +kernel
theorem dX2_sumOnward_50 : decode cX2_sumOnward 50 = .ok (.iload_n 3, 1) := by decide +kernel
theorem dX2_sumOnward_51 : decode cX2_sumOnward 51 = .ok (.ireturn, 1) := by decide +kernel
theorem dX2_leastAt_0 : decode cX2_leastAt 0 = .ok (.iconst 0, 1) := by decide +kernel
theorem dX2_leastAt_1 : decode cX2_leastAt 1 = .ok (.istore_n 3, 1) := by decide +kernel
theorem dX2_leastAt_2 : decode cX2_leastAt 2 = .ok (.bipush (-2), 2) := by decide +kernel
theorem dX2_leastAt_4 : decode cX2_leastAt 4 = .ok (.istore 4, 2) := by decide +kernel
theorem dX2_leastAt_6 : decode cX2_leastAt 6 = .ok (.iconst 0, 1) := by decide +kernel
theorem dX2_leastAt_7 : decode cX2_leastAt 7 = .ok (.istore 5, 2) := by decide +kernel
theorem dX2_leastAt_9 : decode cX2_leastAt 9 = .ok (.iload 5, 2) := by decide +kernel
theorem dX2_leastAt_11 : decode cX2_leastAt 11 = .ok (.iload_n 2, 1) := by decide +kernel
theorem dX2_leastAt_12 : decode cX2_leastAt 12 = .ok (.if_icmp .gt 39, 3) := by decide +kernel
theorem dX2_leastAt_15 : decode cX2_leastAt 15 = .ok (.iload 5, 2) := by decide +kernel
theorem dX2_leastAt_17 : decode cX2_leastAt 17 = .ok (.bipush 12, 2) := by decide +kernel
theorem dX2_leastAt_19 : decode cX2_leastAt 19 = .ok (.if_icmp .ge 32, 3) := by decide +kernel
theorem dX2_leastAt_22 : decode cX2_leastAt 22 = .ok (.aload_n 0, 1) := by decide +kernel
theorem dX2_leastAt_23 : decode cX2_leastAt 23 = .ok (.aload_n 1, 1) := by decide +kernel
theorem dX2_leastAt_24 : decode cX2_leastAt 24 = .ok (.iload_n 3, 1) := by decide +kernel
theorem dX2_leastAt_25 : decode cX2_leastAt 25 = .ok (.invokevirtual 54, 3) := by decide +kernel
theorem dX2_leastAt_28 : decode cX2_leastAt 28 = .ok (.istore 4, 2) := by decide +kernel
theorem dX2_leastAt_30 : decode cX2_leastAt 30 = .ok (.iload 4, 2) := by decide +kernel
theorem dX2_leastAt_32 : decode cX2_leastAt 32 = .ok (.ifCond .ge 6, 3) := by decide +kernel
theorem dX2_leastAt_35 : decode cX2_leastAt 35 = .ok (.bipush (-2), 2) := by decide +kernel
theorem dX2_leastAt_37 : decode cX2_leastAt 37 = .ok (.ireturn, 1) := by decide +kernel
theorem dX2_leastAt_38 : decode cX2_leastAt 38 = .ok (.iload_n 3, 1) := by decide +kernel
theorem dX2_leastAt_39 : decode cX2_leastAt 39 = .ok (.iconst 1, 1) := by decide +kernel
theorem dX2_leastAt_40 : decode cX2_leastAt 40 = .ok (.iload 4, 2) := by decide +kernel
theorem dX2_leastAt_42 : decode cX2_leastAt 42 = .ok (.ishl, 1) := by decide +kernel
theorem dX2_leastAt_43 : decode cX2_leastAt 43 = .ok (.ior, 1) := by decide +kernel
theorem dX2_leastAt_44 : decode cX2_leastAt 44 = .ok (.istore_n 3, 1) := by decide +kernel
theorem dX2_leastAt_45 : decode cX2_leastAt 45 = .ok (.iinc 5 1, 3) := by decide +kernel
theorem dX2_leastAt_48 : decode cX2_leastAt 48 = .ok (.goto (-39), 3) := by decide +kernel
theorem dX2_leastAt_51 : decode cX2_leastAt 51 = .ok (.iload 4, 2) := by decide +kernel
theorem dX2_leastAt_53 : decode cX2_leastAt 53 = .ok (.ireturn, 1) := by decide +kernel
theorem dX2_leastOnward_0 : decode cX2_leastOnward 0 = .ok (.iconst 0, 1) := by decide +kernel
theorem dX2_leastOnward_1 : decode cX2_leastOnward 1 = .ok (.istore_n 3, 1) := by decide +kernel
theorem dX2_leastOnward_2 : decode cX2_leastOnward 2 = .ok (.iload_n 3, 1) := by decide +kernel
theorem dX2_leastOnward_3 : decode cX2_leastOnward 3 = .ok (.aload_n 1, 1) := by decide +kernel
theorem dX2_leastOnward_4 : decode cX2_leastOnward 4 = .ok (.getfield 42, 3) := by decide +kernel
theorem dX2_leastOnward_7 : decode cX2_leastOnward 7 = .ok (.if_icmp .ge 40, 3) := by decide +kernel
theorem dX2_leastOnward_10 : decode cX2_leastOnward 10 = .ok (.iconst 1, 1) := by decide +kernel
theorem dX2_leastOnward_11 : decode cX2_leastOnward 11 = .ok (.iload_n 3, 1) := by decide +kernel
theorem dX2_leastOnward_12 : decode cX2_leastOnward 12 = .ok (.ishl, 1) := by decide +kernel
theorem dX2_leastOnward_13 : decode cX2_leastOnward 13 = .ok (.istore 4, 2) := by decide +kernel
theorem dX2_leastOnward_15 : decode cX2_leastOnward 15 = .ok (.aload_n 0, 1) := by decide +kernel
theorem dX2_leastOnward_16 : decode cX2_leastOnward 16 = .ok (.getfield 15, 3) := by decide +kernel
theorem dX2_leastOnward_19 : decode cX2_leastOnward 19 = .ok (.iload_n 2, 1) := by decide +kernel
theorem dX2_leastOnward_20 : decode cX2_leastOnward 20 = .ok (.iaload, 1) := by decide +kernel
theorem dX2_leastOnward_21 : decode cX2_leastOnward 21 = .ok (.iload 4, 2) := by decide +kernel
theorem dX2_leastOnward_23 : decode cX2_leastOnward 23 = .ok (.iand, 1) := by decide +kernel
theorem dX2_leastOnward_24 : decode cX2_leastOnward 24 = .ok (.ifCond .eq 17, 3) := by decide +kernel
theorem dX2_leastOnward_27 : decode cX2_leastOnward 27 = .ok (.aload_n 0, 1) := by decide +kernel
theorem dX2_leastOnward_28 : decode cX2_leastOnward 28 = .ok (.getfield 18, 3) := by decide +kernel
theorem dX2_leastOnward_31 : decode cX2_leastOnward 31 = .ok (.iload_n 2, 1) := by decide +kernel
theorem dX2_leastOnward_32 : decode cX2_leastOnward 32 = .ok (.iload 4, 2) := by decide +kernel
theorem dX2_leastOnward_34 : decode cX2_leastOnward 34 = .ok (.ior, 1) := by decide +kernel
theorem dX2_leastOnward_35 : decode cX2_leastOnward 35 = .ok (.iaload, 1) := by decide +kernel
theorem dX2_leastOnward_36 : decode cX2_leastOnward 36 = .ok (.ifCond .eq 5, 3) := by decide +kernel
theorem dX2_leastOnward_39 : decode cX2_leastOnward 39 = .ok (.iload_n 3, 1) := by decide +kernel
theorem dX2_leastOnward_40 : decode cX2_leastOnward 40 = .ok (.ireturn, 1) := by decide +kernel
theorem dX2_leastOnward_41 : decode cX2_leastOnward 41 = .ok (.iinc 3 1, 3) := by decide +kernel
theorem dX2_leastOnward_44 : decode cX2_leastOnward 44 = .ok (.goto (-42), 3) := by decide +kernel
theorem dX2_leastOnward_47 : decode cX2_leastOnward 47 = .ok (.bipush (-2), 2) := by decide +kernel
theorem dX2_leastOnward_49 : decode cX2_leastOnward 49 = .ok (.ireturn, 1) := by decide +kernel
theorem dX2_lastOnes_0 : decode cX2_lastOnes 0 = .ok (.iconst 0, 1) := by decide +kernel
theorem dX2_lastOnes_1 : decode cX2_lastOnes 1 = .ok (.istore_n 2, 1) := by decide +kernel
theorem dX2_lastOnes_2 : decode cX2_lastOnes 2 = .ok (.iconst 0, 1) := by decide +kernel
theorem dX2_lastOnes_3 : decode cX2_lastOnes 3 = .ok (.istore_n 3, 1) := by decide +kernel
theorem dX2_lastOnes_4 : decode cX2_lastOnes 4 = .ok (.iload_n 3, 1) := by decide +kernel
theorem dX2_lastOnes_5 : decode cX2_lastOnes 5 = .ok (.aload_n 1, 1) := by decide +kernel
theorem dX2_lastOnes_6 : decode cX2_lastOnes 6 = .ok (.getfield 42, 3) := by decide +kernel
theorem dX2_lastOnes_9 : decode cX2_lastOnes 9 = .ok (.if_icmp .ge 34, 3) := by decide +kernel
theorem dX2_lastOnes_12 : decode cX2_lastOnes 12 = .ok (.iconst 1, 1) := by decide +kernel
theorem dX2_lastOnes_13 : decode cX2_lastOnes 13 = .ok (.iload_n 3, 1) := by decide +kernel
theorem dX2_lastOnes_14 : decode cX2_lastOnes 14 = .ok (.ishl, 1) := by decide +kernel
theorem dX2_lastOnes_15 : decode cX2_lastOnes 15 = .ok (.istore 4, 2) := by decide +kernel
theorem dX2_lastOnes_17 : decode cX2_lastOnes 17 = .ok (.iload_n 2, 1) := by decide +kernel
theorem dX2_lastOnes_18 : decode cX2_lastOnes 18 = .ok (.aload_n 0, 1) := by decide +kernel
theorem dX2_lastOnes_19 : decode cX2_lastOnes 19 = .ok (.getfield 15, 3) := by decide +kernel
theorem dX2_lastOnes_22 : decode cX2_lastOnes 22 = .ok (.aload_n 1, 1) := by decide +kernel
theorem dX2_lastOnes_23 : decode cX2_lastOnes 23 = .ok (.invokevirtual 32, 3) := by decide +kernel
theorem dX2_lastOnes_26 : decode cX2_lastOnes 26 = .ok (.iload 4, 2) := by decide +kernel
theorem dX2_lastOnes_28 : decode cX2_lastOnes 28 = .ok (.iconst (-1), 1) := by decide +kernel
theorem dX2_lastOnes_29 : decode cX2_lastOnes 29 = .ok (.ixor, 1) := by decide +kernel
theorem dX2_lastOnes_30 : decode cX2_lastOnes 30 = .ok (.iand, 1) := by decide +kernel
theorem dX2_lastOnes_31 : decode cX2_lastOnes 31 = .ok (.iaload, 1) := by decide +kernel
theorem dX2_lastOnes_32 : decode cX2_lastOnes 32 = .ok (.iload 4, 2) := by decide +kernel
theorem dX2_lastOnes_34 : decode cX2_lastOnes 34 = .ok (.iand, 1) := by decide +kernel
theorem dX2_lastOnes_35 : decode cX2_lastOnes 35 = .ok (.ior, 1) := by decide +kernel
theorem dX2_lastOnes_36 : decode cX2_lastOnes 36 = .ok (.istore_n 2, 1) := by decide +kernel
theorem dX2_lastOnes_37 : decode cX2_lastOnes 37 = .ok (.iinc 3 1, 3) := by decide +kernel
theorem dX2_lastOnes_40 : decode cX2_lastOnes 40 = .ok (.goto (-36), 3) := by decide +kernel
theorem dX2_lastOnes_43 : decode cX2_lastOnes 43 = .ok (.iload_n 2, 1) := by decide +kernel
theorem dX2_lastOnes_44 : decode cX2_lastOnes 44 = .ok (.ireturn, 1) := by decide +kernel
theorem dX2_deadEnd_0 : decode cX2_deadEnd 0 = .ok (.bipush (-2), 2) := by decide +kernel
theorem dX2_deadEnd_2 : decode cX2_deadEnd 2 = .ok (.istore_n 2, 1) := by decide +kernel
theorem dX2_deadEnd_3 : decode cX2_deadEnd 3 = .ok (.iconst 0, 1) := by decide +kernel
theorem dX2_deadEnd_4 : decode cX2_deadEnd 4 = .ok (.istore_n 3, 1) := by decide +kernel
theorem dX2_deadEnd_5 : decode cX2_deadEnd 5 = .ok (.iload_n 3, 1) := by decide +kernel
theorem dX2_deadEnd_6 : decode cX2_deadEnd 6 = .ok (.aload_n 1, 1) := by decide +kernel
theorem dX2_deadEnd_7 : decode cX2_deadEnd 7 = .ok (.invokevirtual 32, 3) := by decide +kernel
theorem dX2_deadEnd_10 : decode cX2_deadEnd 10 = .ok (.if_icmp .gt 44, 3) := by decide +kernel
theorem dX2_deadEnd_13 : decode cX2_deadEnd 13 = .ok (.aload_n 0, 1) := by decide +kernel
theorem dX2_deadEnd_14 : decode cX2_deadEnd 14 = .ok (.getfield 9, 3) := by decide +kernel
theorem dX2_deadEnd_17 : decode cX2_deadEnd 17 = .ok (.iload_n 3, 1) := by decide +kernel
theorem dX2_deadEnd_18 : decode cX2_deadEnd 18 = .ok (.iaload, 1) := by decide +kernel
theorem dX2_deadEnd_19 : decode cX2_deadEnd 19 = .ok (.ifCond .eq 29, 3) := by decide +kernel
theorem dX2_deadEnd_22 : decode cX2_deadEnd 22 = .ok (.aload_n 0, 1) := by decide +kernel
theorem dX2_deadEnd_23 : decode cX2_deadEnd 23 = .ok (.getfield 18, 3) := by decide +kernel
theorem dX2_deadEnd_26 : decode cX2_deadEnd 26 = .ok (.iload_n 3, 1) := by decide +kernel
theorem dX2_deadEnd_27 : decode cX2_deadEnd 27 = .ok (.iaload, 1) := by decide +kernel
theorem dX2_deadEnd_28 : decode cX2_deadEnd 28 = .ok (.ifCond .ne 20, 3) := by decide +kernel
theorem dX2_deadEnd_31 : decode cX2_deadEnd 31 = .ok (.iload_n 2, 1) := by decide +kernel
theorem dX2_deadEnd_32 : decode cX2_deadEnd 32 = .ok (.ifCond .lt 14, 3) := by decide +kernel
theorem dX2_deadEnd_35 : decode cX2_deadEnd 35 = .ok (.iload_n 3, 1) := by decide +kernel
theorem dX2_deadEnd_36 : decode cX2_deadEnd 36 = .ok (.invokestatic 57, 3) := by decide +kernel
theorem dX2_deadEnd_39 : decode cX2_deadEnd 39 = .ok (.iload_n 2, 1) := by decide +kernel
theorem dX2_deadEnd_40 : decode cX2_deadEnd 40 = .ok (.invokestatic 57, 3) := by decide +kernel
theorem dX2_deadEnd_43 : decode cX2_deadEnd 43 = .ok (.if_icmp .ge 5, 3) := by decide +kernel
theorem dX2_deadEnd_46 : decode cX2_deadEnd 46 = .ok (.iload_n 3, 1) := by decide +kernel
theorem dX2_deadEnd_47 : decode cX2_deadEnd 47 = .ok (.istore_n 2, 1) := by decide +kernel
theorem dX2_deadEnd_48 : decode cX2_deadEnd 48 = .ok (.iinc 3 1, 3) := by decide +kernel
theorem dX2_deadEnd_51 : decode cX2_deadEnd 51 = .ok (.goto (-46), 3) := by decide +kernel
theorem dX2_deadEnd_54 : decode cX2_deadEnd 54 = .ok (.iload_n 2, 1) := by decide +kernel
theorem dX2_deadEnd_55 : decode cX2_deadEnd 55 = .ok (.ireturn, 1) := by decide +kernel
theorem dX2_largestBad_0 : decode cX2_largestBad 0 = .ok (.bipush (-2), 2) := by decide +kernel
theorem dX2_largestBad_2 : decode cX2_largestBad 2 = .ok (.istore_n 2, 1) := by decide +kernel
theorem dX2_largestBad_3 : decode cX2_largestBad 3 = .ok (.iconst 0, 1) := by decide +kernel
theorem dX2_largestBad_4 : decode cX2_largestBad 4 = .ok (.istore_n 3, 1) := by decide +kernel
theorem dX2_largestBad_5 : decode cX2_largestBad 5 = .ok (.iload_n 3, 1) := by decide +kernel
theorem dX2_largestBad_6 : decode cX2_largestBad 6 = .ok (.aload_n 1, 1) := by decide +kernel
theorem dX2_largestBad_7 : decode cX2_largestBad 7 = .ok (.invokevirtual 63, 3) := by decide +kernel
theorem dX2_largestBad_10 : decode cX2_largestBad 10 = .ok (.if_icmp .gt 48, 3) := by decide +kernel
theorem dX2_largestBad_13 : decode cX2_largestBad 13 = .ok (.aload_n 1, 1) := by decide +kernel
theorem dX2_largestBad_14 : decode cX2_largestBad 14 = .ok (.iload_n 3, 1) := by decide +kernel
theorem dX2_largestBad_15 : decode cX2_largestBad 15 = .ok (.invokevirtual 66, 3) := by decide +kernel
theorem dX2_largestBad_18 : decode cX2_largestBad 18 = .ok (.ifCond .eq 34, 3) := by decide +kernel
theorem dX2_largestBad_21 : decode cX2_largestBad 21 = .ok (.aload_n 0, 1) := by decide +kernel
theorem dX2_largestBad_22 : decode cX2_largestBad 22 = .ok (.getfield 9, 3) := by decide +kernel
theorem dX2_largestBad_25 : decode cX2_largestBad 25 = .ok (.aload_n 1, 1) := by decide +kernel
theorem dX2_largestBad_26 : decode cX2_largestBad 26 = .ok (.getfield 70, 3) := by decide +kernel
theorem dX2_largestBad_29 : decode cX2_largestBad 29 = .ok (.iload_n 3, 1) := by decide +kernel
theorem dX2_largestBad_30 : decode cX2_largestBad 30 = .ok (.iaload, 1) := by decide +kernel
theorem dX2_largestBad_31 : decode cX2_largestBad 31 = .ok (.iaload, 1) := by decide +kernel
theorem dX2_largestBad_32 : decode cX2_largestBad 32 = .ok (.ifCond .ne 20, 3) := by decide +kernel
theorem dX2_largestBad_35 : decode cX2_largestBad 35 = .ok (.iload_n 2, 1) := by decide +kernel
theorem dX2_largestBad_36 : decode cX2_largestBad 36 = .ok (.ifCond .lt 14, 3) := by decide +kernel
theorem dX2_largestBad_39 : decode cX2_largestBad 39 = .ok (.iload_n 3, 1) := by decide +kernel
theorem dX2_largestBad_40 : decode cX2_largestBad 40 = .ok (.invokestatic 57, 3) := by decide +kernel
theorem dX2_largestBad_43 : decode cX2_largestBad 43 = .ok (.iload_n 2, 1) := by decide +kernel
theorem dX2_largestBad_44 : decode cX2_largestBad 44 = .ok (.invokestatic 57, 3) := by decide +kernel
theorem dX2_largestBad_47 : decode cX2_largestBad 47 = .ok (.if_icmp .le 5, 3) := by decide +kernel
theorem dX2_largestBad_50 : decode cX2_largestBad 50 = .ok (.iload_n 3, 1) := by decide +kernel
theorem dX2_largestBad_51 : decode cX2_largestBad 51 = .ok (.istore_n 2, 1) := by decide +kernel
theorem dX2_largestBad_52 : decode cX2_largestBad 52 = .ok (.iinc 3 1, 3) := by decide +kernel
theorem dX2_largestBad_55 : decode cX2_largestBad 55 = .ok (.goto (-50), 3) := by decide +kernel
theorem dX2_largestBad_58 : decode cX2_largestBad 58 = .ok (.iload_n 2, 1) := by decide +kernel
theorem dX2_largestBad_59 : decode cX2_largestBad 59 = .ok (.ireturn, 1) := by decide +kernel
theorem dX3_init_0 : decode cX3_init 0 = .ok (.aload_n 0, 1) := by decide +kernel
theorem dX3_init_1 : decode cX3_init 1 = .ok (.invokespecial 3, 3) := by decide +kernel
theorem dX3_init_4 : decode cX3_init 4 = .ok (.aload_n 0, 1) := by decide +kernel
theorem dX3_init_5 : decode cX3_init 5 = .ok (.bipush 12, 2) := by decide +kernel
theorem dX3_init_7 : decode cX3_init 7 = .ok (.newarray .int, 2) := by decide +kernel
theorem dX3_init_9 : decode cX3_init 9 = .ok (.putfield 9, 3) := by decide +kernel
theorem dX3_init_12 : decode cX3_init 12 = .ok (.return_, 1) := by decide +kernel
theorem dX3_reset_0 : decode cX3_reset 0 = .ok (.iconst 0, 1) := by decide +kernel
theorem dX3_reset_1 : decode cX3_reset 1 = .ok (.istore_n 1, 1) := by decide +kernel
theorem dX3_reset_2 : decode cX3_reset 2 = .ok (.iload_n 1, 1) := by decide +kernel
theorem dX3_reset_3 : decode cX3_reset 3 = .ok (.bipush 12, 2) := by decide +kernel
theorem dX3_reset_5 : decode cX3_reset 5 = .ok (.if_icmp .ge 16, 3) := by decide +kernel
theorem dX3_reset_8 : decode cX3_reset 8 = .ok (.aload_n 0, 1) := by decide +kernel
theorem dX3_reset_9 : decode cX3_reset 9 = .ok (.getfield 9, 3) := by decide +kernel
theorem dX3_reset_12 : decode cX3_reset 12 = .ok (.iload_n 1, 1) := by decide +kernel
theorem dX3_reset_13 : decode cX3_reset 13 = .ok (.iload_n 1, 1) := by decide +kernel
theorem dX3_reset_14 : decode cX3_reset 14 = .ok (.iastore, 1) := by decide +kernel
theorem dX3_reset_15 : decode cX3_reset 15 = .ok (.iinc 1 1, 3) := by decide +kernel
theorem dX3_reset_18 : decode cX3_reset 18 = .ok (.goto (-16), 3) := by decide +kernel
theorem dX3_reset_21 : decode cX3_reset 21 = .ok (.return_, 1) := by decide +kernel
theorem dX3_append_0 : decode cX3_append 0 = .ok (.iload_n 1, 1) := by decide +kernel
theorem dX3_append_1 : decode cX3_append 1 = .ok (.ifCond .lt 16, 3) := by decide +kernel
theorem dX3_append_4 : decode cX3_append 4 = .ok (.iload_n 1, 1) := by decide +kernel
theorem dX3_append_5 : decode cX3_append 5 = .ok (.bipush 12, 2) := by decide +kernel
theorem dX3_append_7 : decode cX3_append 7 = .ok (.if_icmp .ge 10, 3) := by decide +kernel
theorem dX3_append_10 : decode cX3_append 10 = .ok (.aload_n 0, 1) := by decide +kernel
theorem dX3_append_11 : decode cX3_append 11 = .ok (.getfield 9, 3) := by decide +kernel
theorem dX3_append_14 : decode cX3_append 14 = .ok (.iload_n 1, 1) := by decide +kernel
theorem dX3_append_15 : decode cX3_append 15 = .ok (.iload_n 1, 1) := by decide +kernel
theorem dX3_append_16 : decode cX3_append 16 = .ok (.iastore, 1) := by decide +kernel
theorem dX3_append_17 : decode cX3_append 17 = .ok (.return_, 1) := by decide +kernel
theorem dX3_remove_0 : decode cX3_remove 0 = .ok (.iconst 0, 1) := by decide +kernel
theorem dX3_remove_1 : decode cX3_remove 1 = .ok (.istore_n 3, 1) := by decide +kernel
theorem dX3_remove_2 : decode cX3_remove 2 = .ok (.iconst 0, 1) := by decide +kernel
theorem dX3_remove_3 : decode cX3_remove 3 = .ok (.istore 4, 2) := by decide +kernel
theorem dX3_remove_5 : decode cX3_remove 5 = .ok (.iload 4, 2) := by decide +kernel
theorem dX3_remove_7 : decode cX3_remove 7 = .ok (.iload_n 1, 1) := by decide +kernel
theorem dX3_remove_8 : decode cX3_remove 8 = .ok (.if_icmp .ge 48, 3) := by decide +kernel
theorem dX3_remove_11 : decode cX3_remove 11 = .ok (.aload_n 0, 1) := by decide +kernel
theorem dX3_remove_12 : decode cX3_remove 12 = .ok (.getfield 9, 3) := by decide +kernel
theorem dX3_remove_15 : decode cX3_remove 15 = .ok (.iload 4, 2) := by decide +kernel
theorem dX3_remove_17 : decode cX3_remove 17 = .ok (.iaload, 1) := by decide +kernel
theorem dX3_remove_18 : decode cX3_remove 18 = .ok (.istore 5, 2) := by decide +kernel
theorem dX3_remove_20 : decode cX3_remove 20 = .ok (.iload 5, 2) := by decide +kernel
theorem dX3_remove_22 : decode cX3_remove 22 = .ok (.iload_n 2, 1) := by decide +kernel
theorem dX3_remove_23 : decode cX3_remove 23 = .ok (.if_icmp .eq 27, 3) := by decide +kernel
theorem dX3_remove_26 : decode cX3_remove 26 = .ok (.aload_n 0, 1) := by decide +kernel
theorem dX3_remove_27 : decode cX3_remove 27 = .ok (.getfield 9, 3) := by decide +kernel
theorem dX3_remove_30 : decode cX3_remove 30 = .ok (.iload_n 3, 1) := by decide +kernel
theorem dX3_remove_31 : decode cX3_remove 31 = .ok (.iload 5, 2) := by decide +kernel
theorem dX3_remove_33 : decode cX3_remove 33 = .ok (.iload_n 2, 1) := by decide +kernel
theorem dX3_remove_34 : decode cX3_remove 34 = .ok (.if_icmp .le 10, 3) := by decide +kernel
theorem dX3_remove_37 : decode cX3_remove 37 = .ok (.iload 5, 2) := by decide +kernel
theorem dX3_remove_39 : decode cX3_remove 39 = .ok (.iconst 1, 1) := by decide +kernel
theorem dX3_remove_40 : decode cX3_remove 40 = .ok (.isub, 1) := by decide +kernel
theorem dX3_remove_41 : decode cX3_remove 41 = .ok (.goto 5, 3) := by decide +kernel
theorem dX3_remove_44 : decode cX3_remove 44 = .ok (.iload 5, 2) := by decide +kernel
theorem dX3_remove_46 : decode cX3_remove 46 = .ok (.iastore, 1) := by decide +kernel
theorem dX3_remove_47 : decode cX3_remove 47 = .ok (.iinc 3 1, 3) := by decide +kernel
theorem dX3_remove_50 : decode cX3_remove 50 = .ok (.iinc 4 1, 3) := by decide +kernel
theorem dX3_remove_53 : decode cX3_remove 53 = .ok (.goto (-48), 3) := by decide +kernel
theorem dX3_remove_56 : decode cX3_remove 56 = .ok (.return_, 1) := by decide +kernel
theorem dX3_exchange_0 : decode cX3_exchange 0 = .ok (.iload_n 1, 1) := by decide +kernel
theorem dX3_exchange_1 : decode cX3_exchange 1 = .ok (.ifCond .lt 41, 3) := by decide +kernel
theorem dX3_exchange_4 : decode cX3_exchange 4 = .ok (.iload_n 1, 1) := by decide +kernel
theorem dX3_exchange_5 : decode cX3_exchange 5 = .ok (.iconst 1, 1) := by decide +kernel
theorem dX3_exchange_6 : decode cX3_exchange 6 = .ok (.iadd, 1) := by decide +kernel
theorem dX3_exchange_7 : decode cX3_exchange 7 = .ok (.bipush 12, 2) := by decide +kernel
theorem dX3_exchange_9 : decode cX3_exchange 9 = .ok (.if_icmp .ge 33, 3) := by decide +kernel
theorem dX3_exchange_12 : decode cX3_exchange 12 = .ok (.aload_n 0, 1) := by decide +kernel
theorem dX3_exchange_13 : decode cX3_exchange 13 = .ok (.getfield 9, 3) := by decide +kernel
theorem dX3_exchange_16 : decode cX3_exchange 16 = .ok (.iload_n 1, 1) := by decide +kernel
theorem dX3_exchange_17 : decode cX3_exchange 17 = .ok (.iaload, 1) := by decide +kernel
theorem dX3_exchange_18 : decode cX3_exchange 18 = .ok (.istore_n 2, 1) := by decide +kernel
theorem dX3_exchange_19 : decode cX3_exchange 19 = .ok (.aload_n 0, 1) := by decide +kernel
theorem dX3_exchange_20 : decode cX3_exchange 20 = .ok (.getfield 9, 3) := by decide +kernel
theorem dX3_exchange_23 : decode cX3_exchange 23 = .ok (.iload_n 1, 1) := by decide +kernel
theorem dX3_exchange_24 : decode cX3_exchange 24 = .ok (.aload_n 0, 1) := by decide +kernel
theorem dX3_exchange_25 : decode cX3_exchange 25 = .ok (.getfield 9, 3) := by decide +kernel
theorem dX3_exchange_28 : decode cX3_exchange 28 = .ok (.iload_n 1, 1) := by decide +kernel
theorem dX3_exchange_29 : decode cX3_exchange 29 = .ok (.iconst 1, 1) := by decide +kernel
theorem dX3_exchange_30 : decode cX3_exchange 30 = .ok (.iadd, 1) := by decide +kernel
theorem dX3_exchange_31 : decode cX3_exchange 31 = .ok (.iaload, 1) := by decide +kernel
theorem dX3_exchange_32 : decode cX3_exchange 32 = .ok (.iastore, 1) := by decide +kernel
theorem dX3_exchange_33 : decode cX3_exchange 33 = .ok (.aload_n 0, 1) := by decide +kernel
theorem dX3_exchange_34 : decode cX3_exchange 34 = .ok (.getfield 9, 3) := by decide +kernel
theorem dX3_exchange_37 : decode cX3_exchange 37 = .ok (.iload_n 1, 1) := by decide +kernel
theorem dX3_exchange_38 : decode cX3_exchange 38 = .ok (.iconst 1, 1) := by decide +kernel
theorem dX3_exchange_39 : decode cX3_exchange 39 = .ok (.iadd, 1) := by decide +kernel
theorem dX3_exchange_40 : decode cX3_exchange 40 = .ok (.iload_n 2, 1) := by decide +kernel
theorem dX3_exchange_41 : decode cX3_exchange 41 = .ok (.iastore, 1) := by decide +kernel
theorem dX3_exchange_42 : decode cX3_exchange 42 = .ok (.return_, 1) := by decide +kernel
theorem dX3_carry_0 : decode cX3_carry 0 = .ok (.iload_n 1, 1) := by decide +kernel
theorem dX3_carry_1 : decode cX3_carry 1 = .ok (.istore_n 3, 1) := by decide +kernel
theorem dX3_carry_2 : decode cX3_carry 2 = .ok (.iload_n 3, 1) := by decide +kernel
theorem dX3_carry_3 : decode cX3_carry 3 = .ok (.iload_n 2, 1) := by decide +kernel
theorem dX3_carry_4 : decode cX3_carry 4 = .ok (.if_icmp .ge 14, 3) := by decide +kernel
theorem dX3_carry_7 : decode cX3_carry 7 = .ok (.aload_n 0, 1) := by decide +kernel
theorem dX3_carry_8 : decode cX3_carry 8 = .ok (.iload_n 3, 1) := by decide +kernel
theorem dX3_carry_9 : decode cX3_carry 9 = .ok (.invokevirtual 15, 3) := by decide +kernel
theorem dX3_carry_12 : decode cX3_carry 12 = .ok (.iinc 3 1, 3) := by decide +kernel
theorem dX3_carry_15 : decode cX3_carry 15 = .ok (.goto (-13), 3) := by decide +kernel
theorem dX3_carry_18 : decode cX3_carry 18 = .ok (.iload_n 1, 1) := by decide +kernel
theorem dX3_carry_19 : decode cX3_carry 19 = .ok (.istore_n 3, 1) := by decide +kernel
theorem dX3_carry_20 : decode cX3_carry 20 = .ok (.iload_n 3, 1) := by decide +kernel
theorem dX3_carry_21 : decode cX3_carry 21 = .ok (.iload_n 2, 1) := by decide +kernel
theorem dX3_carry_22 : decode cX3_carry 22 = .ok (.if_icmp .le 16, 3) := by decide +kernel
theorem dX3_carry_25 : decode cX3_carry 25 = .ok (.aload_n 0, 1) := by decide +kernel
theorem dX3_carry_26 : decode cX3_carry 26 = .ok (.iload_n 3, 1) := by decide +kernel
theorem dX3_carry_27 : decode cX3_carry 27 = .ok (.iconst 1, 1) := by decide +kernel
theorem dX3_carry_28 : decode cX3_carry 28 = .ok (.isub, 1) := by decide +kernel
theorem dX3_carry_29 : decode cX3_carry 29 = .ok (.invokevirtual 15, 3) := by decide +kernel
theorem dX3_carry_32 : decode cX3_carry 32 = .ok (.iinc 3 (-1), 3) := by decide +kernel
theorem dX3_carry_35 : decode cX3_carry 35 = .ok (.goto (-15), 3) := by decide +kernel
theorem dX3_carry_38 : decode cX3_carry 38 = .ok (.return_, 1) := by decide +kernel
theorem dX3_isPlace_0 : decode cX3_isPlace 0 = .ok (.iload_n 2, 1) := by decide +kernel
theorem dX3_isPlace_1 : decode cX3_isPlace 1 = .ok (.ifCond .lt 15, 3) := by decide +kernel
theorem dX3_isPlace_4 : decode cX3_isPlace 4 = .ok (.iload_n 2, 1) := by decide +kernel
theorem dX3_isPlace_5 : decode cX3_isPlace 5 = .ok (.aload_n 1, 1) := by decide +kernel
theorem dX3_isPlace_6 : decode cX3_isPlace 6 = .ok (.getfield 19, 3) := by decide +kernel
theorem dX3_isPlace_9 : decode cX3_isPlace 9 = .ok (.if_icmp .ge 7, 3) := by decide +kernel
theorem dX3_isPlace_12 : decode cX3_isPlace 12 = .ok (.iconst 1, 1) := by decide +kernel
theorem dX3_isPlace_13 : decode cX3_isPlace 13 = .ok (.goto 4, 3) := by decide +kernel
theorem dX3_isPlace_16 : decode cX3_isPlace 16 = .ok (.iconst 0, 1) := by decide +kernel
theorem dX3_isPlace_17 : decode cX3_isPlace 17 = .ok (.ireturn, 1) := by decide +kernel
theorem dX3_ahead_0 : decode cX3_ahead 0 = .ok (.iconst 0, 1) := by decide +kernel
theorem dX3_ahead_1 : decode cX3_ahead 1 = .ok (.istore_n 2, 1) := by decide +kernel
theorem dX3_ahead_2 : decode cX3_ahead 2 = .ok (.iconst 0, 1) := by decide +kernel
theorem dX3_ahead_3 : decode cX3_ahead 3 = .ok (.istore_n 3, 1) := by decide +kernel
theorem dX3_ahead_4 : decode cX3_ahead 4 = .ok (.iload_n 3, 1) := by decide +kernel
theorem dX3_ahead_5 : decode cX3_ahead 5 = .ok (.iload_n 1, 1) := by decide +kernel
theorem dX3_ahead_6 : decode cX3_ahead 6 = .ok (.if_icmp .ge 26, 3) := by decide +kernel
theorem dX3_ahead_9 : decode cX3_ahead 9 = .ok (.iload_n 3, 1) := by decide +kernel
theorem dX3_ahead_10 : decode cX3_ahead 10 = .ok (.bipush 12, 2) := by decide +kernel
theorem dX3_ahead_12 : decode cX3_ahead 12 = .ok (.if_icmp .ge 20, 3) := by decide +kernel
theorem dX3_ahead_15 : decode cX3_ahead 15 = .ok (.iload_n 2, 1) := by decide +kernel
theorem dX3_ahead_16 : decode cX3_ahead 16 = .ok (.iconst 1, 1) := by decide +kernel
theorem dX3_ahead_17 : decode cX3_ahead 17 = .ok (.aload_n 0, 1) := by decide +kernel
theorem dX3_ahead_18 : decode cX3_ahead 18 = .ok (.getfield 9, 3) := by decide +kernel
theorem dX3_ahead_21 : decode cX3_ahead 21 = .ok (.iload_n 3, 1) := by decide +kernel
theorem dX3_ahead_22 : decode cX3_ahead 22 = .ok (.iaload, 1) := by decide +kernel
theorem dX3_ahead_23 : decode cX3_ahead 23 = .ok (.ishl, 1) := by decide +kernel
theorem dX3_ahead_24 : decode cX3_ahead 24 = .ok (.ior, 1) := by decide +kernel
theorem dX3_ahead_25 : decode cX3_ahead 25 = .ok (.istore_n 2, 1) := by decide +kernel
theorem dX3_ahead_26 : decode cX3_ahead 26 = .ok (.iinc 3 1, 3) := by decide +kernel
theorem dX3_ahead_29 : decode cX3_ahead 29 = .ok (.goto (-25), 3) := by decide +kernel
theorem dX3_ahead_32 : decode cX3_ahead 32 = .ok (.iload_n 2, 1) := by decide +kernel
theorem dX3_ahead_33 : decode cX3_ahead 33 = .ok (.ireturn, 1) := by decide +kernel
theorem dX3_fitsAt_0 : decode cX3_fitsAt 0 = .ok (.aload_n 1, 1) := by decide +kernel
theorem dX3_fitsAt_1 : decode cX3_fitsAt 1 = .ok (.aload_n 0, 1) := by decide +kernel
theorem dX3_fitsAt_2 : decode cX3_fitsAt 2 = .ok (.getfield 9, 3) := by decide +kernel
theorem dX3_fitsAt_5 : decode cX3_fitsAt 5 = .ok (.iload_n 2, 1) := by decide +kernel
theorem dX3_fitsAt_6 : decode cX3_fitsAt 6 = .ok (.iaload, 1) := by decide +kernel
theorem dX3_fitsAt_7 : decode cX3_fitsAt 7 = .ok (.aload_n 0, 1) := by decide +kernel
theorem dX3_fitsAt_8 : decode cX3_fitsAt 8 = .ok (.iload_n 2, 1) := by decide +kernel
theorem dX3_fitsAt_9 : decode cX3_fitsAt 9 = .ok (.invokevirtual 25, 3) := by decide +kernel
theorem dX3_fitsAt_12 : decode cX3_fitsAt 12 = .ok (.invokevirtual 29, 3) := by decide +kernel
theorem dX3_fitsAt_15 : decode cX3_fitsAt 15 = .ok (.ireturn, 1) := by decide +kernel
theorem dX3_restriction_0 : decode cX3_restriction 0 = .ok (.aload_n 1, 1) := by decide +kernel
theorem dX3_restriction_1 : decode cX3_restriction 1 = .ok (.aload_n 0, 1) := by decide +kernel
theorem dX3_restriction_2 : decode cX3_restriction 2 = .ok (.getfield 9, 3) := by decide +kernel
theorem dX3_restriction_5 : decode cX3_restriction 5 = .ok (.iload_n 2, 1) := by decide +kernel
theorem dX3_restriction_6 : decode cX3_restriction 6 = .ok (.iaload, 1) := by decide +kernel
theorem dX3_restriction_7 : decode cX3_restriction 7 = .ok (.aload_n 0, 1) := by decide +kernel
theorem dX3_restriction_8 : decode cX3_restriction 8 = .ok (.iload_n 2, 1) := by decide +kernel
theorem dX3_restriction_9 : decode cX3_restriction 9 = .ok (.invokevirtual 25, 3) := by decide +kernel
theorem dX3_restriction_12 : decode cX3_restriction 12 = .ok (.invokevirtual 33, 3) := by decide +kernel
theorem dX3_restriction_15 : decode cX3_restriction 15 = .ok (.ireturn, 1) := by decide +kernel
theorem dX3_goodStart_0 : decode cX3_goodStart 0 = .ok (.iconst 0, 1) := by decide +kernel
theorem dX3_goodStart_1 : decode cX3_goodStart 1 = .ok (.istore_n 2, 1) := by decide +kernel
theorem dX3_goodStart_2 : decode cX3_goodStart 2 = .ok (.iload_n 2, 1) := by decide +kernel
theorem dX3_goodStart_3 : decode cX3_goodStart 3 = .ok (.aload_n 1, 1) := by decide +kernel
theorem dX3_goodStart_4 : decode cX3_goodStart 4 = .ok (.getfield 19, 3) := by decide +kernel
theorem dX3_goodStart_7 : decode cX3_goodStart 7 = .ok (.if_icmp .ge 20, 3) := by decide +kernel
theorem dX3_goodStart_10 : decode cX3_goodStart 10 = .ok (.aload_n 0, 1) := by decide +kernel
theorem dX3_goodStart_11 : decode cX3_goodStart 11 = .ok (.aload_n 1, 1) := by decide +kernel
theorem dX3_goodStart_12 : decode cX3_goodStart 12 = .ok (.iload_n 2, 1) := by decide +kernel
theorem dX3_goodStart_13 : decode cX3_goodStart 13 = .ok (.invokevirtual 37, 3) := by decide +kernel
theorem dX3_goodStart_16 : decode cX3_goodStart 16 = .ok (.ifCond .ne 5, 3) := by decide +kernel
theorem dX3_goodStart_19 : decode cX3_goodStart 19 = .ok (.iload_n 2, 1) := by decide +kernel
theorem dX3_goodStart_20 : decode cX3_goodStart 20 = .ok (.ireturn, 1) := by decide +kernel
theorem dX3_goodStart_21 : decode cX3_goodStart 21 = .ok (.iinc 2 1, 3) := by decide +kernel
theorem dX3_goodStart_24 : decode cX3_goodStart 24 = .ok (.goto (-22), 3) := by decide +kernel
theorem dX3_goodStart_27 : decode cX3_goodStart 27 = .ok (.aload_n 1, 1) := by decide +kernel
theorem dX3_goodStart_28 : decode cX3_goodStart 28 = .ok (.getfield 19, 3) := by decide +kernel
theorem dX3_goodStart_31 : decode cX3_goodStart 31 = .ok (.ireturn, 1) := by decide +kernel
theorem dX3_nthBreak_0 : decode cX3_nthBreak 0 = .ok (.iload_n 2, 1) := by decide +kernel
theorem dX3_nthBreak_1 : decode cX3_nthBreak 1 = .ok (.istore_n 3, 1) := by decide +kernel
theorem dX3_nthBreak_2 : decode cX3_nthBreak 2 = .ok (.iconst 0, 1) := by decide +kernel
theorem dX3_nthBreak_3 : decode cX3_nthBreak 3 = .ok (.istore 4, 2) := by decide +kernel
theorem dX3_nthBreak_5 : decode cX3_nthBreak 5 = .ok (.iload 4, 2) := by decide +kernel
theorem dX3_nthBreak_7 : decode cX3_nthBreak 7 = .ok (.aload_n 1, 1) := by decide +kernel
theorem dX3_nthBreak_8 : decode cX3_nthBreak 8 = .ok (.getfield 19, 3) := by decide +kernel
theorem dX3_nthBreak_11 : decode cX3_nthBreak 11 = .ok (.if_icmp .ge 33, 3) := by decide +kernel
theorem dX3_nthBreak_14 : decode cX3_nthBreak 14 = .ok (.iload_n 3, 1) := by decide +kernel
theorem dX3_nthBreak_15 : decode cX3_nthBreak 15 = .ok (.ifCond .lt 29, 3) := by decide +kernel
theorem dX3_nthBreak_18 : decode cX3_nthBreak 18 = .ok (.aload_n 0, 1) := by decide +kernel
theorem dX3_nthBreak_19 : decode cX3_nthBreak 19 = .ok (.aload_n 1, 1) := by decide +kernel
theorem dX3_nthBreak_20 : decode cX3_nthBreak 20 = .ok (.iload 4, 2) := by decide +kernel
theorem dX3_nthBreak_22 : decode cX3_nthBreak 22 = .ok (.invokevirtual 37, 3) := by decide +kernel
theorem dX3_nthBreak_25 : decode cX3_nthBreak 25 = .ok (.ifCond .ne 13, 3) := by decide +kernel
theorem dX3_nthBreak_28 : decode cX3_nthBreak 28 = .ok (.iload_n 3, 1) := by decide +kernel
theorem dX3_nthBreak_29 : decode cX3_nthBreak 29 = .ok (.ifCond .ne 6, 3) := by decide +kernel
theorem dX3_nthBreak_32 : decode cX3_nthBreak 32 = .ok (.iload 4, 2) := by decide +kernel
theorem dX3_nthBreak_34 : decode cX3_nthBreak 34 = .ok (.ireturn, 1) := by decide +kernel
theorem dX3_nthBreak_35 : decode cX3_nthBreak 35 = .ok (.iinc 3 (-1), 3) := by decide +kernel
theorem dX3_nthBreak_38 : decode cX3_nthBreak 38 = .ok (.iinc 4 1, 3) := by decide +kernel
theorem dX3_nthBreak_41 : decode cX3_nthBreak 41 = .ok (.goto (-36), 3) := by decide +kernel
theorem dX3_nthBreak_44 : decode cX3_nthBreak 44 = .ok (.iconst (-1), 1) := by decide +kernel
theorem dX3_nthBreak_45 : decode cX3_nthBreak 45 = .ok (.ireturn, 1) := by decide +kernel
theorem dX3_countRestrictions_0 : decode cX3_countRestrictions 0 = .ok (.iconst 0, 1) := by decide +kernel
theorem dX3_countRestrictions_1 : decode cX3_countRestrictions 1 = .ok (.istore_n 3, 1) := by decide +kernel
theorem dX3_countRestrictions_2 : decode cX3_countRestrictions 2 = .ok (.iconst 0, 1) := by decide +kernel
theorem dX3_countRestrictions_3 : decode cX3_countRestrictions 3 = .ok (.istore 4, 2) := by decide +kernel
theorem dX3_countRestrictions_5 : decode cX3_countRestrictions 5 = .ok (.iload 4, 2) := by decide +kernel
theorem dX3_countRestrictions_7 : decode cX3_countRestrictions 7 = .ok (.aload_n 1, 1) := by decide +kernel
theorem dX3_countRestrictions_8 : decode cX3_countRestrictions 8 = .ok (.getfield 19, 3) := by decide +kernel
theorem dX3_countRestrictions_11 : decode cX3_countRestrictions 11 = .ok (.if_icmp .ge 26, 3) := by decide +kernel
theorem dX3_countRestrictions_14 : decode cX3_countRestrictions 14 = .ok (.aload_n 0, 1) := by decide +kernel
theorem dX3_countRestrictions_15 : decode cX3_countRestrictions 15 = .ok (.aload_n 1, 1) := by decide +kernel
theorem dX3_countRestrictions_16 : decode cX3_countRestrictions 16 = .ok (.iload 4, 2) := by decide +kernel
theorem dX3_countRestrictions_18 : decode cX3_countRestrictions 18 = .ok (.invokevirtual 41, 3) := by decide +kernel
theorem dX3_countRestrictions_21 : decode cX3_countRestrictions 21 = .ok (.invokestatic 44, 3) := by decide +kernel
theorem dX3_countRestrictions_24 : decode cX3_countRestrictions 24 = .ok (.iload_n 2, 1) := by decide +kernel
theorem dX3_countRestrictions_25 : decode cX3_countRestrictions 25 = .ok (.if_icmp .ne 6, 3) := by decide +kernel
theorem dX3_countRestrictions_28 : decode cX3_countRestrictions 28 = .ok (.iinc 3 1, 3) := by decide +kernel
theorem dX3_countRestrictions_31 : decode cX3_countRestrictions 31 = .ok (.iinc 4 1, 3) := by decide +kernel
theorem dX3_countRestrictions_34 : decode cX3_countRestrictions 34 = .ok (.goto (-29), 3) := by decide +kernel
theorem dX3_countRestrictions_37 : decode cX3_countRestrictions 37 = .ok (.iload_n 3, 1) := by decide +kernel
theorem dX3_countRestrictions_38 : decode cX3_countRestrictions 38 = .ok (.ireturn, 1) := by decide +kernel
theorem dX3_isSpanning_0 : decode cX3_isSpanning 0 = .ok (.aload_n 0, 1) := by decide +kernel
theorem dX3_isSpanning_1 : decode cX3_isSpanning 1 = .ok (.aload_n 1, 1) := by decide +kernel
theorem dX3_isSpanning_2 : decode cX3_isSpanning 2 = .ok (.iload_n 2, 1) := by decide +kernel
theorem dX3_isSpanning_3 : decode cX3_isSpanning 3 = .ok (.invokevirtual 41, 3) := by decide +kernel
theorem dX3_isSpanning_6 : decode cX3_isSpanning 6 = .ok (.invokestatic 44, 3) := by decide +kernel
theorem dX3_isSpanning_9 : decode cX3_isSpanning 9 = .ok (.aload_n 1, 1) := by decide +kernel
theorem dX3_isSpanning_10 : decode cX3_isSpanning 10 = .ok (.getfield 49, 3) := by decide +kernel
theorem dX3_isSpanning_13 : decode cX3_isSpanning 13 = .ok (.if_icmp .ne 7, 3) := by decide +kernel
theorem dX3_isSpanning_16 : decode cX3_isSpanning 16 = .ok (.iconst 1, 1) := by decide +kernel
theorem dX3_isSpanning_17 : decode cX3_isSpanning 17 = .ok (.goto 4, 3) := by decide +kernel
theorem dX3_isSpanning_20 : decode cX3_isSpanning 20 = .ok (.iconst 0, 1) := by decide +kernel
theorem dX3_isSpanning_21 : decode cX3_isSpanning 21 = .ok (.ireturn, 1) := by decide +kernel
theorem dX3_nthSpanning_0 : decode cX3_nthSpanning 0 = .ok (.iload_n 2, 1) := by decide +kernel
theorem dX3_nthSpanning_1 : decode cX3_nthSpanning 1 = .ok (.istore_n 3, 1) := by decide +kernel
theorem dX3_nthSpanning_2 : decode cX3_nthSpanning 2 = .ok (.iconst 0, 1) := by decide +kernel
theorem dX3_nthSpanning_3 : decode cX3_nthSpanning 3 = .ok (.istore 4, 2) := by decide +kernel
theorem dX3_nthSpanning_5 : decode cX3_nthSpanning 5 = .ok (.iload 4, 2) := by decide +kernel
theorem dX3_nthSpanning_7 : decode cX3_nthSpanning 7 = .ok (.aload_n 1, 1) := by decide +kernel
theorem dX3_nthSpanning_8 : decode cX3_nthSpanning 8 = .ok (.getfield 19, 3) := by decide +kernel
theorem dX3_nthSpanning_11 : decode cX3_nthSpanning 11 = .ok (.if_icmp .ge 33, 3) := by decide +kernel
theorem dX3_nthSpanning_14 : decode cX3_nthSpanning 14 = .ok (.iload_n 3, 1) := by decide +kernel
theorem dX3_nthSpanning_15 : decode cX3_nthSpanning 15 = .ok (.ifCond .lt 29, 3) := by decide +kernel
theorem dX3_nthSpanning_18 : decode cX3_nthSpanning 18 = .ok (.aload_n 0, 1) := by decide +kernel
theorem dX3_nthSpanning_19 : decode cX3_nthSpanning 19 = .ok (.aload_n 1, 1) := by decide +kernel
theorem dX3_nthSpanning_20 : decode cX3_nthSpanning 20 = .ok (.iload 4, 2) := by decide +kernel
theorem dX3_nthSpanning_22 : decode cX3_nthSpanning 22 = .ok (.invokevirtual 52, 3) := by decide +kernel
theorem dX3_nthSpanning_25 : decode cX3_nthSpanning 25 = .ok (.ifCond .eq 13, 3) := by decide +kernel
theorem dX3_nthSpanning_28 : decode cX3_nthSpanning 28 = .ok (.iload_n 3, 1) := by decide +kernel
theorem dX3_nthSpanning_29 : decode cX3_nthSpanning 29 = .ok (.ifCond .ne 6, 3) := by decide +kernel
theorem dX3_nthSpanning_32 : decode cX3_nthSpanning 32 = .ok (.iload 4, 2) := by decide +kernel
theorem dX3_nthSpanning_34 : decode cX3_nthSpanning 34 = .ok (.ireturn, 1) := by decide +kernel
theorem dX3_nthSpanning_35 : decode cX3_nthSpanning 35 = .ok (.iinc 3 (-1), 3) := by decide +kernel
theorem dX3_nthSpanning_38 : decode cX3_nthSpanning 38 = .ok (.iinc 4 1, 3) := by decide +kernel
theorem dX3_nthSpanning_41 : decode cX3_nthSpanning 41 = .ok (.goto (-36), 3) := by decide +kernel
theorem dX3_nthSpanning_44 : decode cX3_nthSpanning 44 = .ok (.iconst (-1), 1) := by decide +kernel
theorem dX3_nthSpanning_45 : decode cX3_nthSpanning 45 = .ok (.ireturn, 1) := by decide +kernel
theorem dX3_spanningFacets_0 : decode cX3_spanningFacets 0 = .ok (.iconst 0, 1) := by decide +kernel
theorem dX3_spanningFacets_1 : decode cX3_spanningFacets 1 = .ok (.istore_n 2, 1) := by decide +kernel
theorem dX3_spanningFacets_2 : decode cX3_spanningFacets 2 = .ok (.iconst 0, 1) := by decide +kernel
theorem dX3_spanningFacets_3 : decode cX3_spanningFacets 3 = .ok (.istore_n 3, 1) := by decide +kernel
theorem dX3_spanningFacets_4 : decode cX3_spanningFacets 4 = .ok (.iload_n 3, 1) := by decide +kernel
theorem dX3_spanningFacets_5 : decode cX3_spanningFacets 5 = .ok (.aload_n 1, 1) := by decide +kernel
theorem dX3_spanningFacets_6 : decode cX3_spanningFacets 6 = .ok (.getfield 19, 3) := by decide +kernel
theorem dX3_spanningFacets_9 : decode cX3_spanningFacets 9 = .ok (.if_icmp .ge 29, 3) := by decide +kernel
theorem dX3_spanningFacets_12 : decode cX3_spanningFacets 12 = .ok (.aload_n 0, 1) := by decide +kernel
theorem dX3_spanningFacets_13 : decode cX3_spanningFacets 13 = .ok (.aload_n 1, 1) := by decide +kernel
theorem dX3_spanningFacets_14 : decode cX3_spanningFacets 14 = .ok (.iload_n 3, 1) := by decide +kernel
theorem dX3_spanningFacets_15 : decode cX3_spanningFacets 15 = .ok (.invokevirtual 52, 3) := by decide +kernel
theorem dX3_spanningFacets_18 : decode cX3_spanningFacets 18 = .ok (.ifCond .eq 14, 3) := by decide +kernel
theorem dX3_spanningFacets_21 : decode cX3_spanningFacets 21 = .ok (.iload_n 2, 1) := by decide +kernel
theorem dX3_spanningFacets_22 : decode cX3_spanningFacets 22 = .ok (.iconst 1, 1) := by decide +kernel
theorem dX3_spanningFacets_23 : decode cX3_spanningFacets 23 = .ok (.aload_n 0, 1) := by decide +kernel
theorem dX3_spanningFacets_24 : decode cX3_spanningFacets 24 = .ok (.getfield 9, 3) := by decide +kernel
theorem dX3_spanningFacets_27 : decode cX3_spanningFacets 27 = .ok (.iload_n 3, 1) := by decide +kernel
theorem dX3_spanningFacets_28 : decode cX3_spanningFacets 28 = .ok (.iaload, 1) := by decide +kernel
theorem dX3_spanningFacets_29 : decode cX3_spanningFacets 29 = .ok (.ishl, 1) := by decide +kernel
theorem dX3_spanningFacets_30 : decode cX3_spanningFacets 30 = .ok (.ior, 1) := by decide +kernel
theorem dX3_spanningFacets_31 : decode cX3_spanningFacets 31 = .ok (.istore_n 2, 1) := by decide +kernel
theorem dX3_spanningFacets_32 : decode cX3_spanningFacets 32 = .ok (.iinc 3 1, 3) := by decide +kernel
theorem dX3_spanningFacets_35 : decode cX3_spanningFacets 35 = .ok (.goto (-31), 3) := by decide +kernel
theorem dX3_spanningFacets_38 : decode cX3_spanningFacets 38 = .ok (.iload_n 2, 1) := by decide +kernel
theorem dX3_spanningFacets_39 : decode cX3_spanningFacets 39 = .ok (.ireturn, 1) := by decide +kernel
theorem dX3_firstWith_0 : decode cX3_firstWith 0 = .ok (.iconst 0, 1) := by decide +kernel
theorem dX3_firstWith_1 : decode cX3_firstWith 1 = .ok (.istore_n 3, 1) := by decide +kernel
theorem dX3_firstWith_2 : decode cX3_firstWith 2 = .ok (.iload_n 3, 1) := by decide +kernel
theorem dX3_firstWith_3 : decode cX3_firstWith 3 = .ok (.aload_n 1, 1) := by decide +kernel
theorem dX3_firstWith_4 : decode cX3_firstWith 4 = .ok (.getfield 19, 3) := by decide +kernel
theorem dX3_firstWith_7 : decode cX3_firstWith 7 = .ok (.if_icmp .ge 30, 3) := by decide +kernel
theorem dX3_firstWith_10 : decode cX3_firstWith 10 = .ok (.aload_n 1, 1) := by decide +kernel
theorem dX3_firstWith_11 : decode cX3_firstWith 11 = .ok (.getfield 55, 3) := by decide +kernel
theorem dX3_firstWith_14 : decode cX3_firstWith 14 = .ok (.iload_n 2, 1) := by decide +kernel
theorem dX3_firstWith_15 : decode cX3_firstWith 15 = .ok (.iaload, 1) := by decide +kernel
theorem dX3_firstWith_16 : decode cX3_firstWith 16 = .ok (.aload_n 0, 1) := by decide +kernel
theorem dX3_firstWith_17 : decode cX3_firstWith 17 = .ok (.getfield 9, 3) := by decide +kernel
theorem dX3_firstWith_20 : decode cX3_firstWith 20 = .ok (.iload_n 3, 1) := by decide +kernel
theorem dX3_firstWith_21 : decode cX3_firstWith 21 = .ok (.iaload, 1) := by decide +kernel
theorem dX3_firstWith_22 : decode cX3_firstWith 22 = .ok (.ishr, 1) := by decide +kernel
theorem dX3_firstWith_23 : decode cX3_firstWith 23 = .ok (.iconst 1, 1) := by decide +kernel
theorem dX3_firstWith_24 : decode cX3_firstWith 24 = .ok (.iand, 1) := by decide +kernel
theorem dX3_firstWith_25 : decode cX3_firstWith 25 = .ok (.iconst 1, 1) := by decide +kernel
theorem dX3_firstWith_26 : decode cX3_firstWith 26 = .ok (.if_icmp .ne 5, 3) := by decide +kernel
theorem dX3_firstWith_29 : decode cX3_firstWith 29 = .ok (.iload_n 3, 1) := by decide +kernel
theorem dX3_firstWith_30 : decode cX3_firstWith 30 = .ok (.ireturn, 1) := by decide +kernel
theorem dX3_firstWith_31 : decode cX3_firstWith 31 = .ok (.iinc 3 1, 3) := by decide +kernel
theorem dX3_firstWith_34 : decode cX3_firstWith 34 = .ok (.goto (-32), 3) := by decide +kernel
theorem dX3_firstWith_37 : decode cX3_firstWith 37 = .ok (.bipush (-2), 2) := by decide +kernel
theorem dX3_firstWith_39 : decode cX3_firstWith 39 = .ok (.ireturn, 1) := by decide +kernel
theorem dX3_countBetween_0 : decode cX3_countBetween 0 = .ok (.iconst 0, 1) := by decide +kernel
theorem dX3_countBetween_1 : decode cX3_countBetween 1 = .ok (.istore_n 3, 1) := by decide +kernel
theorem dX3_countBetween_2 : decode cX3_countBetween 2 = .ok (.iconst 0, 1) := by decide +kernel
theorem dX3_countBetween_3 : decode cX3_countBetween 3 = .ok (.istore 4, 2) := by decide +kernel
theorem dX3_countBetween_5 : decode cX3_countBetween 5 = .ok (.iload 4, 2) := by decide +kernel
theorem dX3_countBetween_7 : decode cX3_countBetween 7 = .ok (.aload_n 1, 1) := by decide +kernel
theorem dX3_countBetween_8 : decode cX3_countBetween 8 = .ok (.getfield 19, 3) := by decide +kernel
theorem dX3_countBetween_11 : decode cX3_countBetween 11 = .ok (.if_icmp .ge 46, 3) := by decide +kernel
theorem dX3_countBetween_14 : decode cX3_countBetween 14 = .ok (.aload_n 1, 1) := by decide +kernel
theorem dX3_countBetween_15 : decode cX3_countBetween 15 = .ok (.getfield 55, 3) := by decide +kernel
theorem dX3_countBetween_18 : decode cX3_countBetween 18 = .ok (.iload_n 2, 1) := by decide +kernel
theorem dX3_countBetween_19 : decode cX3_countBetween 19 = .ok (.iaload, 1) := by decide +kernel
theorem dX3_countBetween_20 : decode cX3_countBetween 20 = .ok (.aload_n 0, 1) := by decide +kernel
theorem dX3_countBetween_21 : decode cX3_countBetween 21 = .ok (.getfield 9, 3) := by decide +kernel
theorem dX3_countBetween_24 : decode cX3_countBetween 24 = .ok (.iload 4, 2) := by decide +kernel
theorem dX3_countBetween_26 : decode cX3_countBetween 26 = .ok (.iaload, 1) := by decide +kernel
theorem dX3_countBetween_27 : decode cX3_countBetween 27 = .ok (.ishr, 1) := by decide +kernel
theorem dX3_countBetween_28 : decode cX3_countBetween 28 = .ok (.iconst 1, 1) := by decide +kernel
theorem dX3_countBetween_29 : decode cX3_countBetween 29 = .ok (.iand, 1) := by decide +kernel
theorem dX3_countBetween_30 : decode cX3_countBetween 30 = .ok (.iconst 1, 1) := by decide +kernel
theorem dX3_countBetween_31 : decode cX3_countBetween 31 = .ok (.if_icmp .ne 20, 3) := by decide +kernel
theorem dX3_countBetween_34 : decode cX3_countBetween 34 = .ok (.aload_n 0, 1) := by decide +kernel
theorem dX3_countBetween_35 : decode cX3_countBetween 35 = .ok (.aload_n 1, 1) := by decide +kernel
theorem dX3_countBetween_36 : decode cX3_countBetween 36 = .ok (.iload 4, 2) := by decide +kernel
theorem dX3_countBetween_38 : decode cX3_countBetween 38 = .ok (.invokevirtual 41, 3) := by decide +kernel
theorem dX3_countBetween_41 : decode cX3_countBetween 41 = .ok (.iload_n 2, 1) := by decide +kernel
theorem dX3_countBetween_42 : decode cX3_countBetween 42 = .ok (.iconst (-1), 1) := by decide +kernel
theorem dX3_countBetween_43 : decode cX3_countBetween 43 = .ok (.ixor, 1) := by decide +kernel
theorem dX3_countBetween_44 : decode cX3_countBetween 44 = .ok (.iand, 1) := by decide +kernel
theorem dX3_countBetween_45 : decode cX3_countBetween 45 = .ok (.ifCond .ne 6, 3) := by decide +kernel
theorem dX3_countBetween_48 : decode cX3_countBetween 48 = .ok (.iinc 3 1, 3) := by decide +kernel
theorem dX3_countBetween_51 : decode cX3_countBetween 51 = .ok (.iinc 4 1, 3) := by decide +kernel
theorem dX3_countBetween_54 : decode cX3_countBetween 54 = .ok (.goto (-49), 3) := by decide +kernel
theorem dX3_countBetween_57 : decode cX3_countBetween 57 = .ok (.iload_n 3, 1) := by decide +kernel
theorem dX3_countBetween_58 : decode cX3_countBetween 58 = .ok (.ireturn, 1) := by decide +kernel
theorem dX3_leapOver_0 : decode cX3_leapOver 0 = .ok (.aload_n 1, 1) := by decide +kernel
theorem dX3_leapOver_1 : decode cX3_leapOver 1 = .ok (.getfield 58, 3) := by decide +kernel
theorem dX3_leapOver_4 : decode cX3_leapOver 4 = .ok (.aload_n 0, 1) := by decide +kernel
theorem dX3_leapOver_5 : decode cX3_leapOver 5 = .ok (.getfield 9, 3) := by decide +kernel
theorem dX3_leapOver_8 : decode cX3_leapOver 8 = .ok (.iload_n 2, 1) := by decide +kernel
theorem dX3_leapOver_9 : decode cX3_leapOver 9 = .ok (.iaload, 1) := by decide +kernel
theorem dX3_leapOver_10 : decode cX3_leapOver 10 = .ok (.iaload, 1) := by decide +kernel
theorem dX3_leapOver_11 : decode cX3_leapOver 11 = .ok (.aload_n 1, 1) := by decide +kernel
theorem dX3_leapOver_12 : decode cX3_leapOver 12 = .ok (.getfield 58, 3) := by decide +kernel
theorem dX3_leapOver_15 : decode cX3_leapOver 15 = .ok (.aload_n 0, 1) := by decide +kernel
theorem dX3_leapOver_16 : decode cX3_leapOver 16 = .ok (.getfield 9, 3) := by decide +kernel
theorem dX3_leapOver_19 : decode cX3_leapOver 19 = .ok (.iload_n 3, 1) := by decide +kernel
theorem dX3_leapOver_20 : decode cX3_leapOver 20 = .ok (.iaload, 1) := by decide +kernel
theorem dX3_leapOver_21 : decode cX3_leapOver 21 = .ok (.iaload, 1) := by decide +kernel
theorem dX3_leapOver_22 : decode cX3_leapOver 22 = .ok (.iconst (-1), 1) := by decide +kernel
theorem dX3_leapOver_23 : decode cX3_leapOver 23 = .ok (.ixor, 1) := by decide +kernel
theorem dX3_leapOver_24 : decode cX3_leapOver 24 = .ok (.iand, 1) := by decide +kernel
theorem dX3_leapOver_25 : decode cX3_leapOver 25 = .ok (.ireturn, 1) := by decide +kernel
theorem dX3_isLeast_0 : decode cX3_isLeast 0 = .ok (.iconst 0, 1) := by decide +kernel
theorem dX3_isLeast_1 : decode cX3_isLeast 1 = .ok (.istore 4, 2) := by decide +kernel
theorem dX3_isLeast_3 : decode cX3_isLeast 3 = .ok (.iload 4, 2) := by decide +kernel
theorem dX3_isLeast_5 : decode cX3_isLeast 5 = .ok (.iload_n 2, 1) := by decide +kernel
theorem dX3_isLeast_6 : decode cX3_isLeast 6 = .ok (.if_icmp .ge 36, 3) := by decide +kernel
theorem dX3_isLeast_9 : decode cX3_isLeast 9 = .ok (.aload_n 0, 1) := by decide +kernel
theorem dX3_isLeast_10 : decode cX3_isLeast 10 = .ok (.aload_n 1, 1) := by decide +kernel
theorem dX3_isLeast_11 : decode cX3_isLeast 11 = .ok (.iload_n 2, 1) := by decide +kernel
theorem dX3_isLeast_12 : decode cX3_isLeast 12 = .ok (.iload 4, 2) := by decide +kernel
theorem dX3_isLeast_14 : decode cX3_isLeast 14 = .ok (.invokevirtual 61, 3) := by decide +kernel
theorem dX3_isLeast_17 : decode cX3_isLeast 17 = .ok (.istore 5, 2) := by decide +kernel
theorem dX3_isLeast_19 : decode cX3_isLeast 19 = .ok (.iload 5, 2) := by decide +kernel
theorem dX3_isLeast_21 : decode cX3_isLeast 21 = .ok (.iload_n 3, 1) := by decide +kernel
theorem dX3_isLeast_22 : decode cX3_isLeast 22 = .ok (.if_icmp .eq 14, 3) := by decide +kernel
theorem dX3_isLeast_25 : decode cX3_isLeast 25 = .ok (.iload 5, 2) := by decide +kernel
theorem dX3_isLeast_27 : decode cX3_isLeast 27 = .ok (.iload_n 3, 1) := by decide +kernel
theorem dX3_isLeast_28 : decode cX3_isLeast 28 = .ok (.iconst (-1), 1) := by decide +kernel
theorem dX3_isLeast_29 : decode cX3_isLeast 29 = .ok (.ixor, 1) := by decide +kernel
theorem dX3_isLeast_30 : decode cX3_isLeast 30 = .ok (.iand, 1) := by decide +kernel
theorem dX3_isLeast_31 : decode cX3_isLeast 31 = .ok (.ifCond .ne 5, 3) := by decide +kernel
theorem dX3_isLeast_34 : decode cX3_isLeast 34 = .ok (.iconst 0, 1) := by decide +kernel
theorem dX3_isLeast_35 : decode cX3_isLeast 35 = .ok (.ireturn, 1) := by decide +kernel
theorem dX3_isLeast_36 : decode cX3_isLeast 36 = .ok (.iinc 4 1, 3) := by decide +kernel
theorem dX3_isLeast_39 : decode cX3_isLeast 39 = .ok (.goto (-36), 3) := by decide +kernel
theorem dX3_isLeast_42 : decode cX3_isLeast 42 = .ok (.iconst 1, 1) := by decide +kernel
theorem dX3_isLeast_43 : decode cX3_isLeast 43 = .ok (.ireturn, 1) := by decide +kernel
theorem dX3_isLeap_0 : decode cX3_isLeap 0 = .ok (.iconst 0, 1) := by decide +kernel
theorem dX3_isLeap_1 : decode cX3_isLeap 1 = .ok (.istore 4, 2) := by decide +kernel
theorem dX3_isLeap_3 : decode cX3_isLeap 3 = .ok (.iload 4, 2) := by decide +kernel
theorem dX3_isLeap_5 : decode cX3_isLeap 5 = .ok (.iload_n 2, 1) := by decide +kernel
theorem dX3_isLeap_6 : decode cX3_isLeap 6 = .ok (.if_icmp .ge 23, 3) := by decide +kernel
theorem dX3_isLeap_9 : decode cX3_isLeap 9 = .ok (.aload_n 0, 1) := by decide +kernel
theorem dX3_isLeap_10 : decode cX3_isLeap 10 = .ok (.aload_n 1, 1) := by decide +kernel
theorem dX3_isLeap_11 : decode cX3_isLeap 11 = .ok (.iload_n 2, 1) := by decide +kernel
theorem dX3_isLeap_12 : decode cX3_isLeap 12 = .ok (.iload 4, 2) := by decide +kernel
theorem dX3_isLeap_14 : decode cX3_isLeap 14 = .ok (.invokevirtual 61, 3) := by decide +kernel
theorem dX3_isLeap_17 : decode cX3_isLeap 17 = .ok (.iload_n 3, 1) := by decide +kernel
theorem dX3_isLeap_18 : decode cX3_isLeap 18 = .ok (.if_icmp .ne 5, 3) := by decide +kernel
theorem dX3_isLeap_21 : decode cX3_isLeap 21 = .ok (.iconst 1, 1) := by decide +kernel
theorem dX3_isLeap_22 : decode cX3_isLeap 22 = .ok (.ireturn, 1) := by decide +kernel
theorem dX3_isLeap_23 : decode cX3_isLeap 23 = .ok (.iinc 4 1, 3) := by decide +kernel
theorem dX3_isLeap_26 : decode cX3_isLeap 26 = .ok (.goto (-23), 3) := by decide +kernel
theorem dX3_isLeap_29 : decode cX3_isLeap 29 = .ok (.iconst 0, 1) := by decide +kernel
theorem dX3_isLeap_30 : decode cX3_isLeap 30 = .ok (.ireturn, 1) := by decide +kernel
theorem dX3_nthLeap_0 : decode cX3_nthLeap 0 = .ok (.iload_n 3, 1) := by decide +kernel
theorem dX3_nthLeap_1 : decode cX3_nthLeap 1 = .ok (.istore 4, 2) := by decide +kernel
theorem dX3_nthLeap_3 : decode cX3_nthLeap 3 = .ok (.iconst 1, 1) := by decide +kernel
theorem dX3_nthLeap_4 : decode cX3_nthLeap 4 = .ok (.istore 5, 2) := by decide +kernel
theorem dX3_nthLeap_6 : decode cX3_nthLeap 6 = .ok (.iload 5, 2) := by decide +kernel
theorem dX3_nthLeap_8 : decode cX3_nthLeap 8 = .ok (.aload_n 1, 1) := by decide +kernel
theorem dX3_nthLeap_9 : decode cX3_nthLeap 9 = .ok (.invokevirtual 65, 3) := by decide +kernel
theorem dX3_nthLeap_12 : decode cX3_nthLeap 12 = .ok (.if_icmp .gt 47, 3) := by decide +kernel
theorem dX3_nthLeap_15 : decode cX3_nthLeap 15 = .ok (.iload 4, 2) := by decide +kernel
theorem dX3_nthLeap_17 : decode cX3_nthLeap 17 = .ok (.ifCond .lt 42, 3) := by decide +kernel
theorem dX3_nthLeap_20 : decode cX3_nthLeap 20 = .ok (.aload_n 0, 1) := by decide +kernel
theorem dX3_nthLeap_21 : decode cX3_nthLeap 21 = .ok (.aload_n 1, 1) := by decide +kernel
theorem dX3_nthLeap_22 : decode cX3_nthLeap 22 = .ok (.iload_n 2, 1) := by decide +kernel
theorem dX3_nthLeap_23 : decode cX3_nthLeap 23 = .ok (.iload 5, 2) := by decide +kernel
theorem dX3_nthLeap_25 : decode cX3_nthLeap 25 = .ok (.invokevirtual 69, 3) := by decide +kernel
theorem dX3_nthLeap_28 : decode cX3_nthLeap 28 = .ok (.ifCond .eq 25, 3) := by decide +kernel
theorem dX3_nthLeap_31 : decode cX3_nthLeap 31 = .ok (.aload_n 0, 1) := by decide +kernel
theorem dX3_nthLeap_32 : decode cX3_nthLeap 32 = .ok (.aload_n 1, 1) := by decide +kernel
theorem dX3_nthLeap_33 : decode cX3_nthLeap 33 = .ok (.iload_n 2, 1) := by decide +kernel
theorem dX3_nthLeap_34 : decode cX3_nthLeap 34 = .ok (.iload 5, 2) := by decide +kernel
theorem dX3_nthLeap_36 : decode cX3_nthLeap 36 = .ok (.invokevirtual 73, 3) := by decide +kernel
theorem dX3_nthLeap_39 : decode cX3_nthLeap 39 = .ok (.ifCond .eq 14, 3) := by decide +kernel
theorem dX3_nthLeap_42 : decode cX3_nthLeap 42 = .ok (.iload 4, 2) := by decide +kernel
theorem dX3_nthLeap_44 : decode cX3_nthLeap 44 = .ok (.ifCond .ne 6, 3) := by decide +kernel
theorem dX3_nthLeap_47 : decode cX3_nthLeap 47 = .ok (.iload 5, 2) := by decide +kernel
theorem dX3_nthLeap_49 : decode cX3_nthLeap 49 = .ok (.ireturn, 1) := by decide +kernel
theorem dX3_nthLeap_50 : decode cX3_nthLeap 50 = .ok (.iinc 4 (-1), 3) := by decide +kernel
theorem dX3_nthLeap_53 : decode cX3_nthLeap 53 = .ok (.iinc 5 1, 3) := by decide +kernel
theorem dX3_nthLeap_56 : decode cX3_nthLeap 56 = .ok (.goto (-50), 3) := by decide +kernel
theorem dX3_nthLeap_59 : decode cX3_nthLeap 59 = .ok (.iconst (-1), 1) := by decide +kernel
theorem dX3_nthLeap_60 : decode cX3_nthLeap 60 = .ok (.ireturn, 1) := by decide +kernel
theorem dX3_countLeaps_0 : decode cX3_countLeaps 0 = .ok (.iconst 0, 1) := by decide +kernel
theorem dX3_countLeaps_1 : decode cX3_countLeaps 1 = .ok (.istore_n 3, 1) := by decide +kernel
theorem dX3_countLeaps_2 : decode cX3_countLeaps 2 = .ok (.iconst 1, 1) := by decide +kernel
theorem dX3_countLeaps_3 : decode cX3_countLeaps 3 = .ok (.istore 4, 2) := by decide +kernel
theorem dX3_countLeaps_5 : decode cX3_countLeaps 5 = .ok (.iload 4, 2) := by decide +kernel
theorem dX3_countLeaps_7 : decode cX3_countLeaps 7 = .ok (.aload_n 1, 1) := by decide +kernel
theorem dX3_countLeaps_8 : decode cX3_countLeaps 8 = .ok (.invokevirtual 65, 3) := by decide +kernel
theorem dX3_countLeaps_11 : decode cX3_countLeaps 11 = .ok (.if_icmp .gt 34, 3) := by decide +kernel
theorem dX3_countLeaps_14 : decode cX3_countLeaps 14 = .ok (.aload_n 0, 1) := by decide +kernel
theorem dX3_countLeaps_15 : decode cX3_countLeaps 15 = .ok (.aload_n 1, 1) := by decide +kernel
theorem dX3_countLeaps_16 : decode cX3_countLeaps 16 = .ok (.iload_n 2, 1) := by decide +kernel
theorem dX3_countLeaps_17 : decode cX3_countLeaps 17 = .ok (.iload 4, 2) := by decide +kernel
theorem dX3_countLeaps_19 : decode cX3_countLeaps 19 = .ok (.invokevirtual 69, 3) := by decide +kernel
theorem dX3_countLeaps_22 : decode cX3_countLeaps 22 = .ok (.ifCond .eq 17, 3) := by decide +kernel
theorem dX3_countLeaps_25 : decode cX3_countLeaps 25 = .ok (.aload_n 0, 1) := by decide +kernel
theorem dX3_countLeaps_26 : decode cX3_countLeaps 26 = .ok (.aload_n 1, 1) := by decide +kernel
theorem dX3_countLeaps_27 : decode cX3_countLeaps 27 = .ok (.iload_n 2, 1) := by decide +kernel
theorem dX3_countLeaps_28 : decode cX3_countLeaps 28 = .ok (.iload 4, 2) := by decide +kernel
theorem dX3_countLeaps_30 : decode cX3_countLeaps 30 = .ok (.invokevirtual 73, 3) := by decide +kernel
theorem dX3_countLeaps_33 : decode cX3_countLeaps 33 = .ok (.ifCond .eq 6, 3) := by decide +kernel
theorem dX3_countLeaps_36 : decode cX3_countLeaps 36 = .ok (.iinc 3 1, 3) := by decide +kernel
theorem dX3_countLeaps_39 : decode cX3_countLeaps 39 = .ok (.iinc 4 1, 3) := by decide +kernel
theorem dX3_countLeaps_42 : decode cX3_countLeaps 42 = .ok (.goto (-37), 3) := by decide +kernel
theorem dX3_countLeaps_45 : decode cX3_countLeaps 45 = .ok (.iload_n 3, 1) := by decide +kernel
theorem dX3_countLeaps_46 : decode cX3_countLeaps 46 = .ok (.ireturn, 1) := by decide +kernel
theorem dX3_hasSingleLeaps_0 : decode cX3_hasSingleLeaps 0 = .ok (.iconst 0, 1) := by decide +kernel
theorem dX3_hasSingleLeaps_1 : decode cX3_hasSingleLeaps 1 = .ok (.istore_n 3, 1) := by decide +kernel
theorem dX3_hasSingleLeaps_2 : decode cX3_hasSingleLeaps 2 = .ok (.iload_n 3, 1) := by decide +kernel
theorem dX3_hasSingleLeaps_3 : decode cX3_hasSingleLeaps 3 = .ok (.iload_n 2, 1) := by decide +kernel
theorem dX3_hasSingleLeaps_4 : decode cX3_hasSingleLeaps 4 = .ok (.if_icmp .ge 40, 3) := by decide +kernel
theorem dX3_hasSingleLeaps_7 : decode cX3_hasSingleLeaps 7 = .ok (.aload_n 0, 1) := by decide +kernel
theorem dX3_hasSingleLeaps_8 : decode cX3_hasSingleLeaps 8 = .ok (.aload_n 1, 1) := by decide +kernel
theorem dX3_hasSingleLeaps_9 : decode cX3_hasSingleLeaps 9 = .ok (.iload_n 2, 1) := by decide +kernel
theorem dX3_hasSingleLeaps_10 : decode cX3_hasSingleLeaps 10 = .ok (.iload_n 3, 1) := by decide +kernel
theorem dX3_hasSingleLeaps_11 : decode cX3_hasSingleLeaps 11 = .ok (.invokevirtual 61, 3) := by decide +kernel
theorem dX3_hasSingleLeaps_14 : decode cX3_hasSingleLeaps 14 = .ok (.istore 4, 2) := by decide +kernel
theorem dX3_hasSingleLeaps_16 : decode cX3_hasSingleLeaps 16 = .ok (.iload 4, 2) := by decide +kernel
theorem dX3_hasSingleLeaps_18 : decode cX3_hasSingleLeaps 18 = .ok (.invokestatic 44, 3) := by decide +kernel
theorem dX3_hasSingleLeaps_21 : decode cX3_hasSingleLeaps 21 = .ok (.iconst 1, 1) := by decide +kernel
theorem dX3_hasSingleLeaps_22 : decode cX3_hasSingleLeaps 22 = .ok (.if_icmp .eq 16, 3) := by decide +kernel
theorem dX3_hasSingleLeaps_25 : decode cX3_hasSingleLeaps 25 = .ok (.aload_n 0, 1) := by decide +kernel
theorem dX3_hasSingleLeaps_26 : decode cX3_hasSingleLeaps 26 = .ok (.aload_n 1, 1) := by decide +kernel
theorem dX3_hasSingleLeaps_27 : decode cX3_hasSingleLeaps 27 = .ok (.iload_n 2, 1) := by decide +kernel
theorem dX3_hasSingleLeaps_28 : decode cX3_hasSingleLeaps 28 = .ok (.iload 4, 2) := by decide +kernel
theorem dX3_hasSingleLeaps_30 : decode cX3_hasSingleLeaps 30 = .ok (.invokevirtual 73, 3) := by decide +kernel
theorem dX3_hasSingleLeaps_33 : decode cX3_hasSingleLeaps 33 = .ok (.ifCond .eq 5, 3) := by decide +kernel
theorem dX3_hasSingleLeaps_36 : decode cX3_hasSingleLeaps 36 = .ok (.iconst 0, 1) := by decide +kernel
theorem dX3_hasSingleLeaps_37 : decode cX3_hasSingleLeaps 37 = .ok (.ireturn, 1) := by decide +kernel
theorem dX3_hasSingleLeaps_38 : decode cX3_hasSingleLeaps 38 = .ok (.iinc 3 1, 3) := by decide +kernel
theorem dX3_hasSingleLeaps_41 : decode cX3_hasSingleLeaps 41 = .ok (.goto (-39), 3) := by decide +kernel
theorem dX3_hasSingleLeaps_44 : decode cX3_hasSingleLeaps 44 = .ok (.iconst 1, 1) := by decide +kernel
theorem dX3_hasSingleLeaps_45 : decode cX3_hasSingleLeaps 45 = .ok (.ireturn, 1) := by decide +kernel
theorem dX4_init_0 : decode cX4_init 0 = .ok (.aload_n 0, 1) := by decide +kernel
theorem dX4_init_1 : decode cX4_init 1 = .ok (.invokespecial 3, 3) := by decide +kernel
theorem dX4_init_4 : decode cX4_init 4 = .ok (.aload_n 0, 1) := by decide +kernel
theorem dX4_init_5 : decode cX4_init 5 = .ok (.sipush 128, 3) := by decide +kernel
theorem dX4_init_8 : decode cX4_init 8 = .ok (.newarray .int, 2) := by decide +kernel
theorem dX4_init_10 : decode cX4_init 10 = .ok (.putfield 9, 3) := by decide +kernel
theorem dX4_init_13 : decode cX4_init 13 = .ok (.aload_n 0, 1) := by decide +kernel
theorem dX4_init_14 : decode cX4_init 14 = .ok (.sipush 128, 3) := by decide +kernel
theorem dX4_init_17 : decode cX4_init 17 = .ok (.newarray .int, 2) := by decide +kernel
theorem dX4_init_19 : decode cX4_init 19 = .ok (.putfield 15, 3) := by decide +kernel
theorem dX4_init_22 : decode cX4_init 22 = .ok (.return_, 1) := by decide +kernel
theorem dX4_begin_0 : decode cX4_begin 0 = .ok (.aload_n 0, 1) := by decide +kernel
theorem dX4_begin_1 : decode cX4_begin 1 = .ok (.getfield 18, 3) := by decide +kernel
theorem dX4_begin_4 : decode cX4_begin 4 = .ok (.ifCond .ne 39, 3) := by decide +kernel
theorem dX4_begin_7 : decode cX4_begin 7 = .ok (.iconst 0, 1) := by decide +kernel
theorem dX4_begin_8 : decode cX4_begin 8 = .ok (.istore_n 1, 1) := by decide +kernel
theorem dX4_begin_9 : decode cX4_begin 9 = .ok (.iload_n 1, 1) := by decide +kernel
theorem dX4_begin_10 : decode cX4_begin 10 = .ok (.aload_n 0, 1) := by decide +kernel
theorem dX4_begin_11 : decode cX4_begin 11 = .ok (.getfield 9, 3) := by decide +kernel
theorem dX4_begin_14 : decode cX4_begin 14 = .ok (.arraylength, 1) := by decide +kernel
theorem dX4_begin_15 : decode cX4_begin 15 = .ok (.if_icmp .ge 23, 3) := by decide +kernel
theorem dX4_begin_18 : decode cX4_begin 18 = .ok (.aload_n 0, 1) := by decide +kernel
theorem dX4_begin_19 : decode cX4_begin 19 = .ok (.getfield 9, 3) := by decide +kernel
theorem dX4_begin_22 : decode cX4_begin 22 = .ok (.iload_n 1, 1) := by decide +kernel
theorem dX4_begin_23 : decode cX4_begin 23 = .ok (.iconst 0, 1) := by decide +kernel
theorem dX4_begin_24 : decode cX4_begin 24 = .ok (.iastore, 1) := by decide +kernel
theorem dX4_begin_25 : decode cX4_begin 25 = .ok (.aload_n 0, 1) := by decide +kernel
theorem dX4_begin_26 : decode cX4_begin 26 = .ok (.getfield 15, 3) := by decide +kernel
theorem dX4_begin_29 : decode cX4_begin 29 = .ok (.iload_n 1, 1) := by decide +kernel
theorem dX4_begin_30 : decode cX4_begin 30 = .ok (.iconst 0, 1) := by decide +kernel
theorem dX4_begin_31 : decode cX4_begin 31 = .ok (.iastore, 1) := by decide +kernel
theorem dX4_begin_32 : decode cX4_begin 32 = .ok (.iinc 1 1, 3) := by decide +kernel
theorem dX4_begin_35 : decode cX4_begin 35 = .ok (.goto (-26), 3) := by decide +kernel
theorem dX4_begin_38 : decode cX4_begin 38 = .ok (.aload_n 0, 1) := by decide +kernel
theorem dX4_begin_39 : decode cX4_begin 39 = .ok (.iconst 1, 1) := by decide +kernel
theorem dX4_begin_40 : decode cX4_begin 40 = .ok (.putfield 18, 3) := by decide +kernel
theorem dX4_begin_43 : decode cX4_begin 43 = .ok (.return_, 1) := by decide +kernel
theorem dX4_falls_0 : decode cX4_falls 0 = .ok (.iload_n 2, 1) := by decide +kernel
theorem dX4_falls_1 : decode cX4_falls 1 = .ok (.invokestatic 22, 3) := by decide +kernel
theorem dX4_falls_4 : decode cX4_falls 4 = .ok (.iconst 1, 1) := by decide +kernel
theorem dX4_falls_5 : decode cX4_falls 5 = .ok (.if_icmp .ne 5, 3) := by decide +kernel
theorem dX4_falls_8 : decode cX4_falls 8 = .ok (.iconst 1, 1) := by decide +kernel
theorem dX4_falls_9 : decode cX4_falls 9 = .ok (.ireturn, 1) := by decide +kernel
theorem dX4_falls_10 : decode cX4_falls 10 = .ok (.iload_n 2, 1) := by decide +kernel
theorem dX4_falls_11 : decode cX4_falls 11 = .ok (.iconst 5, 1) := by decide +kernel
theorem dX4_falls_12 : decode cX4_falls 12 = .ok (.ishr, 1) := by decide +kernel
theorem dX4_falls_13 : decode cX4_falls 13 = .ok (.istore 4, 2) := by decide +kernel
theorem dX4_falls_15 : decode cX4_falls 15 = .ok (.iconst 1, 1) := by decide +kernel
theorem dX4_falls_16 : decode cX4_falls 16 = .ok (.iload_n 2, 1) := by decide +kernel
theorem dX4_falls_17 : decode cX4_falls 17 = .ok (.bipush 31, 2) := by decide +kernel
theorem dX4_falls_19 : decode cX4_falls 19 = .ok (.iand, 1) := by decide +kernel
theorem dX4_falls_20 : decode cX4_falls 20 = .ok (.ishl, 1) := by decide +kernel
theorem dX4_falls_21 : decode cX4_falls 21 = .ok (.istore 5, 2) := by decide +kernel
theorem dX4_falls_23 : decode cX4_falls 23 = .ok (.aload_n 0, 1) := by decide +kernel
theorem dX4_falls_24 : decode cX4_falls 24 = .ok (.getfield 9, 3) := by decide +kernel
theorem dX4_falls_27 : decode cX4_falls 27 = .ok (.iload 4, 2) := by decide +kernel
theorem dX4_falls_29 : decode cX4_falls 29 = .ok (.iaload, 1) := by decide +kernel
theorem dX4_falls_30 : decode cX4_falls 30 = .ok (.iload 5, 2) := by decide +kernel
theorem dX4_falls_32 : decode cX4_falls 32 = .ok (.iand, 1) := by decide +kernel
theorem dX4_falls_33 : decode cX4_falls 33 = .ok (.ifCond .ne 37, 3) := by decide +kernel
theorem dX4_falls_36 : decode cX4_falls 36 = .ok (.aload_n 0, 1) := by decide +kernel
theorem dX4_falls_37 : decode cX4_falls 37 = .ok (.getfield 9, 3) := by decide +kernel
theorem dX4_falls_40 : decode cX4_falls 40 = .ok (.iload 4, 2) := by decide +kernel
theorem dX4_falls_42 : decode cX4_falls 42 = .ok (.dup2, 1) := by decide +kernel
theorem dX4_falls_43 : decode cX4_falls 43 = .ok (.iaload, 1) := by decide +kernel
theorem dX4_falls_44 : decode cX4_falls 44 = .ok (.iload 5, 2) := by decide +kernel
theorem dX4_falls_46 : decode cX4_falls 46 = .ok (.ior, 1) := by decide +kernel
theorem dX4_falls_47 : decode cX4_falls 47 = .ok (.iastore, 1) := by decide +kernel
theorem dX4_falls_48 : decode cX4_falls 48 = .ok (.aload_n 0, 1) := by decide +kernel
theorem dX4_falls_49 : decode cX4_falls 49 = .ok (.aload_n 1, 1) := by decide +kernel
theorem dX4_falls_50 : decode cX4_falls 50 = .ok (.iload_n 2, 1) := by decide +kernel
theorem dX4_falls_51 : decode cX4_falls 51 = .ok (.iload_n 3, 1) := by decide +kernel
theorem dX4_falls_52 : decode cX4_falls 52 = .ok (.invokevirtual 28, 3) := by decide +kernel
theorem dX4_falls_55 : decode cX4_falls 55 = .ok (.ifCond .lt 15, 3) := by decide +kernel
theorem dX4_falls_58 : decode cX4_falls 58 = .ok (.aload_n 0, 1) := by decide +kernel
theorem dX4_falls_59 : decode cX4_falls 59 = .ok (.getfield 15, 3) := by decide +kernel
theorem dX4_falls_62 : decode cX4_falls 62 = .ok (.iload 4, 2) := by decide +kernel
theorem dX4_falls_64 : decode cX4_falls 64 = .ok (.dup2, 1) := by decide +kernel
theorem dX4_falls_65 : decode cX4_falls 65 = .ok (.iaload, 1) := by decide +kernel
theorem dX4_falls_66 : decode cX4_falls 66 = .ok (.iload 5, 2) := by decide +kernel
theorem dX4_falls_68 : decode cX4_falls 68 = .ok (.ior, 1) := by decide +kernel
theorem dX4_falls_69 : decode cX4_falls 69 = .ok (.iastore, 1) := by decide +kernel
theorem dX4_falls_70 : decode cX4_falls 70 = .ok (.aload_n 0, 1) := by decide +kernel
theorem dX4_falls_71 : decode cX4_falls 71 = .ok (.getfield 15, 3) := by decide +kernel
theorem dX4_falls_74 : decode cX4_falls 74 = .ok (.iload 4, 2) := by decide +kernel
theorem dX4_falls_76 : decode cX4_falls 76 = .ok (.iaload, 1) := by decide +kernel
theorem dX4_falls_77 : decode cX4_falls 77 = .ok (.iload 5, 2) := by decide +kernel
theorem dX4_falls_79 : decode cX4_falls 79 = .ok (.iand, 1) := by decide +kernel
theorem dX4_falls_80 : decode cX4_falls 80 = .ok (.ifCond .eq 7, 3) := by decide +kernel
theorem dX4_falls_83 : decode cX4_falls 83 = .ok (.iconst 1, 1) := by decide +kernel
theorem dX4_falls_84 : decode cX4_falls 84 = .ok (.goto 4, 3) := by decide +kernel
theorem dX4_falls_87 : decode cX4_falls 87 = .ok (.iconst 0, 1) := by decide +kernel
theorem dX4_falls_88 : decode cX4_falls 88 = .ok (.ireturn, 1) := by decide +kernel
theorem dX4_leastPoint_0 : decode cX4_leastPoint 0 = .ok (.iload_n 3, 1) := by decide +kernel
theorem dX4_leastPoint_1 : decode cX4_leastPoint 1 = .ok (.bipush 7, 2) := by decide +kernel
theorem dX4_leastPoint_3 : decode cX4_leastPoint 3 = .ok (.if_icmp .le 6, 3) := by decide +kernel
theorem dX4_leastPoint_6 : decode cX4_leastPoint 6 = .ok (.bipush (-2), 2) := by decide +kernel
theorem dX4_leastPoint_8 : decode cX4_leastPoint 8 = .ok (.ireturn, 1) := by decide +kernel
theorem dX4_leastPoint_9 : decode cX4_leastPoint 9 = .ok (.iconst 0, 1) := by decide +kernel
theorem dX4_leastPoint_10 : decode cX4_leastPoint 10 = .ok (.istore 4, 2) := by decide +kernel
theorem dX4_leastPoint_12 : decode cX4_leastPoint 12 = .ok (.iload 4, 2) := by decide +kernel
theorem dX4_leastPoint_14 : decode cX4_leastPoint 14 = .ok (.aload_n 1, 1) := by decide +kernel
theorem dX4_leastPoint_15 : decode cX4_leastPoint 15 = .ok (.getfield 32, 3) := by decide +kernel
theorem dX4_leastPoint_18 : decode cX4_leastPoint 18 = .ok (.if_icmp .ge 64, 3) := by decide +kernel
theorem dX4_leastPoint_21 : decode cX4_leastPoint 21 = .ok (.aload_n 1, 1) := by decide +kernel
theorem dX4_leastPoint_22 : decode cX4_leastPoint 22 = .ok (.iload_n 2, 1) := by decide +kernel
theorem dX4_leastPoint_23 : decode cX4_leastPoint 23 = .ok (.iload 4, 2) := by decide +kernel
theorem dX4_leastPoint_25 : decode cX4_leastPoint 25 = .ok (.invokevirtual 38, 3) := by decide +kernel
theorem dX4_leastPoint_28 : decode cX4_leastPoint 28 = .ok (.ifCond .eq 48, 3) := by decide +kernel
theorem dX4_leastPoint_31 : decode cX4_leastPoint 31 = .ok (.aload_n 0, 1) := by decide +kernel
theorem dX4_leastPoint_32 : decode cX4_leastPoint 32 = .ok (.aload_n 1, 1) := by decide +kernel
theorem dX4_leastPoint_33 : decode cX4_leastPoint 33 = .ok (.iload_n 2, 1) := by decide +kernel
theorem dX4_leastPoint_34 : decode cX4_leastPoint 34 = .ok (.aload_n 1, 1) := by decide +kernel
theorem dX4_leastPoint_35 : decode cX4_leastPoint 35 = .ok (.getfield 42, 3) := by decide +kernel
theorem dX4_leastPoint_38 : decode cX4_leastPoint 38 = .ok (.iload 4, 2) := by decide +kernel
theorem dX4_leastPoint_40 : decode cX4_leastPoint 40 = .ok (.iaload, 1) := by decide +kernel
theorem dX4_leastPoint_41 : decode cX4_leastPoint 41 = .ok (.iand, 1) := by decide +kernel
theorem dX4_leastPoint_42 : decode cX4_leastPoint 42 = .ok (.iload_n 3, 1) := by decide +kernel
theorem dX4_leastPoint_43 : decode cX4_leastPoint 43 = .ok (.iconst 1, 1) := by decide +kernel
theorem dX4_leastPoint_44 : decode cX4_leastPoint 44 = .ok (.iadd, 1) := by decide +kernel
theorem dX4_leastPoint_45 : decode cX4_leastPoint 45 = .ok (.invokevirtual 45, 3) := by decide +kernel
theorem dX4_leastPoint_48 : decode cX4_leastPoint 48 = .ok (.ifCond .eq 28, 3) := by decide +kernel
theorem dX4_leastPoint_51 : decode cX4_leastPoint 51 = .ok (.aload_n 0, 1) := by decide +kernel
theorem dX4_leastPoint_52 : decode cX4_leastPoint 52 = .ok (.aload_n 1, 1) := by decide +kernel
theorem dX4_leastPoint_53 : decode cX4_leastPoint 53 = .ok (.iload_n 2, 1) := by decide +kernel
theorem dX4_leastPoint_54 : decode cX4_leastPoint 54 = .ok (.aload_n 1, 1) := by decide +kernel
theorem dX4_leastPoint_55 : decode cX4_leastPoint 55 = .ok (.getfield 42, 3) := by decide +kernel
theorem dX4_leastPoint_58 : decode cX4_leastPoint 58 = .ok (.iload 4, 2) := by decide +kernel
theorem dX4_leastPoint_60 : decode cX4_leastPoint 60 = .ok (.iaload, 1) := by decide +kernel
theorem dX4_leastPoint_61 : decode cX4_leastPoint 61 = .ok (.iconst (-1), 1) := by decide +kernel
theorem dX4_leastPoint_62 : decode cX4_leastPoint 62 = .ok (.ixor, 1) := by decide +kernel
theorem dX4_leastPoint_63 : decode cX4_leastPoint 63 = .ok (.iand, 1) := by decide +kernel
theorem dX4_leastPoint_64 : decode cX4_leastPoint 64 = .ok (.iload_n 3, 1) := by decide +kernel
theorem dX4_leastPoint_65 : decode cX4_leastPoint 65 = .ok (.iconst 1, 1) := by decide +kernel
theorem dX4_leastPoint_66 : decode cX4_leastPoint 66 = .ok (.iadd, 1) := by decide +kernel
theorem dX4_leastPoint_67 : decode cX4_leastPoint 67 = .ok (.invokevirtual 45, 3) := by decide +kernel
theorem dX4_leastPoint_70 : decode cX4_leastPoint 70 = .ok (.ifCond .eq 6, 3) := by decide +kernel
theorem dX4_leastPoint_73 : decode cX4_leastPoint 73 = .ok (.iload 4, 2) := by decide +kernel
theorem dX4_leastPoint_75 : decode cX4_leastPoint 75 = .ok (.ireturn, 1) := by decide +kernel
theorem dX4_leastPoint_76 : decode cX4_leastPoint 76 = .ok (.iinc 4 1, 3) := by decide +kernel
theorem dX4_leastPoint_79 : decode cX4_leastPoint 79 = .ok (.goto (-67), 3) := by decide +kernel
theorem dX4_leastPoint_82 : decode cX4_leastPoint 82 = .ok (.bipush (-2), 2) := by decide +kernel
theorem dX4_leastPoint_84 : decode cX4_leastPoint 84 = .ok (.ireturn, 1) := by decide +kernel
theorem dX5_init_0 : decode cX5_init 0 = .ok (.aload_n 0, 1) := by decide +kernel
theorem dX5_init_1 : decode cX5_init 1 = .ok (.invokespecial 3, 3) := by decide +kernel
theorem dX5_init_4 : decode cX5_init 4 = .ok (.aload_n 0, 1) := by decide +kernel
theorem dX5_init_5 : decode cX5_init 5 = .ok (.sipush 200, 3) := by decide +kernel
theorem dX5_init_8 : decode cX5_init 8 = .ok (.newarray .int, 2) := by decide +kernel
theorem dX5_init_10 : decode cX5_init 10 = .ok (.putfield 11, 3) := by decide +kernel
theorem dX5_init_13 : decode cX5_init 13 = .ok (.aload_n 0, 1) := by decide +kernel
theorem dX5_init_14 : decode cX5_init 14 = .ok (.bipush 12, 2) := by decide +kernel
theorem dX5_init_16 : decode cX5_init 16 = .ok (.newarray .int, 2) := by decide +kernel
theorem dX5_init_18 : decode cX5_init 18 = .ok (.putfield 15, 3) := by decide +kernel
theorem dX5_init_21 : decode cX5_init 21 = .ok (.return_, 1) := by decide +kernel
theorem dX5_hasRoom_0 : decode cX5_hasRoom 0 = .ok (.aload_n 0, 1) := by decide +kernel
theorem dX5_hasRoom_1 : decode cX5_hasRoom 1 = .ok (.getfield 18, 3) := by decide +kernel
theorem dX5_hasRoom_4 : decode cX5_hasRoom 4 = .ok (.bipush 20, 2) := by decide +kernel
theorem dX5_hasRoom_6 : decode cX5_hasRoom 6 = .ok (.iadd, 1) := by decide +kernel
theorem dX5_hasRoom_7 : decode cX5_hasRoom 7 = .ok (.sipush 200, 3) := by decide +kernel
theorem dX5_hasRoom_10 : decode cX5_hasRoom 10 = .ok (.if_icmp .gt 7, 3) := by decide +kernel
theorem dX5_hasRoom_13 : decode cX5_hasRoom 13 = .ok (.iconst 1, 1) := by decide +kernel
theorem dX5_hasRoom_14 : decode cX5_hasRoom 14 = .ok (.goto 4, 3) := by decide +kernel
theorem dX5_hasRoom_17 : decode cX5_hasRoom 17 = .ok (.iconst 0, 1) := by decide +kernel
theorem dX5_hasRoom_18 : decode cX5_hasRoom 18 = .ok (.ireturn, 1) := by decide +kernel
theorem dX5_takeFour_0 : decode cX5_takeFour 0 = .ok (.bipush 24, 2) := by decide +kernel
theorem dX5_takeFour_2 : decode cX5_takeFour 2 = .ok (.istore_n 2, 1) := by decide +kernel
theorem dX5_takeFour_3 : decode cX5_takeFour 3 = .ok (.iload_n 2, 1) := by decide +kernel
theorem dX5_takeFour_4 : decode cX5_takeFour 4 = .ok (.ifCond .lt 45, 3) := by decide +kernel
theorem dX5_takeFour_7 : decode cX5_takeFour 7 = .ok (.aload_n 0, 1) := by decide +kernel
theorem dX5_takeFour_8 : decode cX5_takeFour 8 = .ok (.getfield 18, 3) := by decide +kernel
theorem dX5_takeFour_11 : decode cX5_takeFour 11 = .ok (.sipush 200, 3) := by decide +kernel
theorem dX5_takeFour_14 : decode cX5_takeFour 14 = .ok (.if_icmp .ge 29, 3) := by decide +kernel
theorem dX5_takeFour_17 : decode cX5_takeFour 17 = .ok (.aload_n 0, 1) := by decide +kernel
theorem dX5_takeFour_18 : decode cX5_takeFour 18 = .ok (.getfield 11, 3) := by decide +kernel
theorem dX5_takeFour_21 : decode cX5_takeFour 21 = .ok (.aload_n 0, 1) := by decide +kernel
theorem dX5_takeFour_22 : decode cX5_takeFour 22 = .ok (.getfield 18, 3) := by decide +kernel
theorem dX5_takeFour_25 : decode cX5_takeFour 25 = .ok (.iload_n 1, 1) := by decide +kernel
theorem dX5_takeFour_26 : decode cX5_takeFour 26 = .ok (.iload_n 2, 1) := by decide +kernel
theorem dX5_takeFour_27 : decode cX5_takeFour 27 = .ok (.iushr, 1) := by decide +kernel
theorem dX5_takeFour_28 : decode cX5_takeFour 28 = .ok (.sipush 255, 3) := by decide +kernel
theorem dX5_takeFour_31 : decode cX5_takeFour 31 = .ok (.iand, 1) := by decide +kernel
theorem dX5_takeFour_32 : decode cX5_takeFour 32 = .ok (.iastore, 1) := by decide +kernel
theorem dX5_takeFour_33 : decode cX5_takeFour 33 = .ok (.aload_n 0, 1) := by decide +kernel
theorem dX5_takeFour_34 : decode cX5_takeFour 34 = .ok (.dup, 1) := by decide +kernel
theorem dX5_takeFour_35 : decode cX5_takeFour 35 = .ok (.getfield 18, 3) := by decide +kernel
theorem dX5_takeFour_38 : decode cX5_takeFour 38 = .ok (.iconst 1, 1) := by decide +kernel
theorem dX5_takeFour_39 : decode cX5_takeFour 39 = .ok (.iadd, 1) := by decide +kernel
theorem dX5_takeFour_40 : decode cX5_takeFour 40 = .ok (.putfield 18, 3) := by decide +kernel
theorem dX5_takeFour_43 : decode cX5_takeFour 43 = .ok (.iinc 2 (-8), 3) := by decide +kernel
theorem dX5_takeFour_46 : decode cX5_takeFour 46 = .ok (.goto (-43), 3) := by decide +kernel
theorem dX5_takeFour_49 : decode cX5_takeFour 49 = .ok (.return_, 1) := by decide +kernel
theorem dX5_readAll_0 : decode cX5_readAll 0 = .ok (.aload_n 0, 1) := by decide +kernel
theorem dX5_readAll_1 : decode cX5_readAll 1 = .ok (.iconst 0, 1) := by decide +kernel
theorem dX5_readAll_2 : decode cX5_readAll 2 = .ok (.iload_n 1, 1) := by decide +kernel
theorem dX5_readAll_3 : decode cX5_readAll 3 = .ok (.aload_n 0, 1) := by decide +kernel
theorem dX5_readAll_4 : decode cX5_readAll 4 = .ok (.getfield 18, 3) := by decide +kernel
theorem dX5_readAll_7 : decode cX5_readAll 7 = .ok (.invokestatic 22, 3) := by decide +kernel
theorem dX5_readAll_10 : decode cX5_readAll 10 = .ok (.invokestatic 28, 3) := by decide +kernel
theorem dX5_readAll_13 : decode cX5_readAll 13 = .ok (.putfield 31, 3) := by decide +kernel
theorem dX5_readAll_16 : decode cX5_readAll 16 = .ok (.aload_n 0, 1) := by decide +kernel
theorem dX5_readAll_17 : decode cX5_readAll 17 = .ok (.iconst 0, 1) := by decide +kernel
theorem dX5_readAll_18 : decode cX5_readAll 18 = .ok (.putfield 34, 3) := by decide +kernel
theorem dX5_readAll_21 : decode cX5_readAll 21 = .ok (.aload_n 0, 1) := by decide +kernel
theorem dX5_readAll_22 : decode cX5_readAll 22 = .ok (.iconst 0, 1) := by decide +kernel
theorem dX5_readAll_23 : decode cX5_readAll 23 = .ok (.putfield 18, 3) := by decide +kernel
theorem dX5_readAll_26 : decode cX5_readAll 26 = .ok (.aload_n 0, 1) := by decide +kernel
theorem dX5_readAll_27 : decode cX5_readAll 27 = .ok (.iconst 0, 1) := by decide +kernel
theorem dX5_readAll_28 : decode cX5_readAll 28 = .ok (.putfield 37, 3) := by decide +kernel
theorem dX5_readAll_31 : decode cX5_readAll 31 = .ok (.aload_n 0, 1) := by decide +kernel
theorem dX5_readAll_32 : decode cX5_readAll 32 = .ok (.iconst (-1), 1) := by decide +kernel
theorem dX5_readAll_33 : decode cX5_readAll 33 = .ok (.putfield 40, 3) := by decide +kernel
theorem dX5_readAll_36 : decode cX5_readAll 36 = .ok (.aload_n 0, 1) := by decide +kernel
theorem dX5_readAll_37 : decode cX5_readAll 37 = .ok (.iconst 0, 1) := by decide +kernel
theorem dX5_readAll_38 : decode cX5_readAll 38 = .ok (.putfield 43, 3) := by decide +kernel
theorem dX5_readAll_41 : decode cX5_readAll 41 = .ok (.aload_n 0, 1) := by decide +kernel
theorem dX5_readAll_42 : decode cX5_readAll 42 = .ok (.iconst 0, 1) := by decide +kernel
theorem dX5_readAll_43 : decode cX5_readAll 43 = .ok (.putfield 46, 3) := by decide +kernel
theorem dX5_readAll_46 : decode cX5_readAll 46 = .ok (.aload_n 0, 1) := by decide +kernel
theorem dX5_readAll_47 : decode cX5_readAll 47 = .ok (.iconst 0, 1) := by decide +kernel
theorem dX5_readAll_48 : decode cX5_readAll 48 = .ok (.putfield 49, 3) := by decide +kernel
theorem dX5_readAll_51 : decode cX5_readAll 51 = .ok (.iconst 0, 1) := by decide +kernel
theorem dX5_readAll_52 : decode cX5_readAll 52 = .ok (.istore_n 2, 1) := by decide +kernel
theorem dX5_readAll_53 : decode cX5_readAll 53 = .ok (.iload_n 2, 1) := by decide +kernel
theorem dX5_readAll_54 : decode cX5_readAll 54 = .ok (.sipush 200, 3) := by decide +kernel
theorem dX5_readAll_57 : decode cX5_readAll 57 = .ok (.if_icmp .gt 65, 3) := by decide +kernel
theorem dX5_readAll_60 : decode cX5_readAll 60 = .ok (.aload_n 0, 1) := by decide +kernel
theorem dX5_readAll_61 : decode cX5_readAll 61 = .ok (.invokevirtual 52, 3) := by decide +kernel
theorem dX5_readAll_64 : decode cX5_readAll 64 = .ok (.ifCond .ne 5, 3) := by decide +kernel
theorem dX5_readAll_67 : decode cX5_readAll 67 = .ok (.iconst 0, 1) := by decide +kernel
theorem dX5_readAll_68 : decode cX5_readAll 68 = .ok (.ireturn, 1) := by decide +kernel
theorem dX5_readAll_69 : decode cX5_readAll 69 = .ok (.aload_n 0, 1) := by decide +kernel
theorem dX5_readAll_70 : decode cX5_readAll 70 = .ok (.invokevirtual 56, 3) := by decide +kernel
theorem dX5_readAll_73 : decode cX5_readAll 73 = .ok (.aload_n 0, 1) := by decide +kernel
theorem dX5_readAll_74 : decode cX5_readAll 74 = .ok (.getfield 59, 3) := by decide +kernel
theorem dX5_readAll_77 : decode cX5_readAll 77 = .ok (.ifCond .ne 25, 3) := by decide +kernel
theorem dX5_readAll_80 : decode cX5_readAll 80 = .ok (.aload_n 0, 1) := by decide +kernel
theorem dX5_readAll_81 : decode cX5_readAll 81 = .ok (.getfield 49, 3) := by decide +kernel
theorem dX5_readAll_84 : decode cX5_readAll 84 = .ok (.ifCond .gt 12, 3) := by decide +kernel
theorem dX5_readAll_87 : decode cX5_readAll 87 = .ok (.aload_n 0, 1) := by decide +kernel
theorem dX5_readAll_88 : decode cX5_readAll 88 = .ok (.bipush 6, 2) := by decide +kernel
theorem dX5_readAll_90 : decode cX5_readAll 90 = .ok (.invokevirtual 62, 3) := by decide +kernel
theorem dX5_readAll_93 : decode cX5_readAll 93 = .ok (.ifCond .eq 7, 3) := by decide +kernel
theorem dX5_readAll_96 : decode cX5_readAll 96 = .ok (.iconst 1, 1) := by decide +kernel
theorem dX5_readAll_97 : decode cX5_readAll 97 = .ok (.goto 4, 3) := by decide +kernel
theorem dX5_readAll_100 : decode cX5_readAll 100 = .ok (.iconst 0, 1) := by decide +kernel
theorem dX5_readAll_101 : decode cX5_readAll 101 = .ok (.ireturn, 1) := by decide +kernel
theorem dX5_readAll_102 : decode cX5_readAll 102 = .ok (.aload_n 0, 1) := by decide +kernel
theorem dX5_readAll_103 : decode cX5_readAll 103 = .ok (.getfield 59, 3) := by decide +kernel
theorem dX5_readAll_106 : decode cX5_readAll 106 = .ok (.iconst 3, 1) := by decide +kernel
theorem dX5_readAll_107 : decode cX5_readAll 107 = .ok (.if_icmp .eq 9, 3) := by decide +kernel
theorem dX5_readAll_110 : decode cX5_readAll 110 = .ok (.aload_n 0, 1) := by decide +kernel
theorem dX5_readAll_111 : decode cX5_readAll 111 = .ok (.iconst 1, 1) := by decide +kernel
theorem dX5_readAll_112 : decode cX5_readAll 112 = .ok (.invokevirtual 62, 3) := by decide +kernel
theorem dX5_readAll_115 : decode cX5_readAll 115 = .ok (.ireturn, 1) := by decide +kernel
theorem dX5_readAll_116 : decode cX5_readAll 116 = .ok (.iinc 2 1, 3) := by decide +kernel
theorem dX5_readAll_119 : decode cX5_readAll 119 = .ok (.goto (-66), 3) := by decide +kernel
theorem dX5_readAll_122 : decode cX5_readAll 122 = .ok (.aload_n 0, 1) := by decide +kernel
theorem dX5_readAll_123 : decode cX5_readAll 123 = .ok (.iconst 1, 1) := by decide +kernel
theorem dX5_readAll_124 : decode cX5_readAll 124 = .ok (.invokevirtual 62, 3) := by decide +kernel
theorem dX5_readAll_127 : decode cX5_readAll 127 = .ok (.ireturn, 1) := by decide +kernel
theorem dX5_failed_0 : decode cX5_failed 0 = .ok (.aload_n 0, 1) := by decide +kernel
theorem dX5_failed_1 : decode cX5_failed 1 = .ok (.iload_n 1, 1) := by decide +kernel
theorem dX5_failed_2 : decode cX5_failed 2 = .ok (.putfield 37, 3) := by decide +kernel
theorem dX5_failed_5 : decode cX5_failed 5 = .ok (.aload_n 0, 1) := by decide +kernel
theorem dX5_failed_6 : decode cX5_failed 6 = .ok (.aload_n 0, 1) := by decide +kernel
theorem dX5_failed_7 : decode cX5_failed 7 = .ok (.getfield 66, 3) := by decide +kernel
theorem dX5_failed_10 : decode cX5_failed 10 = .ok (.putfield 40, 3) := by decide +kernel
theorem dX5_failed_13 : decode cX5_failed 13 = .ok (.iconst 0, 1) := by decide +kernel
theorem dX5_failed_14 : decode cX5_failed 14 = .ok (.ireturn, 1) := by decide +kernel
theorem dX5_readLine_0 : decode cX5_readLine 0 = .ok (.aload_n 0, 1) := by decide +kernel
theorem dX5_readLine_1 : decode cX5_readLine 1 = .ok (.invokevirtual 56, 3) := by decide +kernel
theorem dX5_readLine_4 : decode cX5_readLine 4 = .ok (.aload_n 0, 1) := by decide +kernel
theorem dX5_readLine_5 : decode cX5_readLine 5 = .ok (.ldc 69, 2) := by decide +kernel
theorem dX5_readLine_7 : decode cX5_readLine 7 = .ok (.invokevirtual 71, 3) := by decide +kernel
theorem dX5_readLine_10 : decode cX5_readLine 10 = .ok (.ifCond .eq 8, 3) := by decide +kernel
theorem dX5_readLine_13 : decode cX5_readLine 13 = .ok (.aload_n 0, 1) := by decide +kernel
theorem dX5_readLine_14 : decode cX5_readLine 14 = .ok (.invokevirtual 75, 3) := by decide +kernel
theorem dX5_readLine_17 : decode cX5_readLine 17 = .ok (.ireturn, 1) := by decide +kernel
theorem dX5_readLine_18 : decode cX5_readLine 18 = .ok (.aload_n 0, 1) := by decide +kernel
theorem dX5_readLine_19 : decode cX5_readLine 19 = .ok (.ldc 78, 2) := by decide +kernel
theorem dX5_readLine_21 : decode cX5_readLine 21 = .ok (.invokevirtual 71, 3) := by decide +kernel
theorem dX5_readLine_24 : decode cX5_readLine 24 = .ok (.ifCond .eq 8, 3) := by decide +kernel
theorem dX5_readLine_27 : decode cX5_readLine 27 = .ok (.aload_n 0, 1) := by decide +kernel
theorem dX5_readLine_28 : decode cX5_readLine 28 = .ok (.invokevirtual 80, 3) := by decide +kernel
theorem dX5_readLine_31 : decode cX5_readLine 31 = .ok (.ireturn, 1) := by decide +kernel
theorem dX5_readLine_32 : decode cX5_readLine 32 = .ok (.aload_n 0, 1) := by decide +kernel
theorem dX5_readLine_33 : decode cX5_readLine 33 = .ok (.iconst 1, 1) := by decide +kernel
theorem dX5_readLine_34 : decode cX5_readLine 34 = .ok (.invokevirtual 62, 3) := by decide +kernel
theorem dX5_readLine_37 : decode cX5_readLine 37 = .ok (.ireturn, 1) := by decide +kernel
theorem dX5_readHead_0 : decode cX5_readHead 0 = .ok (.aload_n 0, 1) := by decide +kernel
theorem dX5_readHead_1 : decode cX5_readHead 1 = .ok (.getfield 43, 3) := by decide +kernel
theorem dX5_readHead_4 : decode cX5_readHead 4 = .ok (.ifCond .le 9, 3) := by decide +kernel
theorem dX5_readHead_7 : decode cX5_readHead 7 = .ok (.aload_n 0, 1) := by decide +kernel
theorem dX5_readHead_8 : decode cX5_readHead 8 = .ok (.iconst 4, 1) := by decide +kernel
theorem dX5_readHead_9 : decode cX5_readHead 9 = .ok (.invokevirtual 62, 3) := by decide +kernel
theorem dX5_readHead_12 : decode cX5_readHead 12 = .ok (.ireturn, 1) := by decide +kernel
theorem dX5_readHead_13 : decode cX5_readHead 13 = .ok (.aload_n 0, 1) := by decide +kernel
theorem dX5_readHead_14 : decode cX5_readHead 14 = .ok (.ldc 83, 2) := by decide +kernel
theorem dX5_readHead_16 : decode cX5_readHead 16 = .ok (.invokevirtual 84, 3) := by decide +kernel
theorem dX5_readHead_19 : decode cX5_readHead 19 = .ok (.ifCond .eq 12, 3) := by decide +kernel
theorem dX5_readHead_22 : decode cX5_readHead 22 = .ok (.aload_n 0, 1) := by decide +kernel
theorem dX5_readHead_23 : decode cX5_readHead 23 = .ok (.bipush 7, 2) := by decide +kernel
theorem dX5_readHead_25 : decode cX5_readHead 25 = .ok (.invokevirtual 87, 3) := by decide +kernel
theorem dX5_readHead_28 : decode cX5_readHead 28 = .ok (.ifCond .ne 5, 3) := by decide +kernel
theorem dX5_readHead_31 : decode cX5_readHead 31 = .ok (.iconst 0, 1) := by decide +kernel
theorem dX5_readHead_32 : decode cX5_readHead 32 = .ok (.ireturn, 1) := by decide +kernel
theorem dX5_readHead_33 : decode cX5_readHead 33 = .ok (.aload_n 0, 1) := by decide +kernel
theorem dX5_readHead_34 : decode cX5_readHead 34 = .ok (.aload_n 0, 1) := by decide +kernel
theorem dX5_readHead_35 : decode cX5_readHead 35 = .ok (.getfield 90, 3) := by decide +kernel
theorem dX5_readHead_38 : decode cX5_readHead 38 = .ok (.putfield 43, 3) := by decide +kernel
theorem dX5_readHead_41 : decode cX5_readHead 41 = .ok (.aload_n 0, 1) := by decide +kernel
theorem dX5_readHead_42 : decode cX5_readHead 42 = .ok (.ldc 93, 2) := by decide +kernel
theorem dX5_readHead_44 : decode cX5_readHead 44 = .ok (.invokevirtual 84, 3) := by decide +kernel
theorem dX5_readHead_47 : decode cX5_readHead 47 = .ok (.ifCond .eq 18, 3) := by decide +kernel
theorem dX5_readHead_50 : decode cX5_readHead 50 = .ok (.aload_n 0, 1) := by decide +kernel
theorem dX5_readHead_51 : decode cX5_readHead 51 = .ok (.iconst 5, 1) := by decide +kernel
theorem dX5_readHead_52 : decode cX5_readHead 52 = .ok (.aload_n 0, 1) := by decide +kernel
theorem dX5_readHead_53 : decode cX5_readHead 53 = .ok (.getfield 43, 3) := by decide +kernel
theorem dX5_readHead_56 : decode cX5_readHead 56 = .ok (.invokestatic 22, 3) := by decide +kernel
theorem dX5_readHead_59 : decode cX5_readHead 59 = .ok (.invokevirtual 87, 3) := by decide +kernel
theorem dX5_readHead_62 : decode cX5_readHead 62 = .ok (.ifCond .ne 5, 3) := by decide +kernel
theorem dX5_readHead_65 : decode cX5_readHead 65 = .ok (.iconst 0, 1) := by decide +kernel
theorem dX5_readHead_66 : decode cX5_readHead 66 = .ok (.ireturn, 1) := by decide +kernel
theorem dX5_readHead_67 : decode cX5_readHead 67 = .ok (.aload_n 0, 1) := by decide +kernel
theorem dX5_readHead_68 : decode cX5_readHead 68 = .ok (.aload_n 0, 1) := by decide +kernel
theorem dX5_readHead_69 : decode cX5_readHead 69 = .ok (.getfield 90, 3) := by decide +kernel
theorem dX5_readHead_72 : decode cX5_readHead 72 = .ok (.putfield 46, 3) := by decide +kernel
theorem dX5_readHead_75 : decode cX5_readHead 75 = .ok (.iconst 1, 1) := by decide +kernel
theorem dX5_readHead_76 : decode cX5_readHead 76 = .ok (.ireturn, 1) := by decide +kernel
theorem dX5_readFacet_0 : decode cX5_readFacet 0 = .ok (.aload_n 0, 1) := by decide +kernel
theorem dX5_readFacet_1 : decode cX5_readFacet 1 = .ok (.getfield 43, 3) := by decide +kernel
theorem dX5_readFacet_4 : decode cX5_readFacet 4 = .ok (.ifCond .ne 10, 3) := by decide +kernel
theorem dX5_readFacet_7 : decode cX5_readFacet 7 = .ok (.aload_n 0, 1) := by decide +kernel
theorem dX5_readFacet_8 : decode cX5_readFacet 8 = .ok (.bipush 6, 2) := by decide +kernel
theorem dX5_readFacet_10 : decode cX5_readFacet 10 = .ok (.invokevirtual 62, 3) := by decide +kernel
theorem dX5_readFacet_13 : decode cX5_readFacet 13 = .ok (.ireturn, 1) := by decide +kernel
theorem dX5_readFacet_14 : decode cX5_readFacet 14 = .ok (.aload_n 0, 1) := by decide +kernel
theorem dX5_readFacet_15 : decode cX5_readFacet 15 = .ok (.getfield 49, 3) := by decide +kernel
theorem dX5_readFacet_18 : decode cX5_readFacet 18 = .ok (.bipush 12, 2) := by decide +kernel
theorem dX5_readFacet_20 : decode cX5_readFacet 20 = .ok (.if_icmp .lt 9, 3) := by decide +kernel
theorem dX5_readFacet_23 : decode cX5_readFacet 23 = .ok (.aload_n 0, 1) := by decide +kernel
theorem dX5_readFacet_24 : decode cX5_readFacet 24 = .ok (.iconst 5, 1) := by decide +kernel
theorem dX5_readFacet_25 : decode cX5_readFacet 25 = .ok (.invokevirtual 62, 3) := by decide +kernel
theorem dX5_readFacet_28 : decode cX5_readFacet 28 = .ok (.ireturn, 1) := by decide +kernel
theorem dX5_readFacet_29 : decode cX5_readFacet 29 = .ok (.aload_n 0, 1) := by decide +kernel
theorem dX5_readFacet_30 : decode cX5_readFacet 30 = .ok (.invokevirtual 56, 3) := by decide +kernel
theorem dX5_readFacet_33 : decode cX5_readFacet 33 = .ok (.aload_n 0, 1) := by decide +kernel
theorem dX5_readFacet_34 : decode cX5_readFacet 34 = .ok (.getfield 59, 3) := by decide +kernel
theorem dX5_readFacet_37 : decode cX5_readFacet 37 = .ok (.iconst 1, 1) := by decide +kernel
theorem dX5_readFacet_38 : decode cX5_readFacet 38 = .ok (.if_icmp .eq 9, 3) := by decide +kernel
theorem dX5_readFacet_41 : decode cX5_readFacet 41 = .ok (.aload_n 0, 1) := by decide +kernel
theorem dX5_readFacet_42 : decode cX5_readFacet 42 = .ok (.iconst 1, 1) := by decide +kernel
theorem dX5_readFacet_43 : decode cX5_readFacet 43 = .ok (.invokevirtual 62, 3) := by decide +kernel
theorem dX5_readFacet_46 : decode cX5_readFacet 46 = .ok (.ireturn, 1) := by decide +kernel
theorem dX5_readFacet_47 : decode cX5_readFacet 47 = .ok (.aload_n 0, 1) := by decide +kernel
theorem dX5_readFacet_48 : decode cX5_readFacet 48 = .ok (.invokevirtual 94, 3) := by decide +kernel
theorem dX5_readFacet_51 : decode cX5_readFacet 51 = .ok (.istore_n 1, 1) := by decide +kernel
theorem dX5_readFacet_52 : decode cX5_readFacet 52 = .ok (.iload_n 1, 1) := by decide +kernel
theorem dX5_readFacet_53 : decode cX5_readFacet 53 = .ok (.invokestatic 98, 3) := by decide +kernel
theorem dX5_readFacet_56 : decode cX5_readFacet 56 = .ok (.aload_n 0, 1) := by decide +kernel
theorem dX5_readFacet_57 : decode cX5_readFacet 57 = .ok (.getfield 46, 3) := by decide +kernel
theorem dX5_readFacet_60 : decode cX5_readFacet 60 = .ok (.if_icmp .eq 9, 3) := by decide +kernel
theorem dX5_readFacet_63 : decode cX5_readFacet 63 = .ok (.aload_n 0, 1) := by decide +kernel
theorem dX5_readFacet_64 : decode cX5_readFacet 64 = .ok (.iconst 3, 1) := by decide +kernel
theorem dX5_readFacet_65 : decode cX5_readFacet 65 = .ok (.invokevirtual 62, 3) := by decide +kernel
theorem dX5_readFacet_68 : decode cX5_readFacet 68 = .ok (.ireturn, 1) := by decide +kernel
theorem dX5_readFacet_69 : decode cX5_readFacet 69 = .ok (.iconst 0, 1) := by decide +kernel
theorem dX5_readFacet_70 : decode cX5_readFacet 70 = .ok (.istore_n 2, 1) := by decide +kernel
theorem dX5_readFacet_71 : decode cX5_readFacet 71 = .ok (.iload_n 2, 1) := by decide +kernel
theorem dX5_readFacet_72 : decode cX5_readFacet 72 = .ok (.aload_n 0, 1) := by decide +kernel
theorem dX5_readFacet_73 : decode cX5_readFacet 73 = .ok (.getfield 49, 3) := by decide +kernel
theorem dX5_readFacet_76 : decode cX5_readFacet 76 = .ok (.if_icmp .ge 25, 3) := by decide +kernel
theorem dX5_readFacet_79 : decode cX5_readFacet 79 = .ok (.aload_n 0, 1) := by decide +kernel
theorem dX5_readFacet_80 : decode cX5_readFacet 80 = .ok (.getfield 15, 3) := by decide +kernel
theorem dX5_readFacet_83 : decode cX5_readFacet 83 = .ok (.iload_n 2, 1) := by decide +kernel
theorem dX5_readFacet_84 : decode cX5_readFacet 84 = .ok (.iaload, 1) := by decide +kernel
theorem dX5_readFacet_85 : decode cX5_readFacet 85 = .ok (.iload_n 1, 1) := by decide +kernel
theorem dX5_readFacet_86 : decode cX5_readFacet 86 = .ok (.if_icmp .ne 9, 3) := by decide +kernel
theorem dX5_readFacet_89 : decode cX5_readFacet 89 = .ok (.aload_n 0, 1) := by decide +kernel
theorem dX5_readFacet_90 : decode cX5_readFacet 90 = .ok (.iconst 4, 1) := by decide +kernel
theorem dX5_readFacet_91 : decode cX5_readFacet 91 = .ok (.invokevirtual 62, 3) := by decide +kernel
theorem dX5_readFacet_94 : decode cX5_readFacet 94 = .ok (.ireturn, 1) := by decide +kernel
theorem dX5_readFacet_95 : decode cX5_readFacet 95 = .ok (.iinc 2 1, 3) := by decide +kernel
theorem dX5_readFacet_98 : decode cX5_readFacet 98 = .ok (.goto (-27), 3) := by decide +kernel
theorem dX5_readFacet_101 : decode cX5_readFacet 101 = .ok (.aload_n 0, 1) := by decide +kernel
theorem dX5_readFacet_102 : decode cX5_readFacet 102 = .ok (.getfield 15, 3) := by decide +kernel
theorem dX5_readFacet_105 : decode cX5_readFacet 105 = .ok (.aload_n 0, 1) := by decide +kernel
theorem dX5_readFacet_106 : decode cX5_readFacet 106 = .ok (.getfield 49, 3) := by decide +kernel
theorem dX5_readFacet_109 : decode cX5_readFacet 109 = .ok (.iload_n 1, 1) := by decide +kernel
theorem dX5_readFacet_110 : decode cX5_readFacet 110 = .ok (.iastore, 1) := by decide +kernel
theorem dX5_readFacet_111 : decode cX5_readFacet 111 = .ok (.aload_n 0, 1) := by decide +kernel
theorem dX5_readFacet_112 : decode cX5_readFacet 112 = .ok (.dup, 1) := by decide +kernel
theorem dX5_readFacet_113 : decode cX5_readFacet 113 = .ok (.getfield 49, 3) := by decide +kernel
theorem dX5_readFacet_116 : decode cX5_readFacet 116 = .ok (.iconst 1, 1) := by decide +kernel
theorem dX5_readFacet_117 : decode cX5_readFacet 117 = .ok (.iadd, 1) := by decide +kernel
theorem dX5_readFacet_118 : decode cX5_readFacet 118 = .ok (.putfield 49, 3) := by decide +kernel
theorem dX5_readFacet_121 : decode cX5_readFacet 121 = .ok (.iconst 1, 1) := by decide +kernel
theorem dX5_readFacet_122 : decode cX5_readFacet 122 = .ok (.ireturn, 1) := by decide +kernel
theorem dX5_meets_0 : decode cX5_meets 0 = .ok (.aload_n 0, 1) := by decide +kernel
theorem dX5_meets_1 : decode cX5_meets 1 = .ok (.invokevirtual 56, 3) := by decide +kernel
theorem dX5_meets_4 : decode cX5_meets 4 = .ok (.aload_n 0, 1) := by decide +kernel
theorem dX5_meets_5 : decode cX5_meets 5 = .ok (.aload_n 1, 1) := by decide +kernel
theorem dX5_meets_6 : decode cX5_meets 6 = .ok (.invokevirtual 71, 3) := by decide +kernel
theorem dX5_meets_9 : decode cX5_meets 9 = .ok (.ifCond .ne 11, 3) := by decide +kernel
theorem dX5_meets_12 : decode cX5_meets 12 = .ok (.aload_n 0, 1) := by decide +kernel
theorem dX5_meets_13 : decode cX5_meets 13 = .ok (.iconst 1, 1) := by decide +kernel
theorem dX5_meets_14 : decode cX5_meets 14 = .ok (.invokevirtual 62, 3) := by decide +kernel
theorem dX5_meets_17 : decode cX5_meets 17 = .ok (.ifCond .eq 7, 3) := by decide +kernel
theorem dX5_meets_20 : decode cX5_meets 20 = .ok (.iconst 1, 1) := by decide +kernel
theorem dX5_meets_21 : decode cX5_meets 21 = .ok (.goto 4, 3) := by decide +kernel
theorem dX5_meets_24 : decode cX5_meets 24 = .ok (.iconst 0, 1) := by decide +kernel
theorem dX5_meets_25 : decode cX5_meets 25 = .ok (.ireturn, 1) := by decide +kernel
theorem dX5_meetsWhole_0 : decode cX5_meetsWhole 0 = .ok (.aload_n 0, 1) := by decide +kernel
theorem dX5_meetsWhole_1 : decode cX5_meetsWhole 1 = .ok (.invokevirtual 56, 3) := by decide +kernel
theorem dX5_meetsWhole_4 : decode cX5_meetsWhole 4 = .ok (.aload_n 0, 1) := by decide +kernel
theorem dX5_meetsWhole_5 : decode cX5_meetsWhole 5 = .ok (.getfield 59, 3) := by decide +kernel
theorem dX5_meetsWhole_8 : decode cX5_meetsWhole 8 = .ok (.iconst 2, 1) := by decide +kernel
theorem dX5_meetsWhole_9 : decode cX5_meetsWhole 9 = .ok (.if_icmp .eq 9, 3) := by decide +kernel
theorem dX5_meetsWhole_12 : decode cX5_meetsWhole 12 = .ok (.aload_n 0, 1) := by decide +kernel
theorem dX5_meetsWhole_13 : decode cX5_meetsWhole 13 = .ok (.iconst 1, 1) := by decide +kernel
theorem dX5_meetsWhole_14 : decode cX5_meetsWhole 14 = .ok (.invokevirtual 62, 3) := by decide +kernel
theorem dX5_meetsWhole_17 : decode cX5_meetsWhole 17 = .ok (.ireturn, 1) := by decide +kernel
theorem dX5_meetsWhole_18 : decode cX5_meetsWhole 18 = .ok (.aload_n 0, 1) := by decide +kernel
theorem dX5_meetsWhole_19 : decode cX5_meetsWhole 19 = .ok (.iconst 0, 1) := by decide +kernel
theorem dX5_meetsWhole_20 : decode cX5_meetsWhole 20 = .ok (.putfield 90, 3) := by decide +kernel
theorem dX5_meetsWhole_23 : decode cX5_meetsWhole 23 = .ok (.aload_n 0, 1) := by decide +kernel
theorem dX5_meetsWhole_24 : decode cX5_meetsWhole 24 = .ok (.getfield 66, 3) := by decide +kernel
theorem dX5_meetsWhole_27 : decode cX5_meetsWhole 27 = .ok (.istore_n 2, 1) := by decide +kernel
theorem dX5_meetsWhole_28 : decode cX5_meetsWhole 28 = .ok (.iload_n 2, 1) := by decide +kernel
theorem dX5_meetsWhole_29 : decode cX5_meetsWhole 29 = .ok (.aload_n 0, 1) := by decide +kernel
theorem dX5_meetsWhole_30 : decode cX5_meetsWhole 30 = .ok (.getfield 34, 3) := by decide +kernel
theorem dX5_meetsWhole_33 : decode cX5_meetsWhole 33 = .ok (.if_icmp .ge 37, 3) := by decide +kernel
theorem dX5_meetsWhole_36 : decode cX5_meetsWhole 36 = .ok (.iload_n 2, 1) := by decide +kernel
theorem dX5_meetsWhole_37 : decode cX5_meetsWhole 37 = .ok (.sipush 200, 3) := by decide +kernel
theorem dX5_meetsWhole_40 : decode cX5_meetsWhole 40 = .ok (.if_icmp .ge 30, 3) := by decide +kernel
theorem dX5_meetsWhole_43 : decode cX5_meetsWhole 43 = .ok (.aload_n 0, 1) := by decide +kernel
theorem dX5_meetsWhole_44 : decode cX5_meetsWhole 44 = .ok (.aload_n 0, 1) := by decide +kernel
theorem dX5_meetsWhole_45 : decode cX5_meetsWhole 45 = .ok (.getfield 90, 3) := by decide +kernel
theorem dX5_meetsWhole_48 : decode cX5_meetsWhole 48 = .ok (.bipush 10, 2) := by decide +kernel
theorem dX5_meetsWhole_50 : decode cX5_meetsWhole 50 = .ok (.imul, 1) := by decide +kernel
theorem dX5_meetsWhole_51 : decode cX5_meetsWhole 51 = .ok (.aload_n 0, 1) := by decide +kernel
theorem dX5_meetsWhole_52 : decode cX5_meetsWhole 52 = .ok (.getfield 11, 3) := by decide +kernel
theorem dX5_meetsWhole_55 : decode cX5_meetsWhole 55 = .ok (.iload_n 2, 1) := by decide +kernel
theorem dX5_meetsWhole_56 : decode cX5_meetsWhole 56 = .ok (.iaload, 1) := by decide +kernel
theorem dX5_meetsWhole_57 : decode cX5_meetsWhole 57 = .ok (.iadd, 1) := by decide +kernel
theorem dX5_meetsWhole_58 : decode cX5_meetsWhole 58 = .ok (.bipush 48, 2) := by decide +kernel
theorem dX5_meetsWhole_60 : decode cX5_meetsWhole 60 = .ok (.isub, 1) := by decide +kernel
theorem dX5_meetsWhole_61 : decode cX5_meetsWhole 61 = .ok (.putfield 90, 3) := by decide +kernel
theorem dX5_meetsWhole_64 : decode cX5_meetsWhole 64 = .ok (.iinc 2 1, 3) := by decide +kernel
theorem dX5_meetsWhole_67 : decode cX5_meetsWhole 67 = .ok (.goto (-39), 3) := by decide +kernel
theorem dX5_meetsWhole_70 : decode cX5_meetsWhole 70 = .ok (.aload_n 0, 1) := by decide +kernel
theorem dX5_meetsWhole_71 : decode cX5_meetsWhole 71 = .ok (.getfield 90, 3) := by decide +kernel
theorem dX5_meetsWhole_74 : decode cX5_meetsWhole 74 = .ok (.iconst 1, 1) := by decide +kernel
theorem dX5_meetsWhole_75 : decode cX5_meetsWhole 75 = .ok (.if_icmp .lt 11, 3) := by decide +kernel
theorem dX5_meetsWhole_78 : decode cX5_meetsWhole 78 = .ok (.aload_n 0, 1) := by decide +kernel
theorem dX5_meetsWhole_79 : decode cX5_meetsWhole 79 = .ok (.getfield 90, 3) := by decide +kernel
theorem dX5_meetsWhole_82 : decode cX5_meetsWhole 82 = .ok (.iload_n 1, 1) := by decide +kernel
theorem dX5_meetsWhole_83 : decode cX5_meetsWhole 83 = .ok (.if_icmp .le 11, 3) := by decide +kernel
theorem dX5_meetsWhole_86 : decode cX5_meetsWhole 86 = .ok (.aload_n 0, 1) := by decide +kernel
theorem dX5_meetsWhole_87 : decode cX5_meetsWhole 87 = .ok (.iconst 2, 1) := by decide +kernel
theorem dX5_meetsWhole_88 : decode cX5_meetsWhole 88 = .ok (.invokevirtual 62, 3) := by decide +kernel
theorem dX5_meetsWhole_91 : decode cX5_meetsWhole 91 = .ok (.ifCond .eq 7, 3) := by decide +kernel
theorem dX5_meetsWhole_94 : decode cX5_meetsWhole 94 = .ok (.iconst 1, 1) := by decide +kernel
theorem dX5_meetsWhole_95 : decode cX5_meetsWhole 95 = .ok (.goto 4, 3) := by decide +kernel
theorem dX5_meetsWhole_98 : decode cX5_meetsWhole 98 = .ok (.iconst 0, 1) := by decide +kernel
theorem dX5_meetsWhole_99 : decode cX5_meetsWhole 99 = .ok (.ireturn, 1) := by decide +kernel
theorem dX5_wordSet_0 : decode cX5_wordSet 0 = .ok (.iconst 0, 1) := by decide +kernel
theorem dX5_wordSet_1 : decode cX5_wordSet 1 = .ok (.istore_n 1, 1) := by decide +kernel
theorem dX5_wordSet_2 : decode cX5_wordSet 2 = .ok (.aload_n 0, 1) := by decide +kernel
theorem dX5_wordSet_3 : decode cX5_wordSet 3 = .ok (.getfield 66, 3) := by decide +kernel
theorem dX5_wordSet_6 : decode cX5_wordSet 6 = .ok (.istore_n 2, 1) := by decide +kernel
theorem dX5_wordSet_7 : decode cX5_wordSet 7 = .ok (.iload_n 2, 1) := by decide +kernel
theorem dX5_wordSet_8 : decode cX5_wordSet 8 = .ok (.aload_n 0, 1) := by decide +kernel
theorem dX5_wordSet_9 : decode cX5_wordSet 9 = .ok (.getfield 34, 3) := by decide +kernel
theorem dX5_wordSet_12 : decode cX5_wordSet 12 = .ok (.if_icmp .ge 51, 3) := by decide +kernel
theorem dX5_wordSet_15 : decode cX5_wordSet 15 = .ok (.iload_n 2, 1) := by decide +kernel
theorem dX5_wordSet_16 : decode cX5_wordSet 16 = .ok (.sipush 200, 3) := by decide +kernel
theorem dX5_wordSet_19 : decode cX5_wordSet 19 = .ok (.if_icmp .ge 44, 3) := by decide +kernel
theorem dX5_wordSet_22 : decode cX5_wordSet 22 = .ok (.aload_n 0, 1) := by decide +kernel
theorem dX5_wordSet_23 : decode cX5_wordSet 23 = .ok (.getfield 11, 3) := by decide +kernel
theorem dX5_wordSet_26 : decode cX5_wordSet 26 = .ok (.iload_n 2, 1) := by decide +kernel
theorem dX5_wordSet_27 : decode cX5_wordSet 27 = .ok (.iaload, 1) := by decide +kernel
theorem dX5_wordSet_28 : decode cX5_wordSet 28 = .ok (.bipush 97, 2) := by decide +kernel
theorem dX5_wordSet_30 : decode cX5_wordSet 30 = .ok (.isub, 1) := by decide +kernel
theorem dX5_wordSet_31 : decode cX5_wordSet 31 = .ok (.istore_n 3, 1) := by decide +kernel
theorem dX5_wordSet_32 : decode cX5_wordSet 32 = .ok (.iload_n 3, 1) := by decide +kernel
theorem dX5_wordSet_33 : decode cX5_wordSet 33 = .ok (.aload_n 0, 1) := by decide +kernel
theorem dX5_wordSet_34 : decode cX5_wordSet 34 = .ok (.getfield 43, 3) := by decide +kernel
theorem dX5_wordSet_37 : decode cX5_wordSet 37 = .ok (.if_icmp .ge 12, 3) := by decide +kernel
theorem dX5_wordSet_40 : decode cX5_wordSet 40 = .ok (.iload_n 1, 1) := by decide +kernel
theorem dX5_wordSet_41 : decode cX5_wordSet 41 = .ok (.iload_n 3, 1) := by decide +kernel
theorem dX5_wordSet_42 : decode cX5_wordSet 42 = .ok (.ishr, 1) := by decide +kernel
theorem dX5_wordSet_43 : decode cX5_wordSet 43 = .ok (.iconst 1, 1) := by decide +kernel
theorem dX5_wordSet_44 : decode cX5_wordSet 44 = .ok (.iand, 1) := by decide +kernel
theorem dX5_wordSet_45 : decode cX5_wordSet 45 = .ok (.iconst 1, 1) := by decide +kernel
theorem dX5_wordSet_46 : decode cX5_wordSet 46 = .ok (.if_icmp .ne 5, 3) := by decide +kernel
theorem dX5_wordSet_49 : decode cX5_wordSet 49 = .ok (.iconst 0, 1) := by decide +kernel
theorem dX5_wordSet_50 : decode cX5_wordSet 50 = .ok (.ireturn, 1) := by decide +kernel
theorem dX5_wordSet_51 : decode cX5_wordSet 51 = .ok (.iload_n 1, 1) := by decide +kernel
theorem dX5_wordSet_52 : decode cX5_wordSet 52 = .ok (.iconst 1, 1) := by decide +kernel
theorem dX5_wordSet_53 : decode cX5_wordSet 53 = .ok (.iload_n 3, 1) := by decide +kernel
theorem dX5_wordSet_54 : decode cX5_wordSet 54 = .ok (.ishl, 1) := by decide +kernel
theorem dX5_wordSet_55 : decode cX5_wordSet 55 = .ok (.ior, 1) := by decide +kernel
theorem dX5_wordSet_56 : decode cX5_wordSet 56 = .ok (.istore_n 1, 1) := by decide +kernel
theorem dX5_wordSet_57 : decode cX5_wordSet 57 = .ok (.iinc 2 1, 3) := by decide +kernel
theorem dX5_wordSet_60 : decode cX5_wordSet 60 = .ok (.goto (-53), 3) := by decide +kernel
theorem dX5_wordSet_63 : decode cX5_wordSet 63 = .ok (.iload_n 1, 1) := by decide +kernel
theorem dX5_wordSet_64 : decode cX5_wordSet 64 = .ok (.ireturn, 1) := by decide +kernel
theorem dX5_wordIs_0 : decode cX5_wordIs 0 = .ok (.aload_n 0, 1) := by decide +kernel
theorem dX5_wordIs_1 : decode cX5_wordIs 1 = .ok (.getfield 59, 3) := by decide +kernel
theorem dX5_wordIs_4 : decode cX5_wordIs 4 = .ok (.iconst 1, 1) := by decide +kernel
theorem dX5_wordIs_5 : decode cX5_wordIs 5 = .ok (.if_icmp .ne 19, 3) := by decide +kernel
theorem dX5_wordIs_8 : decode cX5_wordIs 8 = .ok (.aload_n 0, 1) := by decide +kernel
theorem dX5_wordIs_9 : decode cX5_wordIs 9 = .ok (.getfield 34, 3) := by decide +kernel
theorem dX5_wordIs_12 : decode cX5_wordIs 12 = .ok (.aload_n 0, 1) := by decide +kernel
theorem dX5_wordIs_13 : decode cX5_wordIs 13 = .ok (.getfield 66, 3) := by decide +kernel
theorem dX5_wordIs_16 : decode cX5_wordIs 16 = .ok (.isub, 1) := by decide +kernel
theorem dX5_wordIs_17 : decode cX5_wordIs 17 = .ok (.aload_n 1, 1) := by decide +kernel
theorem dX5_wordIs_18 : decode cX5_wordIs 18 = .ok (.invokevirtual 104, 3) := by decide +kernel
theorem dX5_wordIs_21 : decode cX5_wordIs 21 = .ok (.if_icmp .eq 5, 3) := by decide +kernel
theorem dX5_wordIs_24 : decode cX5_wordIs 24 = .ok (.iconst 0, 1) := by decide +kernel
theorem dX5_wordIs_25 : decode cX5_wordIs 25 = .ok (.ireturn, 1) := by decide +kernel
theorem dX5_wordIs_26 : decode cX5_wordIs 26 = .ok (.iconst 0, 1) := by decide +kernel
theorem dX5_wordIs_27 : decode cX5_wordIs 27 = .ok (.istore_n 2, 1) := by decide +kernel
theorem dX5_wordIs_28 : decode cX5_wordIs 28 = .ok (.iload_n 2, 1) := by decide +kernel
theorem dX5_wordIs_29 : decode cX5_wordIs 29 = .ok (.aload_n 1, 1) := by decide +kernel
theorem dX5_wordIs_30 : decode cX5_wordIs 30 = .ok (.invokevirtual 104, 3) := by decide +kernel
theorem dX5_wordIs_33 : decode cX5_wordIs 33 = .ok (.if_icmp .ge 42, 3) := by decide +kernel
theorem dX5_wordIs_36 : decode cX5_wordIs 36 = .ok (.aload_n 0, 1) := by decide +kernel
theorem dX5_wordIs_37 : decode cX5_wordIs 37 = .ok (.getfield 66, 3) := by decide +kernel
theorem dX5_wordIs_40 : decode cX5_wordIs 40 = .ok (.iload_n 2, 1) := by decide +kernel
theorem dX5_wordIs_41 : decode cX5_wordIs 41 = .ok (.iadd, 1) := by decide +kernel
theorem dX5_wordIs_42 : decode cX5_wordIs 42 = .ok (.sipush 200, 3) := by decide +kernel
theorem dX5_wordIs_45 : decode cX5_wordIs 45 = .ok (.if_icmp .ge 30, 3) := by decide +kernel
theorem dX5_wordIs_48 : decode cX5_wordIs 48 = .ok (.aload_n 0, 1) := by decide +kernel
theorem dX5_wordIs_49 : decode cX5_wordIs 49 = .ok (.getfield 11, 3) := by decide +kernel
theorem dX5_wordIs_52 : decode cX5_wordIs 52 = .ok (.aload_n 0, 1) := by decide +kernel
theorem dX5_wordIs_53 : decode cX5_wordIs 53 = .ok (.getfield 66, 3) := by decide +kernel
theorem dX5_wordIs_56 : decode cX5_wordIs 56 = .ok (.iload_n 2, 1) := by decide +kernel
theorem dX5_wordIs_57 : decode cX5_wordIs 57 = .ok (.iadd, 1) := by decide +kernel
theorem dX5_wordIs_58 : decode cX5_wordIs 58 = .ok (.iaload, 1) := by decide +kernel
theorem dX5_wordIs_59 : decode cX5_wordIs 59 = .ok (.aload_n 1, 1) := by decide +kernel
theorem dX5_wordIs_60 : decode cX5_wordIs 60 = .ok (.iload_n 2, 1) := by decide +kernel
theorem dX5_wordIs_61 : decode cX5_wordIs 61 = .ok (.invokevirtual 109, 3) := by decide +kernel
theorem dX5_wordIs_64 : decode cX5_wordIs 64 = .ok (.if_icmp .eq 5, 3) := by decide +kernel
theorem dX5_wordIs_67 : decode cX5_wordIs 67 = .ok (.iconst 0, 1) := by decide +kernel
theorem dX5_wordIs_68 : decode cX5_wordIs 68 = .ok (.ireturn, 1) := by decide +kernel
theorem dX5_wordIs_69 : decode cX5_wordIs 69 = .ok (.iinc 2 1, 3) := by decide +kernel
theorem dX5_wordIs_72 : decode cX5_wordIs 72 = .ok (.goto (-44), 3) := by decide +kernel
theorem dX5_wordIs_75 : decode cX5_wordIs 75 = .ok (.iconst 1, 1) := by decide +kernel
theorem dX5_wordIs_76 : decode cX5_wordIs 76 = .ok (.ireturn, 1) := by decide +kernel
theorem dX5_step_0 : decode cX5_step 0 = .ok (.aload_n 0, 1) := by decide +kernel
theorem dX5_step_1 : decode cX5_step 1 = .ok (.aload_n 0, 1) := by decide +kernel
theorem dX5_step_2 : decode cX5_step 2 = .ok (.getfield 34, 3) := by decide +kernel
theorem dX5_step_5 : decode cX5_step 5 = .ok (.putfield 66, 3) := by decide +kernel
theorem dX5_step_8 : decode cX5_step 8 = .ok (.aload_n 0, 1) := by decide +kernel
theorem dX5_step_9 : decode cX5_step 9 = .ok (.getfield 66, 3) := by decide +kernel
theorem dX5_step_12 : decode cX5_step 12 = .ok (.aload_n 0, 1) := by decide +kernel
theorem dX5_step_13 : decode cX5_step 13 = .ok (.getfield 31, 3) := by decide +kernel
theorem dX5_step_16 : decode cX5_step 16 = .ok (.if_icmp .ge 30, 3) := by decide +kernel
theorem dX5_step_19 : decode cX5_step 19 = .ok (.aload_n 0, 1) := by decide +kernel
theorem dX5_step_20 : decode cX5_step 20 = .ok (.getfield 11, 3) := by decide +kernel
theorem dX5_step_23 : decode cX5_step 23 = .ok (.aload_n 0, 1) := by decide +kernel
theorem dX5_step_24 : decode cX5_step 24 = .ok (.getfield 66, 3) := by decide +kernel
theorem dX5_step_27 : decode cX5_step 27 = .ok (.iaload, 1) := by decide +kernel
theorem dX5_step_28 : decode cX5_step 28 = .ok (.bipush 32, 2) := by decide +kernel
theorem dX5_step_30 : decode cX5_step 30 = .ok (.if_icmp .ne 16, 3) := by decide +kernel
theorem dX5_step_33 : decode cX5_step 33 = .ok (.aload_n 0, 1) := by decide +kernel
theorem dX5_step_34 : decode cX5_step 34 = .ok (.dup, 1) := by decide +kernel
theorem dX5_step_35 : decode cX5_step 35 = .ok (.getfield 66, 3) := by decide +kernel
theorem dX5_step_38 : decode cX5_step 38 = .ok (.iconst 1, 1) := by decide +kernel
theorem dX5_step_39 : decode cX5_step 39 = .ok (.iadd, 1) := by decide +kernel
theorem dX5_step_40 : decode cX5_step 40 = .ok (.putfield 66, 3) := by decide +kernel
theorem dX5_step_43 : decode cX5_step 43 = .ok (.goto (-35), 3) := by decide +kernel
theorem dX5_step_46 : decode cX5_step 46 = .ok (.aload_n 0, 1) := by decide +kernel
theorem dX5_step_47 : decode cX5_step 47 = .ok (.aload_n 0, 1) := by decide +kernel
theorem dX5_step_48 : decode cX5_step 48 = .ok (.getfield 66, 3) := by decide +kernel
theorem dX5_step_51 : decode cX5_step 51 = .ok (.putfield 34, 3) := by decide +kernel
theorem dX5_step_54 : decode cX5_step 54 = .ok (.aload_n 0, 1) := by decide +kernel
theorem dX5_step_55 : decode cX5_step 55 = .ok (.getfield 66, 3) := by decide +kernel
theorem dX5_step_58 : decode cX5_step 58 = .ok (.aload_n 0, 1) := by decide +kernel
theorem dX5_step_59 : decode cX5_step 59 = .ok (.getfield 31, 3) := by decide +kernel
theorem dX5_step_62 : decode cX5_step 62 = .ok (.if_icmp .lt 11, 3) := by decide +kernel
theorem dX5_step_65 : decode cX5_step 65 = .ok (.aload_n 0, 1) := by decide +kernel
theorem dX5_step_66 : decode cX5_step 66 = .ok (.iconst 0, 1) := by decide +kernel
theorem dX5_step_67 : decode cX5_step 67 = .ok (.putfield 59, 3) := by decide +kernel
theorem dX5_step_70 : decode cX5_step 70 = .ok (.goto 107, 3) := by decide +kernel
theorem dX5_step_73 : decode cX5_step 73 = .ok (.aload_n 0, 1) := by decide +kernel
theorem dX5_step_74 : decode cX5_step 74 = .ok (.getfield 11, 3) := by decide +kernel
theorem dX5_step_77 : decode cX5_step 77 = .ok (.aload_n 0, 1) := by decide +kernel
theorem dX5_step_78 : decode cX5_step 78 = .ok (.getfield 66, 3) := by decide +kernel
theorem dX5_step_81 : decode cX5_step 81 = .ok (.iaload, 1) := by decide +kernel
theorem dX5_step_82 : decode cX5_step 82 = .ok (.invokestatic 113, 3) := by decide +kernel
theorem dX5_step_85 : decode cX5_step 85 = .ok (.ifCond .eq 24, 3) := by decide +kernel
theorem dX5_step_88 : decode cX5_step 88 = .ok (.aload_n 0, 1) := by decide +kernel
theorem dX5_step_89 : decode cX5_step 89 = .ok (.aload_n 0, 1) := by decide +kernel
theorem dX5_step_90 : decode cX5_step 90 = .ok (.invokevirtual 116, 3) := by decide +kernel
theorem dX5_step_93 : decode cX5_step 93 = .ok (.bipush 7, 2) := by decide +kernel
theorem dX5_step_95 : decode cX5_step 95 = .ok (.if_icmp .gt 7, 3) := by decide +kernel
theorem dX5_step_98 : decode cX5_step 98 = .ok (.iconst 1, 1) := by decide +kernel
theorem dX5_step_99 : decode cX5_step 99 = .ok (.goto 4, 3) := by decide +kernel
theorem dX5_step_102 : decode cX5_step 102 = .ok (.iconst 4, 1) := by decide +kernel
theorem dX5_step_103 : decode cX5_step 103 = .ok (.putfield 59, 3) := by decide +kernel
theorem dX5_step_106 : decode cX5_step 106 = .ok (.goto 71, 3) := by decide +kernel
theorem dX5_step_109 : decode cX5_step 109 = .ok (.aload_n 0, 1) := by decide +kernel
theorem dX5_step_110 : decode cX5_step 110 = .ok (.getfield 11, 3) := by decide +kernel
theorem dX5_step_113 : decode cX5_step 113 = .ok (.aload_n 0, 1) := by decide +kernel
theorem dX5_step_114 : decode cX5_step 114 = .ok (.getfield 66, 3) := by decide +kernel
theorem dX5_step_117 : decode cX5_step 117 = .ok (.iaload, 1) := by decide +kernel
theorem dX5_step_118 : decode cX5_step 118 = .ok (.invokestatic 119, 3) := by decide +kernel
theorem dX5_step_121 : decode cX5_step 121 = .ok (.ifCond .eq 23, 3) := by decide +kernel
theorem dX5_step_124 : decode cX5_step 124 = .ok (.aload_n 0, 1) := by decide +kernel
theorem dX5_step_125 : decode cX5_step 125 = .ok (.aload_n 0, 1) := by decide +kernel
theorem dX5_step_126 : decode cX5_step 126 = .ok (.invokevirtual 122, 3) := by decide +kernel
theorem dX5_step_129 : decode cX5_step 129 = .ok (.iconst 2, 1) := by decide +kernel
theorem dX5_step_130 : decode cX5_step 130 = .ok (.if_icmp .gt 7, 3) := by decide +kernel
theorem dX5_step_133 : decode cX5_step 133 = .ok (.iconst 2, 1) := by decide +kernel
theorem dX5_step_134 : decode cX5_step 134 = .ok (.goto 4, 3) := by decide +kernel
theorem dX5_step_137 : decode cX5_step 137 = .ok (.iconst 4, 1) := by decide +kernel
theorem dX5_step_138 : decode cX5_step 138 = .ok (.putfield 59, 3) := by decide +kernel
theorem dX5_step_141 : decode cX5_step 141 = .ok (.goto 36, 3) := by decide +kernel
theorem dX5_step_144 : decode cX5_step 144 = .ok (.aload_n 0, 1) := by decide +kernel
theorem dX5_step_145 : decode cX5_step 145 = .ok (.aload_n 0, 1) := by decide +kernel
theorem dX5_step_146 : decode cX5_step 146 = .ok (.getfield 11, 3) := by decide +kernel
theorem dX5_step_149 : decode cX5_step 149 = .ok (.aload_n 0, 1) := by decide +kernel
theorem dX5_step_150 : decode cX5_step 150 = .ok (.getfield 66, 3) := by decide +kernel
theorem dX5_step_153 : decode cX5_step 153 = .ok (.iaload, 1) := by decide +kernel
theorem dX5_step_154 : decode cX5_step 154 = .ok (.bipush 59, 2) := by decide +kernel
theorem dX5_step_156 : decode cX5_step 156 = .ok (.if_icmp .ne 7, 3) := by decide +kernel
theorem dX5_step_159 : decode cX5_step 159 = .ok (.iconst 3, 1) := by decide +kernel
theorem dX5_step_160 : decode cX5_step 160 = .ok (.goto 4, 3) := by decide +kernel
theorem dX5_step_163 : decode cX5_step 163 = .ok (.iconst 4, 1) := by decide +kernel
theorem dX5_step_164 : decode cX5_step 164 = .ok (.putfield 59, 3) := by decide +kernel
theorem dX5_step_167 : decode cX5_step 167 = .ok (.aload_n 0, 1) := by decide +kernel
theorem dX5_step_168 : decode cX5_step 168 = .ok (.aload_n 0, 1) := by decide +kernel
theorem dX5_step_169 : decode cX5_step 169 = .ok (.getfield 66, 3) := by decide +kernel
theorem dX5_step_172 : decode cX5_step 172 = .ok (.iconst 1, 1) := by decide +kernel
theorem dX5_step_173 : decode cX5_step 173 = .ok (.iadd, 1) := by decide +kernel
theorem dX5_step_174 : decode cX5_step 174 = .ok (.putfield 34, 3) := by decide +kernel
theorem dX5_step_177 : decode cX5_step 177 = .ok (.return_, 1) := by decide +kernel
theorem dX5_passLetters_0 : decode cX5_passLetters 0 = .ok (.aload_n 0, 1) := by decide +kernel
theorem dX5_passLetters_1 : decode cX5_passLetters 1 = .ok (.getfield 34, 3) := by decide +kernel
theorem dX5_passLetters_4 : decode cX5_passLetters 4 = .ok (.aload_n 0, 1) := by decide +kernel
theorem dX5_passLetters_5 : decode cX5_passLetters 5 = .ok (.getfield 31, 3) := by decide +kernel
theorem dX5_passLetters_8 : decode cX5_passLetters 8 = .ok (.if_icmp .ge 31, 3) := by decide +kernel
theorem dX5_passLetters_11 : decode cX5_passLetters 11 = .ok (.aload_n 0, 1) := by decide +kernel
theorem dX5_passLetters_12 : decode cX5_passLetters 12 = .ok (.getfield 11, 3) := by decide +kernel
theorem dX5_passLetters_15 : decode cX5_passLetters 15 = .ok (.aload_n 0, 1) := by decide +kernel
theorem dX5_passLetters_16 : decode cX5_passLetters 16 = .ok (.getfield 34, 3) := by decide +kernel
theorem dX5_passLetters_19 : decode cX5_passLetters 19 = .ok (.iaload, 1) := by decide +kernel
theorem dX5_passLetters_20 : decode cX5_passLetters 20 = .ok (.invokestatic 113, 3) := by decide +kernel
theorem dX5_passLetters_23 : decode cX5_passLetters 23 = .ok (.ifCond .eq 16, 3) := by decide +kernel
theorem dX5_passLetters_26 : decode cX5_passLetters 26 = .ok (.aload_n 0, 1) := by decide +kernel
theorem dX5_passLetters_27 : decode cX5_passLetters 27 = .ok (.dup, 1) := by decide +kernel
theorem dX5_passLetters_28 : decode cX5_passLetters 28 = .ok (.getfield 34, 3) := by decide +kernel
theorem dX5_passLetters_31 : decode cX5_passLetters 31 = .ok (.iconst 1, 1) := by decide +kernel
theorem dX5_passLetters_32 : decode cX5_passLetters 32 = .ok (.iadd, 1) := by decide +kernel
theorem dX5_passLetters_33 : decode cX5_passLetters 33 = .ok (.putfield 34, 3) := by decide +kernel
theorem dX5_passLetters_36 : decode cX5_passLetters 36 = .ok (.goto (-36), 3) := by decide +kernel
theorem dX5_passLetters_39 : decode cX5_passLetters 39 = .ok (.aload_n 0, 1) := by decide +kernel
theorem dX5_passLetters_40 : decode cX5_passLetters 40 = .ok (.getfield 34, 3) := by decide +kernel
theorem dX5_passLetters_43 : decode cX5_passLetters 43 = .ok (.aload_n 0, 1) := by decide +kernel
theorem dX5_passLetters_44 : decode cX5_passLetters 44 = .ok (.getfield 66, 3) := by decide +kernel
theorem dX5_passLetters_47 : decode cX5_passLetters 47 = .ok (.isub, 1) := by decide +kernel
theorem dX5_passLetters_48 : decode cX5_passLetters 48 = .ok (.ireturn, 1) := by decide +kernel
theorem dX5_passDigits_0 : decode cX5_passDigits 0 = .ok (.aload_n 0, 1) := by decide +kernel
theorem dX5_passDigits_1 : decode cX5_passDigits 1 = .ok (.getfield 34, 3) := by decide +kernel
theorem dX5_passDigits_4 : decode cX5_passDigits 4 = .ok (.aload_n 0, 1) := by decide +kernel
theorem dX5_passDigits_5 : decode cX5_passDigits 5 = .ok (.getfield 31, 3) := by decide +kernel
theorem dX5_passDigits_8 : decode cX5_passDigits 8 = .ok (.if_icmp .ge 31, 3) := by decide +kernel
theorem dX5_passDigits_11 : decode cX5_passDigits 11 = .ok (.aload_n 0, 1) := by decide +kernel
theorem dX5_passDigits_12 : decode cX5_passDigits 12 = .ok (.getfield 11, 3) := by decide +kernel
theorem dX5_passDigits_15 : decode cX5_passDigits 15 = .ok (.aload_n 0, 1) := by decide +kernel
theorem dX5_passDigits_16 : decode cX5_passDigits 16 = .ok (.getfield 34, 3) := by decide +kernel
theorem dX5_passDigits_19 : decode cX5_passDigits 19 = .ok (.iaload, 1) := by decide +kernel
theorem dX5_passDigits_20 : decode cX5_passDigits 20 = .ok (.invokestatic 119, 3) := by decide +kernel
theorem dX5_passDigits_23 : decode cX5_passDigits 23 = .ok (.ifCond .eq 16, 3) := by decide +kernel
theorem dX5_passDigits_26 : decode cX5_passDigits 26 = .ok (.aload_n 0, 1) := by decide +kernel
theorem dX5_passDigits_27 : decode cX5_passDigits 27 = .ok (.dup, 1) := by decide +kernel
theorem dX5_passDigits_28 : decode cX5_passDigits 28 = .ok (.getfield 34, 3) := by decide +kernel
theorem dX5_passDigits_31 : decode cX5_passDigits 31 = .ok (.iconst 1, 1) := by decide +kernel
theorem dX5_passDigits_32 : decode cX5_passDigits 32 = .ok (.iadd, 1) := by decide +kernel
theorem dX5_passDigits_33 : decode cX5_passDigits 33 = .ok (.putfield 34, 3) := by decide +kernel
theorem dX5_passDigits_36 : decode cX5_passDigits 36 = .ok (.goto (-36), 3) := by decide +kernel
theorem dX5_passDigits_39 : decode cX5_passDigits 39 = .ok (.aload_n 0, 1) := by decide +kernel
theorem dX5_passDigits_40 : decode cX5_passDigits 40 = .ok (.getfield 34, 3) := by decide +kernel
theorem dX5_passDigits_43 : decode cX5_passDigits 43 = .ok (.aload_n 0, 1) := by decide +kernel
theorem dX5_passDigits_44 : decode cX5_passDigits 44 = .ok (.getfield 66, 3) := by decide +kernel
theorem dX5_passDigits_47 : decode cX5_passDigits 47 = .ok (.isub, 1) := by decide +kernel
theorem dX5_passDigits_48 : decode cX5_passDigits 48 = .ok (.ireturn, 1) := by decide +kernel
theorem dX5_isLetter_0 : decode cX5_isLetter 0 = .ok (.iload_n 0, 1) := by decide +kernel
theorem dX5_isLetter_1 : decode cX5_isLetter 1 = .ok (.bipush 97, 2) := by decide +kernel
theorem dX5_isLetter_3 : decode cX5_isLetter 3 = .ok (.if_icmp .lt 13, 3) := by decide +kernel
theorem dX5_isLetter_6 : decode cX5_isLetter 6 = .ok (.iload_n 0, 1) := by decide +kernel
theorem dX5_isLetter_7 : decode cX5_isLetter 7 = .ok (.bipush 122, 2) := by decide +kernel
theorem dX5_isLetter_9 : decode cX5_isLetter 9 = .ok (.if_icmp .gt 7, 3) := by decide +kernel
theorem dX5_isLetter_12 : decode cX5_isLetter 12 = .ok (.iconst 1, 1) := by decide +kernel
theorem dX5_isLetter_13 : decode cX5_isLetter 13 = .ok (.goto 4, 3) := by decide +kernel
theorem dX5_isLetter_16 : decode cX5_isLetter 16 = .ok (.iconst 0, 1) := by decide +kernel
theorem dX5_isLetter_17 : decode cX5_isLetter 17 = .ok (.ireturn, 1) := by decide +kernel
theorem dX5_isDigit_0 : decode cX5_isDigit 0 = .ok (.iload_n 0, 1) := by decide +kernel
theorem dX5_isDigit_1 : decode cX5_isDigit 1 = .ok (.bipush 48, 2) := by decide +kernel
theorem dX5_isDigit_3 : decode cX5_isDigit 3 = .ok (.if_icmp .lt 13, 3) := by decide +kernel
theorem dX5_isDigit_6 : decode cX5_isDigit 6 = .ok (.iload_n 0, 1) := by decide +kernel
theorem dX5_isDigit_7 : decode cX5_isDigit 7 = .ok (.bipush 57, 2) := by decide +kernel
theorem dX5_isDigit_9 : decode cX5_isDigit 9 = .ok (.if_icmp .gt 7, 3) := by decide +kernel
theorem dX5_isDigit_12 : decode cX5_isDigit 12 = .ok (.iconst 1, 1) := by decide +kernel
theorem dX5_isDigit_13 : decode cX5_isDigit 13 = .ok (.goto 4, 3) := by decide +kernel
theorem dX5_isDigit_16 : decode cX5_isDigit 16 = .ok (.iconst 0, 1) := by decide +kernel
theorem dX5_isDigit_17 : decode cX5_isDigit 17 = .ok (.ireturn, 1) := by decide +kernel
theorem dJ6_bitCount_0f7a4_0 : decode cJ6_bitCount_0f7a4 0 = .ok (.iload_n 0, 1) := by decide +kernel
theorem dJ6_bitCount_0f7a4_1 : decode cJ6_bitCount_0f7a4 1 = .ok (.iload_n 0, 1) := by decide +kernel
theorem dJ6_bitCount_0f7a4_2 : decode cJ6_bitCount_0f7a4 2 = .ok (.iconst 1, 1) := by decide +kernel
theorem dJ6_bitCount_0f7a4_3 : decode cJ6_bitCount_0f7a4 3 = .ok (.iushr, 1) := by decide +kernel
theorem dJ6_bitCount_0f7a4_4 : decode cJ6_bitCount_0f7a4 4 = .ok (.ldc_w 265, 3) := by decide +kernel
theorem dJ6_bitCount_0f7a4_7 : decode cJ6_bitCount_0f7a4 7 = .ok (.iand, 1) := by decide +kernel
theorem dJ6_bitCount_0f7a4_8 : decode cJ6_bitCount_0f7a4 8 = .ok (.isub, 1) := by decide +kernel
theorem dJ6_bitCount_0f7a4_9 : decode cJ6_bitCount_0f7a4 9 = .ok (.istore_n 0, 1) := by decide +kernel
theorem dJ6_bitCount_0f7a4_10 : decode cJ6_bitCount_0f7a4 10 = .ok (.iload_n 0, 1) := by decide +kernel
theorem dJ6_bitCount_0f7a4_11 : decode cJ6_bitCount_0f7a4 11 = .ok (.ldc_w 266, 3) := by decide +kernel
theorem dJ6_bitCount_0f7a4_14 : decode cJ6_bitCount_0f7a4 14 = .ok (.iand, 1) := by decide +kernel
theorem dJ6_bitCount_0f7a4_15 : decode cJ6_bitCount_0f7a4 15 = .ok (.iload_n 0, 1) := by decide +kernel
theorem dJ6_bitCount_0f7a4_16 : decode cJ6_bitCount_0f7a4 16 = .ok (.iconst 2, 1) := by decide +kernel
theorem dJ6_bitCount_0f7a4_17 : decode cJ6_bitCount_0f7a4 17 = .ok (.iushr, 1) := by decide +kernel
theorem dJ6_bitCount_0f7a4_18 : decode cJ6_bitCount_0f7a4 18 = .ok (.ldc_w 266, 3) := by decide +kernel
theorem dJ6_bitCount_0f7a4_21 : decode cJ6_bitCount_0f7a4 21 = .ok (.iand, 1) := by decide +kernel
theorem dJ6_bitCount_0f7a4_22 : decode cJ6_bitCount_0f7a4 22 = .ok (.iadd, 1) := by decide +kernel
theorem dJ6_bitCount_0f7a4_23 : decode cJ6_bitCount_0f7a4 23 = .ok (.istore_n 0, 1) := by decide +kernel
theorem dJ6_bitCount_0f7a4_24 : decode cJ6_bitCount_0f7a4 24 = .ok (.iload_n 0, 1) := by decide +kernel
theorem dJ6_bitCount_0f7a4_25 : decode cJ6_bitCount_0f7a4 25 = .ok (.iload_n 0, 1) := by decide +kernel
theorem dJ6_bitCount_0f7a4_26 : decode cJ6_bitCount_0f7a4 26 = .ok (.iconst 4, 1) := by decide +kernel
theorem dJ6_bitCount_0f7a4_27 : decode cJ6_bitCount_0f7a4 27 = .ok (.iushr, 1) := by decide +kernel
theorem dJ6_bitCount_0f7a4_28 : decode cJ6_bitCount_0f7a4 28 = .ok (.iadd, 1) := by decide +kernel
theorem dJ6_bitCount_0f7a4_29 : decode cJ6_bitCount_0f7a4 29 = .ok (.ldc_w 267, 3) := by decide +kernel
theorem dJ6_bitCount_0f7a4_32 : decode cJ6_bitCount_0f7a4 32 = .ok (.iand, 1) := by decide +kernel
theorem dJ6_bitCount_0f7a4_33 : decode cJ6_bitCount_0f7a4 33 = .ok (.istore_n 0, 1) := by decide +kernel
theorem dJ6_bitCount_0f7a4_34 : decode cJ6_bitCount_0f7a4 34 = .ok (.iload_n 0, 1) := by decide +kernel
theorem dJ6_bitCount_0f7a4_35 : decode cJ6_bitCount_0f7a4 35 = .ok (.iload_n 0, 1) := by decide +kernel
theorem dJ6_bitCount_0f7a4_36 : decode cJ6_bitCount_0f7a4 36 = .ok (.bipush 8, 2) := by decide +kernel
theorem dJ6_bitCount_0f7a4_38 : decode cJ6_bitCount_0f7a4 38 = .ok (.iushr, 1) := by decide +kernel
theorem dJ6_bitCount_0f7a4_39 : decode cJ6_bitCount_0f7a4 39 = .ok (.iadd, 1) := by decide +kernel
theorem dJ6_bitCount_0f7a4_40 : decode cJ6_bitCount_0f7a4 40 = .ok (.istore_n 0, 1) := by decide +kernel
theorem dJ6_bitCount_0f7a4_41 : decode cJ6_bitCount_0f7a4 41 = .ok (.iload_n 0, 1) := by decide +kernel
theorem dJ6_bitCount_0f7a4_42 : decode cJ6_bitCount_0f7a4 42 = .ok (.iload_n 0, 1) := by decide +kernel
theorem dJ6_bitCount_0f7a4_43 : decode cJ6_bitCount_0f7a4 43 = .ok (.bipush 16, 2) := by decide +kernel
theorem dJ6_bitCount_0f7a4_45 : decode cJ6_bitCount_0f7a4 45 = .ok (.iushr, 1) := by decide +kernel
theorem dJ6_bitCount_0f7a4_46 : decode cJ6_bitCount_0f7a4 46 = .ok (.iadd, 1) := by decide +kernel
theorem dJ6_bitCount_0f7a4_47 : decode cJ6_bitCount_0f7a4 47 = .ok (.istore_n 0, 1) := by decide +kernel
theorem dJ6_bitCount_0f7a4_48 : decode cJ6_bitCount_0f7a4 48 = .ok (.iload_n 0, 1) := by decide +kernel
theorem dJ6_bitCount_0f7a4_49 : decode cJ6_bitCount_0f7a4 49 = .ok (.bipush 63, 2) := by decide +kernel
theorem dJ6_bitCount_0f7a4_51 : decode cJ6_bitCount_0f7a4 51 = .ok (.iand, 1) := by decide +kernel
theorem dJ6_bitCount_0f7a4_52 : decode cJ6_bitCount_0f7a4 52 = .ok (.ireturn, 1) := by decide +kernel
theorem dJ9_max_7cf53_0 : decode cJ9_max_7cf53 0 = .ok (.iload_n 0, 1) := by decide +kernel
theorem dJ9_max_7cf53_1 : decode cJ9_max_7cf53 1 = .ok (.iload_n 1, 1) := by decide +kernel
theorem dJ9_max_7cf53_2 : decode cJ9_max_7cf53 2 = .ok (.if_icmp .lt 7, 3) := by decide +kernel
theorem dJ9_max_7cf53_5 : decode cJ9_max_7cf53 5 = .ok (.iload_n 0, 1) := by decide +kernel
theorem dJ9_max_7cf53_6 : decode cJ9_max_7cf53 6 = .ok (.goto 4, 3) := by decide +kernel
theorem dJ9_max_7cf53_9 : decode cJ9_max_7cf53 9 = .ok (.iload_n 1, 1) := by decide +kernel
theorem dJ9_max_7cf53_10 : decode cJ9_max_7cf53 10 = .ok (.ireturn, 1) := by decide +kernel
theorem dJ9_min_7cf53_0 : decode cJ9_min_7cf53 0 = .ok (.iload_n 0, 1) := by decide +kernel
theorem dJ9_min_7cf53_1 : decode cJ9_min_7cf53 1 = .ok (.iload_n 1, 1) := by decide +kernel
theorem dJ9_min_7cf53_2 : decode cJ9_min_7cf53 2 = .ok (.if_icmp .gt 7, 3) := by decide +kernel
theorem dJ9_min_7cf53_5 : decode cJ9_min_7cf53 5 = .ok (.iload_n 0, 1) := by decide +kernel
theorem dJ9_min_7cf53_6 : decode cJ9_min_7cf53 6 = .ok (.goto 4, 3) := by decide +kernel
theorem dJ9_min_7cf53_9 : decode cJ9_min_7cf53 9 = .ok (.iload_n 1, 1) := by decide +kernel
theorem dJ9_min_7cf53_10 : decode cJ9_min_7cf53 10 = .ok (.ireturn, 1) := by decide +kernel
theorem dJ0_length_8abf5_0 : decode cJ0_length_8abf5 0 = .ok (.aload_n 0, 1) := by decide +kernel
theorem dJ0_length_8abf5_1 : decode cJ0_length_8abf5 1 = .ok (.getfield 9, 3) := by decide +kernel
theorem dJ0_length_8abf5_4 : decode cJ0_length_8abf5 4 = .ok (.arraylength, 1) := by decide +kernel
theorem dJ0_length_8abf5_5 : decode cJ0_length_8abf5 5 = .ok (.aload_n 0, 1) := by decide +kernel
theorem dJ0_length_8abf5_6 : decode cJ0_length_8abf5 6 = .ok (.invokevirtual 335, 3) := by decide +kernel
theorem dJ0_length_8abf5_9 : decode cJ0_length_8abf5 9 = .ok (.ishr, 1) := by decide +kernel
theorem dJ0_length_8abf5_10 : decode cJ0_length_8abf5 10 = .ok (.ireturn, 1) := by decide +kernel
theorem dJ0_charAt_5068e_0 : decode cJ0_charAt_5068e 0 = .ok (.aload_n 0, 1) := by decide +kernel
theorem dJ0_charAt_5068e_1 : decode cJ0_charAt_5068e 1 = .ok (.invokevirtual 492, 3) := by decide +kernel
theorem dJ0_charAt_5068e_4 : decode cJ0_charAt_5068e 4 = .ok (.ifCond .eq 12, 3) := by decide +kernel
theorem dJ0_charAt_5068e_7 : decode cJ0_charAt_5068e 7 = .ok (.aload_n 0, 1) := by decide +kernel
theorem dJ0_charAt_5068e_8 : decode cJ0_charAt_5068e 8 = .ok (.getfield 9, 3) := by decide +kernel
theorem dJ0_charAt_5068e_11 : decode cJ0_charAt_5068e 11 = .ok (.iload_n 1, 1) := by decide +kernel
theorem dJ0_charAt_5068e_12 : decode cJ0_charAt_5068e 12 = .ok (.invokestatic 495, 3) := by decide +kernel
theorem dJ0_charAt_5068e_15 : decode cJ0_charAt_5068e 15 = .ok (.ireturn, 1) := by decide +kernel
theorem dJ0_charAt_5068e_16 : decode cJ0_charAt_5068e 16 = .ok (.aload_n 0, 1) := by decide +kernel
theorem dJ0_charAt_5068e_17 : decode cJ0_charAt_5068e 17 = .ok (.getfield 9, 3) := by decide +kernel
theorem dJ0_charAt_5068e_20 : decode cJ0_charAt_5068e 20 = .ok (.iload_n 1, 1) := by decide +kernel
theorem dJ0_charAt_5068e_21 : decode cJ0_charAt_5068e 21 = .ok (.invokestatic 498, 3) := by decide +kernel
theorem dJ0_charAt_5068e_24 : decode cJ0_charAt_5068e 24 = .ok (.ireturn, 1) := by decide +kernel
theorem dJ0_coder_7d493_0 : decode cJ0_coder_7d493 0 = .ok (.getstatic 38, 3) := by decide +kernel
theorem dJ0_coder_7d493_3 : decode cJ0_coder_7d493 3 = .ok (.ifCond .eq 10, 3) := by decide +kernel
theorem dJ0_coder_7d493_6 : decode cJ0_coder_7d493 6 = .ok (.aload_n 0, 1) := by decide +kernel
theorem dJ0_coder_7d493_7 : decode cJ0_coder_7d493 7 = .ok (.getfield 15, 3) := by decide +kernel
theorem dJ0_coder_7d493_10 : decode cJ0_coder_7d493 10 = .ok (.goto 4, 3) := by decide +kernel
theorem dJ0_coder_7d493_13 : decode cJ0_coder_7d493 13 = .ok (.iconst 1, 1) := by decide +kernel
theorem dJ0_coder_7d493_14 : decode cJ0_coder_7d493 14 = .ok (.ireturn, 1) := by decide +kernel
theorem dJ0_isLatin1_aae02_0 : decode cJ0_isLatin1_aae02 0 = .ok (.getstatic 38, 3) := by decide +kernel
theorem dJ0_isLatin1_aae02_3 : decode cJ0_isLatin1_aae02 3 = .ok (.ifCond .eq 14, 3) := by decide +kernel
theorem dJ0_isLatin1_aae02_6 : decode cJ0_isLatin1_aae02 6 = .ok (.aload_n 0, 1) := by decide +kernel
theorem dJ0_isLatin1_aae02_7 : decode cJ0_isLatin1_aae02 7 = .ok (.getfield 15, 3) := by decide +kernel
theorem dJ0_isLatin1_aae02_10 : decode cJ0_isLatin1_aae02 10 = .ok (.ifCond .ne 7, 3) := by decide +kernel
theorem dJ0_isLatin1_aae02_13 : decode cJ0_isLatin1_aae02 13 = .ok (.iconst 1, 1) := by decide +kernel
theorem dJ0_isLatin1_aae02_14 : decode cJ0_isLatin1_aae02 14 = .ok (.goto 4, 3) := by decide +kernel
theorem dJ0_isLatin1_aae02_17 : decode cJ0_isLatin1_aae02 17 = .ok (.iconst 0, 1) := by decide +kernel
theorem dJ0_isLatin1_aae02_18 : decode cJ0_isLatin1_aae02 18 = .ok (.ireturn, 1) := by decide +kernel
theorem dJ0_checkIndex_df160_0 : decode cJ0_checkIndex_df160 0 = .ok (.iload_n 0, 1) := by decide +kernel
theorem dJ0_checkIndex_df160_1 : decode cJ0_checkIndex_df160 1 = .ok (.iload_n 1, 1) := by decide +kernel
theorem dJ0_checkIndex_df160_2 : decode cJ0_checkIndex_df160 2 = .ok (.getstatic 1053, 3) := by decide +kernel
theorem dJ0_checkIndex_df160_5 : decode cJ0_checkIndex_df160 5 = .ok (.invokestatic 1059, 3) := by decide +kernel
theorem dJ0_checkIndex_df160_8 : decode cJ0_checkIndex_df160 8 = .ok (.pop, 1) := by decide +kernel
theorem dJ0_checkIndex_df160_9 : decode cJ0_checkIndex_df160 9 = .ok (.return_, 1) := by decide +kernel
theorem dJ1_charAt_3b067_0 : decode cJ1_charAt_3b067 0 = .ok (.iload_n 1, 1) := by decide +kernel
theorem dJ1_charAt_3b067_1 : decode cJ1_charAt_3b067 1 = .ok (.aload_n 0, 1) := by decide +kernel
theorem dJ1_charAt_3b067_2 : decode cJ1_charAt_3b067 2 = .ok (.arraylength, 1) := by decide +kernel
theorem dJ1_charAt_3b067_3 : decode cJ1_charAt_3b067 3 = .ok (.invokestatic 9, 3) := by decide +kernel
theorem dJ1_charAt_3b067_6 : decode cJ1_charAt_3b067 6 = .ok (.aload_n 0, 1) := by decide +kernel
theorem dJ1_charAt_3b067_7 : decode cJ1_charAt_3b067 7 = .ok (.iload_n 1, 1) := by decide +kernel
theorem dJ1_charAt_3b067_8 : decode cJ1_charAt_3b067 8 = .ok (.baload, 1) := by decide +kernel
theorem dJ1_charAt_3b067_9 : decode cJ1_charAt_3b067 9 = .ok (.sipush 255, 3) := by decide +kernel
theorem dJ1_charAt_3b067_12 : decode cJ1_charAt_3b067 12 = .ok (.iand, 1) := by decide +kernel
theorem dJ1_charAt_3b067_13 : decode cJ1_charAt_3b067 13 = .ok (.i2c, 1) := by decide +kernel
theorem dJ1_charAt_3b067_14 : decode cJ1_charAt_3b067 14 = .ok (.ireturn, 1) := by decide +kernel
theorem dJ2_getChar_3b067_0 : decode cJ2_getChar_3b067 0 = .ok (.getstatic 44, 3) := by decide +kernel
theorem dJ2_getChar_3b067_3 : decode cJ2_getChar_3b067 3 = .ok (.ifCond .ne 25, 3) := by decide +kernel
theorem dJ2_getChar_3b067_6 : decode cJ2_getChar_3b067 6 = .ok (.iload_n 1, 1) := by decide +kernel
theorem dJ2_getChar_3b067_7 : decode cJ2_getChar_3b067 7 = .ok (.ifCond .lt 11, 3) := by decide +kernel
theorem dJ2_getChar_3b067_10 : decode cJ2_getChar_3b067 10 = .ok (.iload_n 1, 1) := by decide +kernel
theorem dJ2_getChar_3b067_11 : decode cJ2_getChar_3b067 11 = .ok (.aload_n 0, 1) := by decide +kernel
theorem dJ2_getChar_3b067_12 : decode cJ2_getChar_3b067 12 = .ok (.invokestatic 48, 3) := by decide +kernel
theorem dJ2_getChar_3b067_15 : decode cJ2_getChar_3b067 15 = .ok (.if_icmp .lt 13, 3) := by decide +kernel
theorem dJ2_getChar_3b067_18 : decode cJ2_getChar_3b067 18 = .ok (.new 52, 3) := by decide +kernel
theorem dJ2_getChar_3b067_21 : decode cJ2_getChar_3b067 21 = .ok (.dup, 1) := by decide +kernel
theorem dJ2_getChar_3b067_22 : decode cJ2_getChar_3b067 22 = .ok (.ldc 54, 2) := by decide +kernel
theorem dJ2_getChar_3b067_24 : decode cJ2_getChar_3b067 24 = .ok (.invokespecial 56, 3) := by decide +kernel
theorem dJ2_getChar_3b067_27 : decode cJ2_getChar_3b067 27 = .ok (.athrow, 1) := by decide +kernel
theorem dJ2_getChar_3b067_28 : decode cJ2_getChar_3b067 28 = .ok (.iload_n 1, 1) := by decide +kernel
theorem dJ2_getChar_3b067_29 : decode cJ2_getChar_3b067 29 = .ok (.iconst 1, 1) := by decide +kernel
theorem dJ2_getChar_3b067_30 : decode cJ2_getChar_3b067 30 = .ok (.ishl, 1) := by decide +kernel
theorem dJ2_getChar_3b067_31 : decode cJ2_getChar_3b067 31 = .ok (.istore_n 1, 1) := by decide +kernel
theorem dJ2_getChar_3b067_32 : decode cJ2_getChar_3b067 32 = .ok (.aload_n 0, 1) := by decide +kernel
theorem dJ2_getChar_3b067_33 : decode cJ2_getChar_3b067 33 = .ok (.iload_n 1, 1) := by decide +kernel
theorem dJ2_getChar_3b067_34 : decode cJ2_getChar_3b067 34 = .ok (.iinc 1 1, 3) := by decide +kernel
theorem dJ2_getChar_3b067_37 : decode cJ2_getChar_3b067 37 = .ok (.baload, 1) := by decide +kernel
theorem dJ2_getChar_3b067_38 : decode cJ2_getChar_3b067 38 = .ok (.sipush 255, 3) := by decide +kernel
theorem dJ2_getChar_3b067_41 : decode cJ2_getChar_3b067 41 = .ok (.iand, 1) := by decide +kernel
theorem dJ2_getChar_3b067_42 : decode cJ2_getChar_3b067 42 = .ok (.getstatic 59, 3) := by decide +kernel
theorem dJ2_getChar_3b067_45 : decode cJ2_getChar_3b067 45 = .ok (.ishl, 1) := by decide +kernel
theorem dJ2_getChar_3b067_46 : decode cJ2_getChar_3b067 46 = .ok (.aload_n 0, 1) := by decide +kernel
theorem dJ2_getChar_3b067_47 : decode cJ2_getChar_3b067 47 = .ok (.iload_n 1, 1) := by decide +kernel
theorem dJ2_getChar_3b067_48 : decode cJ2_getChar_3b067 48 = .ok (.baload, 1) := by decide +kernel
theorem dJ2_getChar_3b067_49 : decode cJ2_getChar_3b067 49 = .ok (.sipush 255, 3) := by decide +kernel
theorem dJ2_getChar_3b067_52 : decode cJ2_getChar_3b067 52 = .ok (.iand, 1) := by decide +kernel
theorem dJ2_getChar_3b067_53 : decode cJ2_getChar_3b067 53 = .ok (.getstatic 63, 3) := by decide +kernel
theorem dJ2_getChar_3b067_56 : decode cJ2_getChar_3b067 56 = .ok (.ishl, 1) := by decide +kernel
theorem dJ2_getChar_3b067_57 : decode cJ2_getChar_3b067 57 = .ok (.ior, 1) := by decide +kernel
theorem dJ2_getChar_3b067_58 : decode cJ2_getChar_3b067 58 = .ok (.i2c, 1) := by decide +kernel
theorem dJ2_getChar_3b067_59 : decode cJ2_getChar_3b067 59 = .ok (.ireturn, 1) := by decide +kernel
theorem dJ2_length_9d52b_0 : decode cJ2_length_9d52b 0 = .ok (.aload_n 0, 1) := by decide +kernel
theorem dJ2_length_9d52b_1 : decode cJ2_length_9d52b 1 = .ok (.arraylength, 1) := by decide +kernel
theorem dJ2_length_9d52b_2 : decode cJ2_length_9d52b 2 = .ok (.iconst 1, 1) := by decide +kernel
theorem dJ2_length_9d52b_3 : decode cJ2_length_9d52b 3 = .ok (.ishr, 1) := by decide +kernel
theorem dJ2_length_9d52b_4 : decode cJ2_length_9d52b 4 = .ok (.ireturn, 1) := by decide +kernel
theorem dJ2_charAt_3b067_0 : decode cJ2_charAt_3b067 0 = .ok (.iload_n 1, 1) := by decide +kernel
theorem dJ2_charAt_3b067_1 : decode cJ2_charAt_3b067 1 = .ok (.aload_n 0, 1) := by decide +kernel
theorem dJ2_charAt_3b067_2 : decode cJ2_charAt_3b067 2 = .ok (.invokestatic 67, 3) := by decide +kernel
theorem dJ2_charAt_3b067_5 : decode cJ2_charAt_3b067 5 = .ok (.aload_n 0, 1) := by decide +kernel
theorem dJ2_charAt_3b067_6 : decode cJ2_charAt_3b067 6 = .ok (.iload_n 1, 1) := by decide +kernel
theorem dJ2_charAt_3b067_7 : decode cJ2_charAt_3b067 7 = .ok (.invokestatic 71, 3) := by decide +kernel
theorem dJ2_charAt_3b067_10 : decode cJ2_charAt_3b067 10 = .ok (.ireturn, 1) := by decide +kernel
theorem dJ2_checkIndex_2214a_0 : decode cJ2_checkIndex_2214a 0 = .ok (.iload_n 0, 1) := by decide +kernel
theorem dJ2_checkIndex_2214a_1 : decode cJ2_checkIndex_2214a 1 = .ok (.aload_n 1, 1) := by decide +kernel
theorem dJ2_checkIndex_2214a_2 : decode cJ2_checkIndex_2214a 2 = .ok (.invokestatic 48, 3) := by decide +kernel
theorem dJ2_checkIndex_2214a_5 : decode cJ2_checkIndex_2214a 5 = .ok (.invokestatic 414, 3) := by decide +kernel
theorem dJ2_checkIndex_2214a_8 : decode cJ2_checkIndex_2214a 8 = .ok (.return_, 1) := by decide +kernel
theorem dJ3_checkIndex_8e157_0 : decode cJ3_checkIndex_8e157 0 = .ok (.iload_n 0, 1) := by decide +kernel
theorem dJ3_checkIndex_8e157_1 : decode cJ3_checkIndex_8e157 1 = .ok (.ifCond .lt 8, 3) := by decide +kernel
theorem dJ3_checkIndex_8e157_4 : decode cJ3_checkIndex_8e157 4 = .ok (.iload_n 0, 1) := by decide +kernel
theorem dJ3_checkIndex_8e157_5 : decode cJ3_checkIndex_8e157 5 = .ok (.iload_n 1, 1) := by decide +kernel
theorem dJ3_checkIndex_8e157_6 : decode cJ3_checkIndex_8e157 6 = .ok (.if_icmp .lt 10, 3) := by decide +kernel
theorem dJ3_checkIndex_8e157_9 : decode cJ3_checkIndex_8e157 9 = .ok (.aload_n 2, 1) := by decide +kernel
theorem dJ3_checkIndex_8e157_10 : decode cJ3_checkIndex_8e157 10 = .ok (.iload_n 0, 1) := by decide +kernel
theorem dJ3_checkIndex_8e157_11 : decode cJ3_checkIndex_8e157 11 = .ok (.iload_n 1, 1) := by decide +kernel
theorem dJ3_checkIndex_8e157_12 : decode cJ3_checkIndex_8e157 12 = .ok (.invokestatic 95, 3) := by decide +kernel
theorem dJ3_checkIndex_8e157_15 : decode cJ3_checkIndex_8e157 15 = .ok (.athrow, 1) := by decide +kernel
theorem dJ3_checkIndex_8e157_16 : decode cJ3_checkIndex_8e157 16 = .ok (.iload_n 0, 1) := by decide +kernel
theorem dJ3_checkIndex_8e157_17 : decode cJ3_checkIndex_8e157 17 = .ok (.ireturn, 1) := by decide +kernel
end
section
theorem dL_breaks_0 : decode cL_breaks 0 = .ok (.aload_n 2, 1) := by decide +kernel
theorem dL_breaks_1 : decode cL_breaks 1 = .ok (.iconst 0, 1) := by decide +kernel
theorem dL_breaks_2 : decode cL_breaks 2 = .ok (.aload_n 0, 1) := by decide +kernel
theorem dL_breaks_3 : decode cL_breaks 3 = .ok (.iload_n 1, 1) := by decide +kernel
theorem dL_breaks_4 : decode cL_breaks 4 = .ok (.invokevirtual 7, 3) := by decide +kernel
theorem dL_breaks_7 : decode cL_breaks 7 = .ok (.i2l, 1) := by decide +kernel
theorem dL_breaks_8 : decode cL_breaks 8 = .ok (.lastore, 1) := by decide +kernel
theorem dL_breaks_9 : decode cL_breaks 9 = .ok (.goto 6, 3) := by decide +kernel
theorem dL_breaks_12 : decode cL_breaks 12 = .ok (.astore_n 3, 1) := by decide +kernel
theorem dL_breaks_13 : decode cL_breaks 13 = .ok (.iconst 1, 1) := by decide +kernel
theorem dL_breaks_14 : decode cL_breaks 14 = .ok (.ireturn, 1) := by decide +kernel
theorem dL_breaks_15 : decode cL_breaks 15 = .ok (.iconst 0, 1) := by decide +kernel
theorem dL_breaks_16 : decode cL_breaks 16 = .ok (.ireturn, 1) := by decide +kernel
theorem dL_law_0 : decode cL_law 0 = .ok (.new 8, 3) := by decide +kernel
theorem dL_law_3 : decode cL_law 3 = .ok (.dup, 1) := by decide +kernel
theorem dL_law_4 : decode cL_law 4 = .ok (.invokespecial 15, 3) := by decide +kernel
theorem dL_law_7 : decode cL_law 7 = .ok (.astore_n 1, 1) := by decide +kernel
theorem dL_law_8 : decode cL_law 8 = .ok (.new 16, 3) := by decide +kernel
theorem dL_law_11 : decode cL_law 11 = .ok (.dup, 1) := by decide +kernel
theorem dL_law_12 : decode cL_law 12 = .ok (.invokespecial 18, 3) := by decide +kernel
theorem dL_law_15 : decode cL_law 15 = .ok (.astore_n 2, 1) := by decide +kernel
theorem dL_law_16 : decode cL_law 16 = .ok (.iconst 1, 1) := by decide +kernel
theorem dL_law_17 : decode cL_law 17 = .ok (.newarray .long, 2) := by decide +kernel
theorem dL_law_19 : decode cL_law 19 = .ok (.astore_n 3, 1) := by decide +kernel
theorem dL_law_20 : decode cL_law 20 = .ok (.iconst 0, 1) := by decide +kernel
theorem dL_law_21 : decode cL_law 21 = .ok (.istore 4, 2) := by decide +kernel
theorem dL_law_23 : decode cL_law 23 = .ok (.iload 4, 2) := by decide +kernel
theorem dL_law_25 : decode cL_law 25 = .ok (.aload_n 0, 1) := by decide +kernel
theorem dL_law_26 : decode cL_law 26 = .ok (.arraylength, 1) := by decide +kernel
theorem dL_law_27 : decode cL_law 27 = .ok (.bipush 6, 2) := by decide +kernel
theorem dL_law_29 : decode cL_law 29 = .ok (.isub, 1) := by decide +kernel
theorem dL_law_30 : decode cL_law 30 = .ok (.if_icmp .gt 1612, 3) := by decide +kernel
theorem dL_law_33 : decode cL_law 33 = .ok (.aload_n 0, 1) := by decide +kernel
theorem dL_law_34 : decode cL_law 34 = .ok (.iload 4, 2) := by decide +kernel
theorem dL_law_36 : decode cL_law 36 = .ok (.iaload, 1) := by decide +kernel
theorem dL_law_37 : decode cL_law 37 = .ok (.bipush 63, 2) := by decide +kernel
theorem dL_law_39 : decode cL_law 39 = .ok (.iand, 1) := by decide +kernel
theorem dL_law_40 : decode cL_law 40 = .ok (.tableswitch 1596 0 56 #[244, 317, 342, 355, 368, 393, 418, 443, 468, 493, 518, 531, 556, 581, 606, 631, 656, 693, 718, 743, 768, 781, 806, 831, 856, 897, 922, 947, 972, 985, 1010, 1023, 1048, 1085, 1098, 1111, 1136, 1149, 1174, 1187, 1212, 1237, 1274, 1299, 1312, 1325, 1338, 1351, 1364, 1389, 1414, 1427, 1464, 1477, 1514, 1570, 1583], 244) := by decide +kernel
theorem dL_law_284 : decode cL_law 284 = .ok (.aload_n 1, 1) := by decide +kernel
theorem dL_law_285 : decode cL_law 285 = .ok (.aload_n 0, 1) := by decide +kernel
theorem dL_law_286 : decode cL_law 286 = .ok (.iload 4, 2) := by decide +kernel
theorem dL_law_288 : decode cL_law 288 = .ok (.iconst 1, 1) := by decide +kernel
theorem dL_law_289 : decode cL_law 289 = .ok (.iadd, 1) := by decide +kernel
theorem dL_law_290 : decode cL_law 290 = .ok (.iaload, 1) := by decide +kernel
theorem dL_law_291 : decode cL_law 291 = .ok (.aload_n 0, 1) := by decide +kernel
theorem dL_law_292 : decode cL_law 292 = .ok (.iload 4, 2) := by decide +kernel
theorem dL_law_294 : decode cL_law 294 = .ok (.iconst 2, 1) := by decide +kernel
theorem dL_law_295 : decode cL_law 295 = .ok (.iadd, 1) := by decide +kernel
theorem dL_law_296 : decode cL_law 296 = .ok (.iaload, 1) := by decide +kernel
theorem dL_law_297 : decode cL_law 297 = .ok (.aload_n 0, 1) := by decide +kernel
theorem dL_law_298 : decode cL_law 298 = .ok (.iload 4, 2) := by decide +kernel
theorem dL_law_300 : decode cL_law 300 = .ok (.iconst 3, 1) := by decide +kernel
theorem dL_law_301 : decode cL_law 301 = .ok (.iadd, 1) := by decide +kernel
theorem dL_law_302 : decode cL_law 302 = .ok (.iaload, 1) := by decide +kernel
theorem dL_law_303 : decode cL_law 303 = .ok (.aload_n 0, 1) := by decide +kernel
theorem dL_law_304 : decode cL_law 304 = .ok (.iload 4, 2) := by decide +kernel
theorem dL_law_306 : decode cL_law 306 = .ok (.iconst 4, 1) := by decide +kernel
theorem dL_law_307 : decode cL_law 307 = .ok (.iadd, 1) := by decide +kernel
theorem dL_law_308 : decode cL_law 308 = .ok (.iaload, 1) := by decide +kernel
theorem dL_law_309 : decode cL_law 309 = .ok (.aload_n 0, 1) := by decide +kernel
theorem dL_law_310 : decode cL_law 310 = .ok (.iload 4, 2) := by decide +kernel
theorem dL_law_312 : decode cL_law 312 = .ok (.iconst 5, 1) := by decide +kernel
theorem dL_law_313 : decode cL_law 313 = .ok (.iadd, 1) := by decide +kernel
theorem dL_law_314 : decode cL_law 314 = .ok (.iaload, 1) := by decide +kernel
theorem dL_law_315 : decode cL_law 315 = .ok (.invokevirtual 19, 3) := by decide +kernel
theorem dL_law_318 : decode cL_law 318 = .ok (.aload_n 2, 1) := by decide +kernel
theorem dL_law_319 : decode cL_law 319 = .ok (.aload_n 0, 1) := by decide +kernel
theorem dL_law_320 : decode cL_law 320 = .ok (.iload 4, 2) := by decide +kernel
theorem dL_law_322 : decode cL_law 322 = .ok (.iconst 1, 1) := by decide +kernel
theorem dL_law_323 : decode cL_law 323 = .ok (.iadd, 1) := by decide +kernel
theorem dL_law_324 : decode cL_law 324 = .ok (.iaload, 1) := by decide +kernel
theorem dL_law_325 : decode cL_law 325 = .ok (.aload_n 0, 1) := by decide +kernel
theorem dL_law_326 : decode cL_law 326 = .ok (.iload 4, 2) := by decide +kernel
theorem dL_law_328 : decode cL_law 328 = .ok (.iconst 2, 1) := by decide +kernel
theorem dL_law_329 : decode cL_law 329 = .ok (.iadd, 1) := by decide +kernel
theorem dL_law_330 : decode cL_law 330 = .ok (.iaload, 1) := by decide +kernel
theorem dL_law_331 : decode cL_law 331 = .ok (.aload_n 0, 1) := by decide +kernel
theorem dL_law_332 : decode cL_law 332 = .ok (.iload 4, 2) := by decide +kernel
theorem dL_law_334 : decode cL_law 334 = .ok (.iconst 3, 1) := by decide +kernel
theorem dL_law_335 : decode cL_law 335 = .ok (.iadd, 1) := by decide +kernel
theorem dL_law_336 : decode cL_law 336 = .ok (.iaload, 1) := by decide +kernel
theorem dL_law_337 : decode cL_law 337 = .ok (.aload_n 0, 1) := by decide +kernel
theorem dL_law_338 : decode cL_law 338 = .ok (.iload 4, 2) := by decide +kernel
theorem dL_law_340 : decode cL_law 340 = .ok (.iconst 4, 1) := by decide +kernel
theorem dL_law_341 : decode cL_law 341 = .ok (.iadd, 1) := by decide +kernel
theorem dL_law_342 : decode cL_law 342 = .ok (.iaload, 1) := by decide +kernel
theorem dL_law_343 : decode cL_law 343 = .ok (.aload_n 0, 1) := by decide +kernel
theorem dL_law_344 : decode cL_law 344 = .ok (.iload 4, 2) := by decide +kernel
theorem dL_law_346 : decode cL_law 346 = .ok (.iconst 5, 1) := by decide +kernel
theorem dL_law_347 : decode cL_law 347 = .ok (.iadd, 1) := by decide +kernel
theorem dL_law_348 : decode cL_law 348 = .ok (.iaload, 1) := by decide +kernel
theorem dL_law_349 : decode cL_law 349 = .ok (.invokevirtual 23, 3) := by decide +kernel
theorem dL_law_352 : decode cL_law 352 = .ok (.if_icmp .eq 1284, 3) := by decide +kernel
theorem dL_law_355 : decode cL_law 355 = .ok (.iconst 0, 1) := by decide +kernel
theorem dL_law_356 : decode cL_law 356 = .ok (.ireturn, 1) := by decide +kernel
theorem dL_law_357 : decode cL_law 357 = .ok (.aload_n 1, 1) := by decide +kernel
theorem dL_law_358 : decode cL_law 358 = .ok (.aload_n 0, 1) := by decide +kernel
theorem dL_law_359 : decode cL_law 359 = .ok (.iload 4, 2) := by decide +kernel
theorem dL_law_361 : decode cL_law 361 = .ok (.iconst 1, 1) := by decide +kernel
theorem dL_law_362 : decode cL_law 362 = .ok (.iadd, 1) := by decide +kernel
theorem dL_law_363 : decode cL_law 363 = .ok (.iaload, 1) := by decide +kernel
theorem dL_law_364 : decode cL_law 364 = .ok (.invokevirtual 24, 3) := by decide +kernel
theorem dL_law_367 : decode cL_law 367 = .ok (.aload_n 2, 1) := by decide +kernel
theorem dL_law_368 : decode cL_law 368 = .ok (.aload_n 0, 1) := by decide +kernel
theorem dL_law_369 : decode cL_law 369 = .ok (.iload 4, 2) := by decide +kernel
theorem dL_law_371 : decode cL_law 371 = .ok (.iconst 1, 1) := by decide +kernel
theorem dL_law_372 : decode cL_law 372 = .ok (.iadd, 1) := by decide +kernel
theorem dL_law_373 : decode cL_law 373 = .ok (.iaload, 1) := by decide +kernel
theorem dL_law_374 : decode cL_law 374 = .ok (.invokevirtual 27, 3) := by decide +kernel
theorem dL_law_377 : decode cL_law 377 = .ok (.if_icmp .eq 1259, 3) := by decide +kernel
theorem dL_law_380 : decode cL_law 380 = .ok (.iconst 0, 1) := by decide +kernel
theorem dL_law_381 : decode cL_law 381 = .ok (.ireturn, 1) := by decide +kernel
theorem dL_law_382 : decode cL_law 382 = .ok (.aload_n 1, 1) := by decide +kernel
theorem dL_law_383 : decode cL_law 383 = .ok (.invokevirtual 28, 3) := by decide +kernel
theorem dL_law_386 : decode cL_law 386 = .ok (.aload_n 2, 1) := by decide +kernel
theorem dL_law_387 : decode cL_law 387 = .ok (.invokevirtual 32, 3) := by decide +kernel
theorem dL_law_390 : decode cL_law 390 = .ok (.if_icmp .eq 1246, 3) := by decide +kernel
theorem dL_law_393 : decode cL_law 393 = .ok (.iconst 0, 1) := by decide +kernel
theorem dL_law_394 : decode cL_law 394 = .ok (.ireturn, 1) := by decide +kernel
theorem dL_law_395 : decode cL_law 395 = .ok (.aload_n 1, 1) := by decide +kernel
theorem dL_law_396 : decode cL_law 396 = .ok (.invokevirtual 33, 3) := by decide +kernel
theorem dL_law_399 : decode cL_law 399 = .ok (.aload_n 2, 1) := by decide +kernel
theorem dL_law_400 : decode cL_law 400 = .ok (.invokevirtual 36, 3) := by decide +kernel
theorem dL_law_403 : decode cL_law 403 = .ok (.if_icmp .eq 1233, 3) := by decide +kernel
theorem dL_law_406 : decode cL_law 406 = .ok (.iconst 0, 1) := by decide +kernel
theorem dL_law_407 : decode cL_law 407 = .ok (.ireturn, 1) := by decide +kernel
theorem dL_law_408 : decode cL_law 408 = .ok (.aload_n 1, 1) := by decide +kernel
theorem dL_law_409 : decode cL_law 409 = .ok (.aload_n 0, 1) := by decide +kernel
theorem dL_law_410 : decode cL_law 410 = .ok (.iload 4, 2) := by decide +kernel
theorem dL_law_412 : decode cL_law 412 = .ok (.iconst 1, 1) := by decide +kernel
theorem dL_law_413 : decode cL_law 413 = .ok (.iadd, 1) := by decide +kernel
theorem dL_law_414 : decode cL_law 414 = .ok (.iaload, 1) := by decide +kernel
theorem dL_law_415 : decode cL_law 415 = .ok (.invokevirtual 37, 3) := by decide +kernel
theorem dL_law_418 : decode cL_law 418 = .ok (.aload_n 2, 1) := by decide +kernel
theorem dL_law_419 : decode cL_law 419 = .ok (.aload_n 0, 1) := by decide +kernel
theorem dL_law_420 : decode cL_law 420 = .ok (.iload 4, 2) := by decide +kernel
theorem dL_law_422 : decode cL_law 422 = .ok (.iconst 1, 1) := by decide +kernel
theorem dL_law_423 : decode cL_law 423 = .ok (.iadd, 1) := by decide +kernel
theorem dL_law_424 : decode cL_law 424 = .ok (.iaload, 1) := by decide +kernel
theorem dL_law_425 : decode cL_law 425 = .ok (.invokevirtual 40, 3) := by decide +kernel
theorem dL_law_428 : decode cL_law 428 = .ok (.if_icmp .eq 1208, 3) := by decide +kernel
theorem dL_law_431 : decode cL_law 431 = .ok (.iconst 0, 1) := by decide +kernel
theorem dL_law_432 : decode cL_law 432 = .ok (.ireturn, 1) := by decide +kernel
theorem dL_law_433 : decode cL_law 433 = .ok (.aload_n 1, 1) := by decide +kernel
theorem dL_law_434 : decode cL_law 434 = .ok (.aload_n 0, 1) := by decide +kernel
theorem dL_law_435 : decode cL_law 435 = .ok (.iload 4, 2) := by decide +kernel
theorem dL_law_437 : decode cL_law 437 = .ok (.iconst 1, 1) := by decide +kernel
theorem dL_law_438 : decode cL_law 438 = .ok (.iadd, 1) := by decide +kernel
theorem dL_law_439 : decode cL_law 439 = .ok (.iaload, 1) := by decide +kernel
theorem dL_law_440 : decode cL_law 440 = .ok (.invokevirtual 41, 3) := by decide +kernel
theorem dL_law_443 : decode cL_law 443 = .ok (.aload_n 2, 1) := by decide +kernel
theorem dL_law_444 : decode cL_law 444 = .ok (.aload_n 0, 1) := by decide +kernel
theorem dL_law_445 : decode cL_law 445 = .ok (.iload 4, 2) := by decide +kernel
theorem dL_law_447 : decode cL_law 447 = .ok (.iconst 1, 1) := by decide +kernel
theorem dL_law_448 : decode cL_law 448 = .ok (.iadd, 1) := by decide +kernel
theorem dL_law_449 : decode cL_law 449 = .ok (.iaload, 1) := by decide +kernel
theorem dL_law_450 : decode cL_law 450 = .ok (.invokevirtual 44, 3) := by decide +kernel
theorem dL_law_453 : decode cL_law 453 = .ok (.if_icmp .eq 1183, 3) := by decide +kernel
theorem dL_law_456 : decode cL_law 456 = .ok (.iconst 0, 1) := by decide +kernel
theorem dL_law_457 : decode cL_law 457 = .ok (.ireturn, 1) := by decide +kernel
theorem dL_law_458 : decode cL_law 458 = .ok (.aload_n 1, 1) := by decide +kernel
theorem dL_law_459 : decode cL_law 459 = .ok (.aload_n 0, 1) := by decide +kernel
theorem dL_law_460 : decode cL_law 460 = .ok (.iload 4, 2) := by decide +kernel
theorem dL_law_462 : decode cL_law 462 = .ok (.iconst 1, 1) := by decide +kernel
theorem dL_law_463 : decode cL_law 463 = .ok (.iadd, 1) := by decide +kernel
theorem dL_law_464 : decode cL_law 464 = .ok (.iaload, 1) := by decide +kernel
theorem dL_law_465 : decode cL_law 465 = .ok (.invokevirtual 45, 3) := by decide +kernel
theorem dL_law_468 : decode cL_law 468 = .ok (.aload_n 2, 1) := by decide +kernel
theorem dL_law_469 : decode cL_law 469 = .ok (.aload_n 0, 1) := by decide +kernel
theorem dL_law_470 : decode cL_law 470 = .ok (.iload 4, 2) := by decide +kernel
theorem dL_law_472 : decode cL_law 472 = .ok (.iconst 1, 1) := by decide +kernel
theorem dL_law_473 : decode cL_law 473 = .ok (.iadd, 1) := by decide +kernel
theorem dL_law_474 : decode cL_law 474 = .ok (.iaload, 1) := by decide +kernel
theorem dL_law_475 : decode cL_law 475 = .ok (.invokevirtual 48, 3) := by decide +kernel
theorem dL_law_478 : decode cL_law 478 = .ok (.if_icmp .eq 1158, 3) := by decide +kernel
theorem dL_law_481 : decode cL_law 481 = .ok (.iconst 0, 1) := by decide +kernel
theorem dL_law_482 : decode cL_law 482 = .ok (.ireturn, 1) := by decide +kernel
theorem dL_law_483 : decode cL_law 483 = .ok (.aload_n 1, 1) := by decide +kernel
theorem dL_law_484 : decode cL_law 484 = .ok (.aload_n 0, 1) := by decide +kernel
theorem dL_law_485 : decode cL_law 485 = .ok (.iload 4, 2) := by decide +kernel
theorem dL_law_487 : decode cL_law 487 = .ok (.iconst 1, 1) := by decide +kernel
theorem dL_law_488 : decode cL_law 488 = .ok (.iadd, 1) := by decide +kernel
theorem dL_law_489 : decode cL_law 489 = .ok (.iaload, 1) := by decide +kernel
theorem dL_law_490 : decode cL_law 490 = .ok (.invokevirtual 49, 3) := by decide +kernel
theorem dL_law_493 : decode cL_law 493 = .ok (.aload_n 2, 1) := by decide +kernel
theorem dL_law_494 : decode cL_law 494 = .ok (.aload_n 0, 1) := by decide +kernel
theorem dL_law_495 : decode cL_law 495 = .ok (.iload 4, 2) := by decide +kernel
theorem dL_law_497 : decode cL_law 497 = .ok (.iconst 1, 1) := by decide +kernel
theorem dL_law_498 : decode cL_law 498 = .ok (.iadd, 1) := by decide +kernel
theorem dL_law_499 : decode cL_law 499 = .ok (.iaload, 1) := by decide +kernel
theorem dL_law_500 : decode cL_law 500 = .ok (.invokevirtual 52, 3) := by decide +kernel
theorem dL_law_503 : decode cL_law 503 = .ok (.if_icmp .eq 1133, 3) := by decide +kernel
theorem dL_law_506 : decode cL_law 506 = .ok (.iconst 0, 1) := by decide +kernel
theorem dL_law_507 : decode cL_law 507 = .ok (.ireturn, 1) := by decide +kernel
theorem dL_law_508 : decode cL_law 508 = .ok (.aload_n 1, 1) := by decide +kernel
theorem dL_law_509 : decode cL_law 509 = .ok (.aload_n 0, 1) := by decide +kernel
theorem dL_law_510 : decode cL_law 510 = .ok (.iload 4, 2) := by decide +kernel
theorem dL_law_512 : decode cL_law 512 = .ok (.iconst 1, 1) := by decide +kernel
theorem dL_law_513 : decode cL_law 513 = .ok (.iadd, 1) := by decide +kernel
theorem dL_law_514 : decode cL_law 514 = .ok (.iaload, 1) := by decide +kernel
theorem dL_law_515 : decode cL_law 515 = .ok (.invokevirtual 53, 3) := by decide +kernel
theorem dL_law_518 : decode cL_law 518 = .ok (.aload_n 2, 1) := by decide +kernel
theorem dL_law_519 : decode cL_law 519 = .ok (.aload_n 0, 1) := by decide +kernel
theorem dL_law_520 : decode cL_law 520 = .ok (.iload 4, 2) := by decide +kernel
theorem dL_law_522 : decode cL_law 522 = .ok (.iconst 1, 1) := by decide +kernel
theorem dL_law_523 : decode cL_law 523 = .ok (.iadd, 1) := by decide +kernel
theorem dL_law_524 : decode cL_law 524 = .ok (.iaload, 1) := by decide +kernel
theorem dL_law_525 : decode cL_law 525 = .ok (.invokevirtual 56, 3) := by decide +kernel
theorem dL_law_528 : decode cL_law 528 = .ok (.if_icmp .eq 1108, 3) := by decide +kernel
theorem dL_law_531 : decode cL_law 531 = .ok (.iconst 0, 1) := by decide +kernel
theorem dL_law_532 : decode cL_law 532 = .ok (.ireturn, 1) := by decide +kernel
theorem dL_law_533 : decode cL_law 533 = .ok (.aload_n 1, 1) := by decide +kernel
theorem dL_law_534 : decode cL_law 534 = .ok (.aload_n 0, 1) := by decide +kernel
theorem dL_law_535 : decode cL_law 535 = .ok (.iload 4, 2) := by decide +kernel
theorem dL_law_537 : decode cL_law 537 = .ok (.iconst 1, 1) := by decide +kernel
theorem dL_law_538 : decode cL_law 538 = .ok (.iadd, 1) := by decide +kernel
theorem dL_law_539 : decode cL_law 539 = .ok (.iaload, 1) := by decide +kernel
theorem dL_law_540 : decode cL_law 540 = .ok (.invokevirtual 57, 3) := by decide +kernel
theorem dL_law_543 : decode cL_law 543 = .ok (.aload_n 2, 1) := by decide +kernel
theorem dL_law_544 : decode cL_law 544 = .ok (.aload_n 0, 1) := by decide +kernel
theorem dL_law_545 : decode cL_law 545 = .ok (.iload 4, 2) := by decide +kernel
theorem dL_law_547 : decode cL_law 547 = .ok (.iconst 1, 1) := by decide +kernel
theorem dL_law_548 : decode cL_law 548 = .ok (.iadd, 1) := by decide +kernel
theorem dL_law_549 : decode cL_law 549 = .ok (.iaload, 1) := by decide +kernel
theorem dL_law_550 : decode cL_law 550 = .ok (.invokevirtual 60, 3) := by decide +kernel
theorem dL_law_553 : decode cL_law 553 = .ok (.if_icmp .eq 1083, 3) := by decide +kernel
theorem dL_law_556 : decode cL_law 556 = .ok (.iconst 0, 1) := by decide +kernel
theorem dL_law_557 : decode cL_law 557 = .ok (.ireturn, 1) := by decide +kernel
theorem dL_law_558 : decode cL_law 558 = .ok (.aload_n 1, 1) := by decide +kernel
theorem dL_law_559 : decode cL_law 559 = .ok (.invokevirtual 61, 3) := by decide +kernel
theorem dL_law_562 : decode cL_law 562 = .ok (.aload_n 2, 1) := by decide +kernel
theorem dL_law_563 : decode cL_law 563 = .ok (.invokevirtual 64, 3) := by decide +kernel
theorem dL_law_566 : decode cL_law 566 = .ok (.if_icmp .eq 1070, 3) := by decide +kernel
theorem dL_law_569 : decode cL_law 569 = .ok (.iconst 0, 1) := by decide +kernel
theorem dL_law_570 : decode cL_law 570 = .ok (.ireturn, 1) := by decide +kernel
theorem dL_law_571 : decode cL_law 571 = .ok (.aload_n 1, 1) := by decide +kernel
theorem dL_law_572 : decode cL_law 572 = .ok (.aload_n 0, 1) := by decide +kernel
theorem dL_law_573 : decode cL_law 573 = .ok (.iload 4, 2) := by decide +kernel
theorem dL_law_575 : decode cL_law 575 = .ok (.iconst 1, 1) := by decide +kernel
theorem dL_law_576 : decode cL_law 576 = .ok (.iadd, 1) := by decide +kernel
theorem dL_law_577 : decode cL_law 577 = .ok (.iaload, 1) := by decide +kernel
theorem dL_law_578 : decode cL_law 578 = .ok (.invokevirtual 65, 3) := by decide +kernel
theorem dL_law_581 : decode cL_law 581 = .ok (.aload_n 2, 1) := by decide +kernel
theorem dL_law_582 : decode cL_law 582 = .ok (.aload_n 0, 1) := by decide +kernel
theorem dL_law_583 : decode cL_law 583 = .ok (.iload 4, 2) := by decide +kernel
theorem dL_law_585 : decode cL_law 585 = .ok (.iconst 1, 1) := by decide +kernel
theorem dL_law_586 : decode cL_law 586 = .ok (.iadd, 1) := by decide +kernel
theorem dL_law_587 : decode cL_law 587 = .ok (.iaload, 1) := by decide +kernel
theorem dL_law_588 : decode cL_law 588 = .ok (.invokevirtual 68, 3) := by decide +kernel
theorem dL_law_591 : decode cL_law 591 = .ok (.if_icmp .eq 1045, 3) := by decide +kernel
theorem dL_law_594 : decode cL_law 594 = .ok (.iconst 0, 1) := by decide +kernel
theorem dL_law_595 : decode cL_law 595 = .ok (.ireturn, 1) := by decide +kernel
theorem dL_law_596 : decode cL_law 596 = .ok (.aload_n 1, 1) := by decide +kernel
theorem dL_law_597 : decode cL_law 597 = .ok (.aload_n 0, 1) := by decide +kernel
theorem dL_law_598 : decode cL_law 598 = .ok (.iload 4, 2) := by decide +kernel
theorem dL_law_600 : decode cL_law 600 = .ok (.iconst 1, 1) := by decide +kernel
theorem dL_law_601 : decode cL_law 601 = .ok (.iadd, 1) := by decide +kernel
theorem dL_law_602 : decode cL_law 602 = .ok (.iaload, 1) := by decide +kernel
theorem dL_law_603 : decode cL_law 603 = .ok (.invokevirtual 69, 3) := by decide +kernel
theorem dL_law_606 : decode cL_law 606 = .ok (.aload_n 2, 1) := by decide +kernel
theorem dL_law_607 : decode cL_law 607 = .ok (.aload_n 0, 1) := by decide +kernel
theorem dL_law_608 : decode cL_law 608 = .ok (.iload 4, 2) := by decide +kernel
theorem dL_law_610 : decode cL_law 610 = .ok (.iconst 1, 1) := by decide +kernel
theorem dL_law_611 : decode cL_law 611 = .ok (.iadd, 1) := by decide +kernel
theorem dL_law_612 : decode cL_law 612 = .ok (.iaload, 1) := by decide +kernel
theorem dL_law_613 : decode cL_law 613 = .ok (.invokevirtual 72, 3) := by decide +kernel
theorem dL_law_616 : decode cL_law 616 = .ok (.if_icmp .eq 1020, 3) := by decide +kernel
theorem dL_law_619 : decode cL_law 619 = .ok (.iconst 0, 1) := by decide +kernel
theorem dL_law_620 : decode cL_law 620 = .ok (.ireturn, 1) := by decide +kernel
theorem dL_law_621 : decode cL_law 621 = .ok (.aload_n 1, 1) := by decide +kernel
theorem dL_law_622 : decode cL_law 622 = .ok (.aload_n 0, 1) := by decide +kernel
theorem dL_law_623 : decode cL_law 623 = .ok (.iload 4, 2) := by decide +kernel
theorem dL_law_625 : decode cL_law 625 = .ok (.iconst 1, 1) := by decide +kernel
theorem dL_law_626 : decode cL_law 626 = .ok (.iadd, 1) := by decide +kernel
theorem dL_law_627 : decode cL_law 627 = .ok (.iaload, 1) := by decide +kernel
theorem dL_law_628 : decode cL_law 628 = .ok (.invokevirtual 73, 3) := by decide +kernel
theorem dL_law_631 : decode cL_law 631 = .ok (.aload_n 2, 1) := by decide +kernel
theorem dL_law_632 : decode cL_law 632 = .ok (.aload_n 0, 1) := by decide +kernel
theorem dL_law_633 : decode cL_law 633 = .ok (.iload 4, 2) := by decide +kernel
theorem dL_law_635 : decode cL_law 635 = .ok (.iconst 1, 1) := by decide +kernel
theorem dL_law_636 : decode cL_law 636 = .ok (.iadd, 1) := by decide +kernel
theorem dL_law_637 : decode cL_law 637 = .ok (.iaload, 1) := by decide +kernel
theorem dL_law_638 : decode cL_law 638 = .ok (.invokevirtual 76, 3) := by decide +kernel
theorem dL_law_641 : decode cL_law 641 = .ok (.if_icmp .eq 995, 3) := by decide +kernel
theorem dL_law_644 : decode cL_law 644 = .ok (.iconst 0, 1) := by decide +kernel
theorem dL_law_645 : decode cL_law 645 = .ok (.ireturn, 1) := by decide +kernel
theorem dL_law_646 : decode cL_law 646 = .ok (.aload_n 1, 1) := by decide +kernel
theorem dL_law_647 : decode cL_law 647 = .ok (.aload_n 0, 1) := by decide +kernel
theorem dL_law_648 : decode cL_law 648 = .ok (.iload 4, 2) := by decide +kernel
theorem dL_law_650 : decode cL_law 650 = .ok (.iconst 1, 1) := by decide +kernel
theorem dL_law_651 : decode cL_law 651 = .ok (.iadd, 1) := by decide +kernel
theorem dL_law_652 : decode cL_law 652 = .ok (.iaload, 1) := by decide +kernel
theorem dL_law_653 : decode cL_law 653 = .ok (.invokevirtual 77, 3) := by decide +kernel
theorem dL_law_656 : decode cL_law 656 = .ok (.aload_n 2, 1) := by decide +kernel
theorem dL_law_657 : decode cL_law 657 = .ok (.aload_n 0, 1) := by decide +kernel
theorem dL_law_658 : decode cL_law 658 = .ok (.iload 4, 2) := by decide +kernel
theorem dL_law_660 : decode cL_law 660 = .ok (.iconst 1, 1) := by decide +kernel
theorem dL_law_661 : decode cL_law 661 = .ok (.iadd, 1) := by decide +kernel
theorem dL_law_662 : decode cL_law 662 = .ok (.iaload, 1) := by decide +kernel
theorem dL_law_663 : decode cL_law 663 = .ok (.invokevirtual 80, 3) := by decide +kernel
theorem dL_law_666 : decode cL_law 666 = .ok (.if_icmp .eq 970, 3) := by decide +kernel
theorem dL_law_669 : decode cL_law 669 = .ok (.iconst 0, 1) := by decide +kernel
theorem dL_law_670 : decode cL_law 670 = .ok (.ireturn, 1) := by decide +kernel
theorem dL_law_671 : decode cL_law 671 = .ok (.aload_n 1, 1) := by decide +kernel
theorem dL_law_672 : decode cL_law 672 = .ok (.aload_n 0, 1) := by decide +kernel
theorem dL_law_673 : decode cL_law 673 = .ok (.iload 4, 2) := by decide +kernel
theorem dL_law_675 : decode cL_law 675 = .ok (.iconst 1, 1) := by decide +kernel
theorem dL_law_676 : decode cL_law 676 = .ok (.iadd, 1) := by decide +kernel
theorem dL_law_677 : decode cL_law 677 = .ok (.iaload, 1) := by decide +kernel
theorem dL_law_678 : decode cL_law 678 = .ok (.invokevirtual 81, 3) := by decide +kernel
theorem dL_law_681 : decode cL_law 681 = .ok (.aload_n 2, 1) := by decide +kernel
theorem dL_law_682 : decode cL_law 682 = .ok (.aload_n 0, 1) := by decide +kernel
theorem dL_law_683 : decode cL_law 683 = .ok (.iload 4, 2) := by decide +kernel
theorem dL_law_685 : decode cL_law 685 = .ok (.iconst 1, 1) := by decide +kernel
theorem dL_law_686 : decode cL_law 686 = .ok (.iadd, 1) := by decide +kernel
theorem dL_law_687 : decode cL_law 687 = .ok (.iaload, 1) := by decide +kernel
theorem dL_law_688 : decode cL_law 688 = .ok (.invokevirtual 84, 3) := by decide +kernel
theorem dL_law_691 : decode cL_law 691 = .ok (.if_icmp .eq 945, 3) := by decide +kernel
theorem dL_law_694 : decode cL_law 694 = .ok (.iconst 0, 1) := by decide +kernel
theorem dL_law_695 : decode cL_law 695 = .ok (.ireturn, 1) := by decide +kernel
theorem dL_law_696 : decode cL_law 696 = .ok (.aload_n 1, 1) := by decide +kernel
theorem dL_law_697 : decode cL_law 697 = .ok (.aload_n 0, 1) := by decide +kernel
theorem dL_law_698 : decode cL_law 698 = .ok (.iload 4, 2) := by decide +kernel
theorem dL_law_700 : decode cL_law 700 = .ok (.iconst 1, 1) := by decide +kernel
theorem dL_law_701 : decode cL_law 701 = .ok (.iadd, 1) := by decide +kernel
theorem dL_law_702 : decode cL_law 702 = .ok (.iaload, 1) := by decide +kernel
theorem dL_law_703 : decode cL_law 703 = .ok (.aload_n 0, 1) := by decide +kernel
theorem dL_law_704 : decode cL_law 704 = .ok (.iload 4, 2) := by decide +kernel
theorem dL_law_706 : decode cL_law 706 = .ok (.iconst 2, 1) := by decide +kernel
theorem dL_law_707 : decode cL_law 707 = .ok (.iadd, 1) := by decide +kernel
theorem dL_law_708 : decode cL_law 708 = .ok (.iaload, 1) := by decide +kernel
theorem dL_law_709 : decode cL_law 709 = .ok (.invokevirtual 85, 3) := by decide +kernel
theorem dL_law_712 : decode cL_law 712 = .ok (.aload_n 2, 1) := by decide +kernel
theorem dL_law_713 : decode cL_law 713 = .ok (.aload_n 0, 1) := by decide +kernel
theorem dL_law_714 : decode cL_law 714 = .ok (.iload 4, 2) := by decide +kernel
theorem dL_law_716 : decode cL_law 716 = .ok (.iconst 1, 1) := by decide +kernel
theorem dL_law_717 : decode cL_law 717 = .ok (.iadd, 1) := by decide +kernel
theorem dL_law_718 : decode cL_law 718 = .ok (.iaload, 1) := by decide +kernel
theorem dL_law_719 : decode cL_law 719 = .ok (.aload_n 0, 1) := by decide +kernel
theorem dL_law_720 : decode cL_law 720 = .ok (.iload 4, 2) := by decide +kernel
theorem dL_law_722 : decode cL_law 722 = .ok (.iconst 2, 1) := by decide +kernel
theorem dL_law_723 : decode cL_law 723 = .ok (.iadd, 1) := by decide +kernel
theorem dL_law_724 : decode cL_law 724 = .ok (.iaload, 1) := by decide +kernel
theorem dL_law_725 : decode cL_law 725 = .ok (.invokevirtual 89, 3) := by decide +kernel
theorem dL_law_728 : decode cL_law 728 = .ok (.if_icmp .eq 908, 3) := by decide +kernel
theorem dL_law_731 : decode cL_law 731 = .ok (.iconst 0, 1) := by decide +kernel
theorem dL_law_732 : decode cL_law 732 = .ok (.ireturn, 1) := by decide +kernel
theorem dL_law_733 : decode cL_law 733 = .ok (.aload_n 1, 1) := by decide +kernel
theorem dL_law_734 : decode cL_law 734 = .ok (.aload_n 0, 1) := by decide +kernel
theorem dL_law_735 : decode cL_law 735 = .ok (.iload 4, 2) := by decide +kernel
theorem dL_law_737 : decode cL_law 737 = .ok (.iconst 1, 1) := by decide +kernel
theorem dL_law_738 : decode cL_law 738 = .ok (.iadd, 1) := by decide +kernel
theorem dL_law_739 : decode cL_law 739 = .ok (.iaload, 1) := by decide +kernel
theorem dL_law_740 : decode cL_law 740 = .ok (.invokevirtual 90, 3) := by decide +kernel
theorem dL_law_743 : decode cL_law 743 = .ok (.aload_n 2, 1) := by decide +kernel
theorem dL_law_744 : decode cL_law 744 = .ok (.aload_n 0, 1) := by decide +kernel
theorem dL_law_745 : decode cL_law 745 = .ok (.iload 4, 2) := by decide +kernel
theorem dL_law_747 : decode cL_law 747 = .ok (.iconst 1, 1) := by decide +kernel
theorem dL_law_748 : decode cL_law 748 = .ok (.iadd, 1) := by decide +kernel
theorem dL_law_749 : decode cL_law 749 = .ok (.iaload, 1) := by decide +kernel
theorem dL_law_750 : decode cL_law 750 = .ok (.invokevirtual 93, 3) := by decide +kernel
theorem dL_law_753 : decode cL_law 753 = .ok (.if_icmp .eq 883, 3) := by decide +kernel
theorem dL_law_756 : decode cL_law 756 = .ok (.iconst 0, 1) := by decide +kernel
theorem dL_law_757 : decode cL_law 757 = .ok (.ireturn, 1) := by decide +kernel
theorem dL_law_758 : decode cL_law 758 = .ok (.aload_n 1, 1) := by decide +kernel
theorem dL_law_759 : decode cL_law 759 = .ok (.aload_n 0, 1) := by decide +kernel
theorem dL_law_760 : decode cL_law 760 = .ok (.iload 4, 2) := by decide +kernel
theorem dL_law_762 : decode cL_law 762 = .ok (.iconst 1, 1) := by decide +kernel
theorem dL_law_763 : decode cL_law 763 = .ok (.iadd, 1) := by decide +kernel
theorem dL_law_764 : decode cL_law 764 = .ok (.iaload, 1) := by decide +kernel
theorem dL_law_765 : decode cL_law 765 = .ok (.invokevirtual 94, 3) := by decide +kernel
theorem dL_law_768 : decode cL_law 768 = .ok (.aload_n 2, 1) := by decide +kernel
theorem dL_law_769 : decode cL_law 769 = .ok (.aload_n 0, 1) := by decide +kernel
theorem dL_law_770 : decode cL_law 770 = .ok (.iload 4, 2) := by decide +kernel
theorem dL_law_772 : decode cL_law 772 = .ok (.iconst 1, 1) := by decide +kernel
theorem dL_law_773 : decode cL_law 773 = .ok (.iadd, 1) := by decide +kernel
theorem dL_law_774 : decode cL_law 774 = .ok (.iaload, 1) := by decide +kernel
theorem dL_law_775 : decode cL_law 775 = .ok (.invokevirtual 97, 3) := by decide +kernel
theorem dL_law_778 : decode cL_law 778 = .ok (.if_icmp .eq 858, 3) := by decide +kernel
theorem dL_law_781 : decode cL_law 781 = .ok (.iconst 0, 1) := by decide +kernel
theorem dL_law_782 : decode cL_law 782 = .ok (.ireturn, 1) := by decide +kernel
theorem dL_law_783 : decode cL_law 783 = .ok (.aload_n 1, 1) := by decide +kernel
theorem dL_law_784 : decode cL_law 784 = .ok (.aload_n 0, 1) := by decide +kernel
theorem dL_law_785 : decode cL_law 785 = .ok (.iload 4, 2) := by decide +kernel
theorem dL_law_787 : decode cL_law 787 = .ok (.iconst 1, 1) := by decide +kernel
theorem dL_law_788 : decode cL_law 788 = .ok (.iadd, 1) := by decide +kernel
theorem dL_law_789 : decode cL_law 789 = .ok (.iaload, 1) := by decide +kernel
theorem dL_law_790 : decode cL_law 790 = .ok (.invokevirtual 98, 3) := by decide +kernel
theorem dL_law_793 : decode cL_law 793 = .ok (.aload_n 2, 1) := by decide +kernel
theorem dL_law_794 : decode cL_law 794 = .ok (.aload_n 0, 1) := by decide +kernel
theorem dL_law_795 : decode cL_law 795 = .ok (.iload 4, 2) := by decide +kernel
theorem dL_law_797 : decode cL_law 797 = .ok (.iconst 1, 1) := by decide +kernel
theorem dL_law_798 : decode cL_law 798 = .ok (.iadd, 1) := by decide +kernel
theorem dL_law_799 : decode cL_law 799 = .ok (.iaload, 1) := by decide +kernel
theorem dL_law_800 : decode cL_law 800 = .ok (.invokevirtual 101, 3) := by decide +kernel
theorem dL_law_803 : decode cL_law 803 = .ok (.if_icmp .eq 833, 3) := by decide +kernel
theorem dL_law_806 : decode cL_law 806 = .ok (.iconst 0, 1) := by decide +kernel
theorem dL_law_807 : decode cL_law 807 = .ok (.ireturn, 1) := by decide +kernel
theorem dL_law_808 : decode cL_law 808 = .ok (.aload_n 1, 1) := by decide +kernel
theorem dL_law_809 : decode cL_law 809 = .ok (.invokevirtual 102, 3) := by decide +kernel
theorem dL_law_812 : decode cL_law 812 = .ok (.aload_n 2, 1) := by decide +kernel
theorem dL_law_813 : decode cL_law 813 = .ok (.invokevirtual 105, 3) := by decide +kernel
theorem dL_law_816 : decode cL_law 816 = .ok (.if_icmp .eq 820, 3) := by decide +kernel
theorem dL_law_819 : decode cL_law 819 = .ok (.iconst 0, 1) := by decide +kernel
theorem dL_law_820 : decode cL_law 820 = .ok (.ireturn, 1) := by decide +kernel
theorem dL_law_821 : decode cL_law 821 = .ok (.aload_n 1, 1) := by decide +kernel
theorem dL_law_822 : decode cL_law 822 = .ok (.aload_n 0, 1) := by decide +kernel
theorem dL_law_823 : decode cL_law 823 = .ok (.iload 4, 2) := by decide +kernel
theorem dL_law_825 : decode cL_law 825 = .ok (.iconst 1, 1) := by decide +kernel
theorem dL_law_826 : decode cL_law 826 = .ok (.iadd, 1) := by decide +kernel
theorem dL_law_827 : decode cL_law 827 = .ok (.iaload, 1) := by decide +kernel
theorem dL_law_828 : decode cL_law 828 = .ok (.invokevirtual 106, 3) := by decide +kernel
theorem dL_law_831 : decode cL_law 831 = .ok (.aload_n 2, 1) := by decide +kernel
theorem dL_law_832 : decode cL_law 832 = .ok (.aload_n 0, 1) := by decide +kernel
theorem dL_law_833 : decode cL_law 833 = .ok (.iload 4, 2) := by decide +kernel
theorem dL_law_835 : decode cL_law 835 = .ok (.iconst 1, 1) := by decide +kernel
theorem dL_law_836 : decode cL_law 836 = .ok (.iadd, 1) := by decide +kernel
theorem dL_law_837 : decode cL_law 837 = .ok (.iaload, 1) := by decide +kernel
theorem dL_law_838 : decode cL_law 838 = .ok (.invokevirtual 109, 3) := by decide +kernel
theorem dL_law_841 : decode cL_law 841 = .ok (.if_icmp .eq 795, 3) := by decide +kernel
theorem dL_law_844 : decode cL_law 844 = .ok (.iconst 0, 1) := by decide +kernel
theorem dL_law_845 : decode cL_law 845 = .ok (.ireturn, 1) := by decide +kernel
theorem dL_law_846 : decode cL_law 846 = .ok (.aload_n 1, 1) := by decide +kernel
theorem dL_law_847 : decode cL_law 847 = .ok (.aload_n 0, 1) := by decide +kernel
theorem dL_law_848 : decode cL_law 848 = .ok (.iload 4, 2) := by decide +kernel
theorem dL_law_850 : decode cL_law 850 = .ok (.iconst 1, 1) := by decide +kernel
theorem dL_law_851 : decode cL_law 851 = .ok (.iadd, 1) := by decide +kernel
theorem dL_law_852 : decode cL_law 852 = .ok (.iaload, 1) := by decide +kernel
theorem dL_law_853 : decode cL_law 853 = .ok (.invokevirtual 110, 3) := by decide +kernel
theorem dL_law_856 : decode cL_law 856 = .ok (.aload_n 2, 1) := by decide +kernel
theorem dL_law_857 : decode cL_law 857 = .ok (.aload_n 0, 1) := by decide +kernel
theorem dL_law_858 : decode cL_law 858 = .ok (.iload 4, 2) := by decide +kernel
theorem dL_law_860 : decode cL_law 860 = .ok (.iconst 1, 1) := by decide +kernel
theorem dL_law_861 : decode cL_law 861 = .ok (.iadd, 1) := by decide +kernel
theorem dL_law_862 : decode cL_law 862 = .ok (.iaload, 1) := by decide +kernel
theorem dL_law_863 : decode cL_law 863 = .ok (.invokevirtual 113, 3) := by decide +kernel
theorem dL_law_866 : decode cL_law 866 = .ok (.if_icmp .eq 770, 3) := by decide +kernel
theorem dL_law_869 : decode cL_law 869 = .ok (.iconst 0, 1) := by decide +kernel
theorem dL_law_870 : decode cL_law 870 = .ok (.ireturn, 1) := by decide +kernel
theorem dL_law_871 : decode cL_law 871 = .ok (.aload_n 1, 1) := by decide +kernel
theorem dL_law_872 : decode cL_law 872 = .ok (.aload_n 0, 1) := by decide +kernel
theorem dL_law_873 : decode cL_law 873 = .ok (.iload 4, 2) := by decide +kernel
theorem dL_law_875 : decode cL_law 875 = .ok (.iconst 1, 1) := by decide +kernel
theorem dL_law_876 : decode cL_law 876 = .ok (.iadd, 1) := by decide +kernel
theorem dL_law_877 : decode cL_law 877 = .ok (.iaload, 1) := by decide +kernel
theorem dL_law_878 : decode cL_law 878 = .ok (.invokevirtual 114, 3) := by decide +kernel
theorem dL_law_881 : decode cL_law 881 = .ok (.aload_n 2, 1) := by decide +kernel
theorem dL_law_882 : decode cL_law 882 = .ok (.aload_n 0, 1) := by decide +kernel
theorem dL_law_883 : decode cL_law 883 = .ok (.iload 4, 2) := by decide +kernel
theorem dL_law_885 : decode cL_law 885 = .ok (.iconst 1, 1) := by decide +kernel
theorem dL_law_886 : decode cL_law 886 = .ok (.iadd, 1) := by decide +kernel
theorem dL_law_887 : decode cL_law 887 = .ok (.iaload, 1) := by decide +kernel
theorem dL_law_888 : decode cL_law 888 = .ok (.invokevirtual 117, 3) := by decide +kernel
theorem dL_law_891 : decode cL_law 891 = .ok (.if_icmp .eq 745, 3) := by decide +kernel
theorem dL_law_894 : decode cL_law 894 = .ok (.iconst 0, 1) := by decide +kernel
theorem dL_law_895 : decode cL_law 895 = .ok (.ireturn, 1) := by decide +kernel
theorem dL_law_896 : decode cL_law 896 = .ok (.aload_n 1, 1) := by decide +kernel
theorem dL_law_897 : decode cL_law 897 = .ok (.invokevirtual 118, 3) := by decide +kernel
theorem dL_law_900 : decode cL_law 900 = .ok (.dstore 5, 2) := by decide +kernel
theorem dL_law_902 : decode cL_law 902 = .ok (.aload_n 2, 1) := by decide +kernel
theorem dL_law_903 : decode cL_law 903 = .ok (.invokevirtual 122, 3) := by decide +kernel
theorem dL_law_906 : decode cL_law 906 = .ok (.dstore 7, 2) := by decide +kernel
theorem dL_law_908 : decode cL_law 908 = .ok (.dload 5, 2) := by decide +kernel
theorem dL_law_910 : decode cL_law 910 = .ok (.dload 7, 2) := by decide +kernel
theorem dL_law_912 : decode cL_law 912 = .ok (.dcmp .l, 1) := by decide +kernel
theorem dL_law_913 : decode cL_law 913 = .ok (.ifCond .eq 21, 3) := by decide +kernel
theorem dL_law_916 : decode cL_law 916 = .ok (.dload 5, 2) := by decide +kernel
theorem dL_law_918 : decode cL_law 918 = .ok (.dload 5, 2) := by decide +kernel
theorem dL_law_920 : decode cL_law 920 = .ok (.dcmp .l, 1) := by decide +kernel
theorem dL_law_921 : decode cL_law 921 = .ok (.ifCond .eq 11, 3) := by decide +kernel
theorem dL_law_924 : decode cL_law 924 = .ok (.dload 7, 2) := by decide +kernel
theorem dL_law_926 : decode cL_law 926 = .ok (.dload 7, 2) := by decide +kernel
theorem dL_law_928 : decode cL_law 928 = .ok (.dcmp .l, 1) := by decide +kernel
theorem dL_law_929 : decode cL_law 929 = .ok (.ifCond .ne 5, 3) := by decide +kernel
theorem dL_law_932 : decode cL_law 932 = .ok (.iconst 0, 1) := by decide +kernel
theorem dL_law_933 : decode cL_law 933 = .ok (.ireturn, 1) := by decide +kernel
theorem dL_law_934 : decode cL_law 934 = .ok (.goto 702, 3) := by decide +kernel
theorem dL_law_937 : decode cL_law 937 = .ok (.aload_n 1, 1) := by decide +kernel
theorem dL_law_938 : decode cL_law 938 = .ok (.aload_n 0, 1) := by decide +kernel
theorem dL_law_939 : decode cL_law 939 = .ok (.iload 4, 2) := by decide +kernel
theorem dL_law_941 : decode cL_law 941 = .ok (.iconst 1, 1) := by decide +kernel
theorem dL_law_942 : decode cL_law 942 = .ok (.iadd, 1) := by decide +kernel
theorem dL_law_943 : decode cL_law 943 = .ok (.iaload, 1) := by decide +kernel
theorem dL_law_944 : decode cL_law 944 = .ok (.invokevirtual 123, 3) := by decide +kernel
theorem dL_law_947 : decode cL_law 947 = .ok (.aload_n 2, 1) := by decide +kernel
theorem dL_law_948 : decode cL_law 948 = .ok (.aload_n 0, 1) := by decide +kernel
theorem dL_law_949 : decode cL_law 949 = .ok (.iload 4, 2) := by decide +kernel
theorem dL_law_951 : decode cL_law 951 = .ok (.iconst 1, 1) := by decide +kernel
theorem dL_law_952 : decode cL_law 952 = .ok (.iadd, 1) := by decide +kernel
theorem dL_law_953 : decode cL_law 953 = .ok (.iaload, 1) := by decide +kernel
theorem dL_law_954 : decode cL_law 954 = .ok (.invokevirtual 126, 3) := by decide +kernel
theorem dL_law_957 : decode cL_law 957 = .ok (.if_icmp .eq 679, 3) := by decide +kernel
theorem dL_law_960 : decode cL_law 960 = .ok (.iconst 0, 1) := by decide +kernel
theorem dL_law_961 : decode cL_law 961 = .ok (.ireturn, 1) := by decide +kernel
theorem dL_law_962 : decode cL_law 962 = .ok (.aload_n 1, 1) := by decide +kernel
theorem dL_law_963 : decode cL_law 963 = .ok (.aload_n 0, 1) := by decide +kernel
theorem dL_law_964 : decode cL_law 964 = .ok (.iload 4, 2) := by decide +kernel
theorem dL_law_966 : decode cL_law 966 = .ok (.iconst 1, 1) := by decide +kernel
theorem dL_law_967 : decode cL_law 967 = .ok (.iadd, 1) := by decide +kernel
theorem dL_law_968 : decode cL_law 968 = .ok (.iaload, 1) := by decide +kernel
theorem dL_law_969 : decode cL_law 969 = .ok (.invokevirtual 127, 3) := by decide +kernel
theorem dL_law_972 : decode cL_law 972 = .ok (.aload_n 2, 1) := by decide +kernel
theorem dL_law_973 : decode cL_law 973 = .ok (.aload_n 0, 1) := by decide +kernel
theorem dL_law_974 : decode cL_law 974 = .ok (.iload 4, 2) := by decide +kernel
theorem dL_law_976 : decode cL_law 976 = .ok (.iconst 1, 1) := by decide +kernel
theorem dL_law_977 : decode cL_law 977 = .ok (.iadd, 1) := by decide +kernel
theorem dL_law_978 : decode cL_law 978 = .ok (.iaload, 1) := by decide +kernel
theorem dL_law_979 : decode cL_law 979 = .ok (.invokevirtual 130, 3) := by decide +kernel
theorem dL_law_982 : decode cL_law 982 = .ok (.if_icmp .eq 654, 3) := by decide +kernel
theorem dL_law_985 : decode cL_law 985 = .ok (.iconst 0, 1) := by decide +kernel
theorem dL_law_986 : decode cL_law 986 = .ok (.ireturn, 1) := by decide +kernel
theorem dL_law_987 : decode cL_law 987 = .ok (.aload_n 1, 1) := by decide +kernel
theorem dL_law_988 : decode cL_law 988 = .ok (.aload_n 0, 1) := by decide +kernel
theorem dL_law_989 : decode cL_law 989 = .ok (.iload 4, 2) := by decide +kernel
theorem dL_law_991 : decode cL_law 991 = .ok (.iconst 1, 1) := by decide +kernel
theorem dL_law_992 : decode cL_law 992 = .ok (.iadd, 1) := by decide +kernel
theorem dL_law_993 : decode cL_law 993 = .ok (.iaload, 1) := by decide +kernel
theorem dL_law_994 : decode cL_law 994 = .ok (.invokevirtual 131, 3) := by decide +kernel
theorem dL_law_997 : decode cL_law 997 = .ok (.aload_n 2, 1) := by decide +kernel
theorem dL_law_998 : decode cL_law 998 = .ok (.aload_n 0, 1) := by decide +kernel
theorem dL_law_999 : decode cL_law 999 = .ok (.iload 4, 2) := by decide +kernel
theorem dL_law_1001 : decode cL_law 1001 = .ok (.iconst 1, 1) := by decide +kernel
theorem dL_law_1002 : decode cL_law 1002 = .ok (.iadd, 1) := by decide +kernel
theorem dL_law_1003 : decode cL_law 1003 = .ok (.iaload, 1) := by decide +kernel
theorem dL_law_1004 : decode cL_law 1004 = .ok (.invokevirtual 134, 3) := by decide +kernel
theorem dL_law_1007 : decode cL_law 1007 = .ok (.if_icmp .eq 629, 3) := by decide +kernel
theorem dL_law_1010 : decode cL_law 1010 = .ok (.iconst 0, 1) := by decide +kernel
theorem dL_law_1011 : decode cL_law 1011 = .ok (.ireturn, 1) := by decide +kernel
theorem dL_law_1012 : decode cL_law 1012 = .ok (.aload_n 1, 1) := by decide +kernel
theorem dL_law_1013 : decode cL_law 1013 = .ok (.invokevirtual 135, 3) := by decide +kernel
theorem dL_law_1016 : decode cL_law 1016 = .ok (.aload_n 2, 1) := by decide +kernel
theorem dL_law_1017 : decode cL_law 1017 = .ok (.invokevirtual 138, 3) := by decide +kernel
theorem dL_law_1020 : decode cL_law 1020 = .ok (.if_icmp .eq 616, 3) := by decide +kernel
theorem dL_law_1023 : decode cL_law 1023 = .ok (.iconst 0, 1) := by decide +kernel
theorem dL_law_1024 : decode cL_law 1024 = .ok (.ireturn, 1) := by decide +kernel
theorem dL_law_1025 : decode cL_law 1025 = .ok (.aload_n 1, 1) := by decide +kernel
theorem dL_law_1026 : decode cL_law 1026 = .ok (.aload_n 0, 1) := by decide +kernel
theorem dL_law_1027 : decode cL_law 1027 = .ok (.iload 4, 2) := by decide +kernel
theorem dL_law_1029 : decode cL_law 1029 = .ok (.iconst 1, 1) := by decide +kernel
theorem dL_law_1030 : decode cL_law 1030 = .ok (.iadd, 1) := by decide +kernel
theorem dL_law_1031 : decode cL_law 1031 = .ok (.iaload, 1) := by decide +kernel
theorem dL_law_1032 : decode cL_law 1032 = .ok (.invokevirtual 139, 3) := by decide +kernel
theorem dL_law_1035 : decode cL_law 1035 = .ok (.aload_n 2, 1) := by decide +kernel
theorem dL_law_1036 : decode cL_law 1036 = .ok (.aload_n 0, 1) := by decide +kernel
theorem dL_law_1037 : decode cL_law 1037 = .ok (.iload 4, 2) := by decide +kernel
theorem dL_law_1039 : decode cL_law 1039 = .ok (.iconst 1, 1) := by decide +kernel
theorem dL_law_1040 : decode cL_law 1040 = .ok (.iadd, 1) := by decide +kernel
theorem dL_law_1041 : decode cL_law 1041 = .ok (.iaload, 1) := by decide +kernel
theorem dL_law_1042 : decode cL_law 1042 = .ok (.invokevirtual 142, 3) := by decide +kernel
theorem dL_law_1045 : decode cL_law 1045 = .ok (.if_icmp .eq 591, 3) := by decide +kernel
theorem dL_law_1048 : decode cL_law 1048 = .ok (.iconst 0, 1) := by decide +kernel
theorem dL_law_1049 : decode cL_law 1049 = .ok (.ireturn, 1) := by decide +kernel
theorem dL_law_1050 : decode cL_law 1050 = .ok (.aload_n 1, 1) := by decide +kernel
theorem dL_law_1051 : decode cL_law 1051 = .ok (.invokevirtual 143, 3) := by decide +kernel
theorem dL_law_1054 : decode cL_law 1054 = .ok (.aload_n 2, 1) := by decide +kernel
theorem dL_law_1055 : decode cL_law 1055 = .ok (.invokevirtual 146, 3) := by decide +kernel
theorem dL_law_1058 : decode cL_law 1058 = .ok (.if_icmp .eq 578, 3) := by decide +kernel
theorem dL_law_1061 : decode cL_law 1061 = .ok (.iconst 0, 1) := by decide +kernel
theorem dL_law_1062 : decode cL_law 1062 = .ok (.ireturn, 1) := by decide +kernel
theorem dL_law_1063 : decode cL_law 1063 = .ok (.aload_n 1, 1) := by decide +kernel
theorem dL_law_1064 : decode cL_law 1064 = .ok (.aload_n 0, 1) := by decide +kernel
theorem dL_law_1065 : decode cL_law 1065 = .ok (.iload 4, 2) := by decide +kernel
theorem dL_law_1067 : decode cL_law 1067 = .ok (.iconst 1, 1) := by decide +kernel
theorem dL_law_1068 : decode cL_law 1068 = .ok (.iadd, 1) := by decide +kernel
theorem dL_law_1069 : decode cL_law 1069 = .ok (.iaload, 1) := by decide +kernel
theorem dL_law_1070 : decode cL_law 1070 = .ok (.invokevirtual 147, 3) := by decide +kernel
theorem dL_law_1073 : decode cL_law 1073 = .ok (.aload_n 2, 1) := by decide +kernel
theorem dL_law_1074 : decode cL_law 1074 = .ok (.aload_n 0, 1) := by decide +kernel
theorem dL_law_1075 : decode cL_law 1075 = .ok (.iload 4, 2) := by decide +kernel
theorem dL_law_1077 : decode cL_law 1077 = .ok (.iconst 1, 1) := by decide +kernel
theorem dL_law_1078 : decode cL_law 1078 = .ok (.iadd, 1) := by decide +kernel
theorem dL_law_1079 : decode cL_law 1079 = .ok (.iaload, 1) := by decide +kernel
theorem dL_law_1080 : decode cL_law 1080 = .ok (.invokevirtual 150, 3) := by decide +kernel
theorem dL_law_1083 : decode cL_law 1083 = .ok (.if_icmp .eq 553, 3) := by decide +kernel
theorem dL_law_1086 : decode cL_law 1086 = .ok (.iconst 0, 1) := by decide +kernel
theorem dL_law_1087 : decode cL_law 1087 = .ok (.ireturn, 1) := by decide +kernel
theorem dL_law_1088 : decode cL_law 1088 = .ok (.aload_n 1, 1) := by decide +kernel
theorem dL_law_1089 : decode cL_law 1089 = .ok (.aload_n 0, 1) := by decide +kernel
theorem dL_law_1090 : decode cL_law 1090 = .ok (.iload 4, 2) := by decide +kernel
theorem dL_law_1092 : decode cL_law 1092 = .ok (.iconst 1, 1) := by decide +kernel
theorem dL_law_1093 : decode cL_law 1093 = .ok (.iadd, 1) := by decide +kernel
theorem dL_law_1094 : decode cL_law 1094 = .ok (.iaload, 1) := by decide +kernel
theorem dL_law_1095 : decode cL_law 1095 = .ok (.aload_n 0, 1) := by decide +kernel
theorem dL_law_1096 : decode cL_law 1096 = .ok (.iload 4, 2) := by decide +kernel
theorem dL_law_1098 : decode cL_law 1098 = .ok (.iconst 2, 1) := by decide +kernel
theorem dL_law_1099 : decode cL_law 1099 = .ok (.iadd, 1) := by decide +kernel
theorem dL_law_1100 : decode cL_law 1100 = .ok (.iaload, 1) := by decide +kernel
theorem dL_law_1101 : decode cL_law 1101 = .ok (.invokevirtual 151, 3) := by decide +kernel
theorem dL_law_1104 : decode cL_law 1104 = .ok (.aload_n 2, 1) := by decide +kernel
theorem dL_law_1105 : decode cL_law 1105 = .ok (.aload_n 0, 1) := by decide +kernel
theorem dL_law_1106 : decode cL_law 1106 = .ok (.iload 4, 2) := by decide +kernel
theorem dL_law_1108 : decode cL_law 1108 = .ok (.iconst 1, 1) := by decide +kernel
theorem dL_law_1109 : decode cL_law 1109 = .ok (.iadd, 1) := by decide +kernel
theorem dL_law_1110 : decode cL_law 1110 = .ok (.iaload, 1) := by decide +kernel
theorem dL_law_1111 : decode cL_law 1111 = .ok (.aload_n 0, 1) := by decide +kernel
theorem dL_law_1112 : decode cL_law 1112 = .ok (.iload 4, 2) := by decide +kernel
theorem dL_law_1114 : decode cL_law 1114 = .ok (.iconst 2, 1) := by decide +kernel
theorem dL_law_1115 : decode cL_law 1115 = .ok (.iadd, 1) := by decide +kernel
theorem dL_law_1116 : decode cL_law 1116 = .ok (.iaload, 1) := by decide +kernel
theorem dL_law_1117 : decode cL_law 1117 = .ok (.invokevirtual 154, 3) := by decide +kernel
theorem dL_law_1120 : decode cL_law 1120 = .ok (.if_icmp .eq 516, 3) := by decide +kernel
theorem dL_law_1123 : decode cL_law 1123 = .ok (.iconst 0, 1) := by decide +kernel
theorem dL_law_1124 : decode cL_law 1124 = .ok (.ireturn, 1) := by decide +kernel
theorem dL_law_1125 : decode cL_law 1125 = .ok (.aload_n 1, 1) := by decide +kernel
theorem dL_law_1126 : decode cL_law 1126 = .ok (.invokevirtual 155, 3) := by decide +kernel
theorem dL_law_1129 : decode cL_law 1129 = .ok (.aload_n 2, 1) := by decide +kernel
theorem dL_law_1130 : decode cL_law 1130 = .ok (.invokevirtual 158, 3) := by decide +kernel
theorem dL_law_1133 : decode cL_law 1133 = .ok (.if_icmp .eq 503, 3) := by decide +kernel
theorem dL_law_1136 : decode cL_law 1136 = .ok (.iconst 0, 1) := by decide +kernel
theorem dL_law_1137 : decode cL_law 1137 = .ok (.ireturn, 1) := by decide +kernel
theorem dL_law_1138 : decode cL_law 1138 = .ok (.aload_n 1, 1) := by decide +kernel
theorem dL_law_1139 : decode cL_law 1139 = .ok (.invokevirtual 159, 3) := by decide +kernel
theorem dL_law_1142 : decode cL_law 1142 = .ok (.aload_n 2, 1) := by decide +kernel
theorem dL_law_1143 : decode cL_law 1143 = .ok (.invokevirtual 162, 3) := by decide +kernel
theorem dL_law_1146 : decode cL_law 1146 = .ok (.if_icmp .eq 490, 3) := by decide +kernel
theorem dL_law_1149 : decode cL_law 1149 = .ok (.iconst 0, 1) := by decide +kernel
theorem dL_law_1150 : decode cL_law 1150 = .ok (.ireturn, 1) := by decide +kernel
theorem dL_law_1151 : decode cL_law 1151 = .ok (.aload_n 1, 1) := by decide +kernel
theorem dL_law_1152 : decode cL_law 1152 = .ok (.aload_n 0, 1) := by decide +kernel
theorem dL_law_1153 : decode cL_law 1153 = .ok (.iload 4, 2) := by decide +kernel
theorem dL_law_1155 : decode cL_law 1155 = .ok (.iconst 1, 1) := by decide +kernel
theorem dL_law_1156 : decode cL_law 1156 = .ok (.iadd, 1) := by decide +kernel
theorem dL_law_1157 : decode cL_law 1157 = .ok (.iaload, 1) := by decide +kernel
theorem dL_law_1158 : decode cL_law 1158 = .ok (.invokevirtual 163, 3) := by decide +kernel
theorem dL_law_1161 : decode cL_law 1161 = .ok (.aload_n 2, 1) := by decide +kernel
theorem dL_law_1162 : decode cL_law 1162 = .ok (.aload_n 0, 1) := by decide +kernel
theorem dL_law_1163 : decode cL_law 1163 = .ok (.iload 4, 2) := by decide +kernel
theorem dL_law_1165 : decode cL_law 1165 = .ok (.iconst 1, 1) := by decide +kernel
theorem dL_law_1166 : decode cL_law 1166 = .ok (.iadd, 1) := by decide +kernel
theorem dL_law_1167 : decode cL_law 1167 = .ok (.iaload, 1) := by decide +kernel
theorem dL_law_1168 : decode cL_law 1168 = .ok (.invokevirtual 166, 3) := by decide +kernel
theorem dL_law_1171 : decode cL_law 1171 = .ok (.if_icmp .eq 465, 3) := by decide +kernel
theorem dL_law_1174 : decode cL_law 1174 = .ok (.iconst 0, 1) := by decide +kernel
theorem dL_law_1175 : decode cL_law 1175 = .ok (.ireturn, 1) := by decide +kernel
theorem dL_law_1176 : decode cL_law 1176 = .ok (.aload_n 1, 1) := by decide +kernel
theorem dL_law_1177 : decode cL_law 1177 = .ok (.invokevirtual 167, 3) := by decide +kernel
theorem dL_law_1180 : decode cL_law 1180 = .ok (.aload_n 2, 1) := by decide +kernel
theorem dL_law_1181 : decode cL_law 1181 = .ok (.invokevirtual 170, 3) := by decide +kernel
theorem dL_law_1184 : decode cL_law 1184 = .ok (.if_icmp .eq 452, 3) := by decide +kernel
theorem dL_law_1187 : decode cL_law 1187 = .ok (.iconst 0, 1) := by decide +kernel
theorem dL_law_1188 : decode cL_law 1188 = .ok (.ireturn, 1) := by decide +kernel
theorem dL_law_1189 : decode cL_law 1189 = .ok (.aload_n 1, 1) := by decide +kernel
theorem dL_law_1190 : decode cL_law 1190 = .ok (.aload_n 0, 1) := by decide +kernel
theorem dL_law_1191 : decode cL_law 1191 = .ok (.iload 4, 2) := by decide +kernel
theorem dL_law_1193 : decode cL_law 1193 = .ok (.iconst 1, 1) := by decide +kernel
theorem dL_law_1194 : decode cL_law 1194 = .ok (.iadd, 1) := by decide +kernel
theorem dL_law_1195 : decode cL_law 1195 = .ok (.iaload, 1) := by decide +kernel
theorem dL_law_1196 : decode cL_law 1196 = .ok (.invokevirtual 171, 3) := by decide +kernel
theorem dL_law_1199 : decode cL_law 1199 = .ok (.aload_n 2, 1) := by decide +kernel
theorem dL_law_1200 : decode cL_law 1200 = .ok (.aload_n 0, 1) := by decide +kernel
theorem dL_law_1201 : decode cL_law 1201 = .ok (.iload 4, 2) := by decide +kernel
theorem dL_law_1203 : decode cL_law 1203 = .ok (.iconst 1, 1) := by decide +kernel
theorem dL_law_1204 : decode cL_law 1204 = .ok (.iadd, 1) := by decide +kernel
theorem dL_law_1205 : decode cL_law 1205 = .ok (.iaload, 1) := by decide +kernel
theorem dL_law_1206 : decode cL_law 1206 = .ok (.invokevirtual 174, 3) := by decide +kernel
theorem dL_law_1209 : decode cL_law 1209 = .ok (.if_icmp .eq 427, 3) := by decide +kernel
theorem dL_law_1212 : decode cL_law 1212 = .ok (.iconst 0, 1) := by decide +kernel
theorem dL_law_1213 : decode cL_law 1213 = .ok (.ireturn, 1) := by decide +kernel
theorem dL_law_1214 : decode cL_law 1214 = .ok (.aload_n 1, 1) := by decide +kernel
theorem dL_law_1215 : decode cL_law 1215 = .ok (.invokevirtual 175, 3) := by decide +kernel
theorem dL_law_1218 : decode cL_law 1218 = .ok (.aload_n 2, 1) := by decide +kernel
theorem dL_law_1219 : decode cL_law 1219 = .ok (.invokevirtual 178, 3) := by decide +kernel
theorem dL_law_1222 : decode cL_law 1222 = .ok (.if_icmp .eq 414, 3) := by decide +kernel
theorem dL_law_1225 : decode cL_law 1225 = .ok (.iconst 0, 1) := by decide +kernel
theorem dL_law_1226 : decode cL_law 1226 = .ok (.ireturn, 1) := by decide +kernel
theorem dL_law_1227 : decode cL_law 1227 = .ok (.aload_n 1, 1) := by decide +kernel
theorem dL_law_1228 : decode cL_law 1228 = .ok (.aload_n 0, 1) := by decide +kernel
theorem dL_law_1229 : decode cL_law 1229 = .ok (.iload 4, 2) := by decide +kernel
theorem dL_law_1231 : decode cL_law 1231 = .ok (.iconst 1, 1) := by decide +kernel
theorem dL_law_1232 : decode cL_law 1232 = .ok (.iadd, 1) := by decide +kernel
theorem dL_law_1233 : decode cL_law 1233 = .ok (.iaload, 1) := by decide +kernel
theorem dL_law_1234 : decode cL_law 1234 = .ok (.invokevirtual 179, 3) := by decide +kernel
theorem dL_law_1237 : decode cL_law 1237 = .ok (.aload_n 2, 1) := by decide +kernel
theorem dL_law_1238 : decode cL_law 1238 = .ok (.aload_n 0, 1) := by decide +kernel
theorem dL_law_1239 : decode cL_law 1239 = .ok (.iload 4, 2) := by decide +kernel
theorem dL_law_1241 : decode cL_law 1241 = .ok (.iconst 1, 1) := by decide +kernel
theorem dL_law_1242 : decode cL_law 1242 = .ok (.iadd, 1) := by decide +kernel
theorem dL_law_1243 : decode cL_law 1243 = .ok (.iaload, 1) := by decide +kernel
theorem dL_law_1244 : decode cL_law 1244 = .ok (.invokevirtual 182, 3) := by decide +kernel
theorem dL_law_1247 : decode cL_law 1247 = .ok (.if_icmp .eq 389, 3) := by decide +kernel
theorem dL_law_1250 : decode cL_law 1250 = .ok (.iconst 0, 1) := by decide +kernel
theorem dL_law_1251 : decode cL_law 1251 = .ok (.ireturn, 1) := by decide +kernel
theorem dL_law_1252 : decode cL_law 1252 = .ok (.aload_n 1, 1) := by decide +kernel
theorem dL_law_1253 : decode cL_law 1253 = .ok (.aload_n 0, 1) := by decide +kernel
theorem dL_law_1254 : decode cL_law 1254 = .ok (.iload 4, 2) := by decide +kernel
theorem dL_law_1256 : decode cL_law 1256 = .ok (.iconst 1, 1) := by decide +kernel
theorem dL_law_1257 : decode cL_law 1257 = .ok (.iadd, 1) := by decide +kernel
theorem dL_law_1258 : decode cL_law 1258 = .ok (.iaload, 1) := by decide +kernel
theorem dL_law_1259 : decode cL_law 1259 = .ok (.invokevirtual 183, 3) := by decide +kernel
theorem dL_law_1262 : decode cL_law 1262 = .ok (.aload_n 2, 1) := by decide +kernel
theorem dL_law_1263 : decode cL_law 1263 = .ok (.aload_n 0, 1) := by decide +kernel
theorem dL_law_1264 : decode cL_law 1264 = .ok (.iload 4, 2) := by decide +kernel
theorem dL_law_1266 : decode cL_law 1266 = .ok (.iconst 1, 1) := by decide +kernel
theorem dL_law_1267 : decode cL_law 1267 = .ok (.iadd, 1) := by decide +kernel
theorem dL_law_1268 : decode cL_law 1268 = .ok (.iaload, 1) := by decide +kernel
theorem dL_law_1269 : decode cL_law 1269 = .ok (.invokevirtual 186, 3) := by decide +kernel
theorem dL_law_1272 : decode cL_law 1272 = .ok (.if_icmp .eq 364, 3) := by decide +kernel
theorem dL_law_1275 : decode cL_law 1275 = .ok (.iconst 0, 1) := by decide +kernel
theorem dL_law_1276 : decode cL_law 1276 = .ok (.ireturn, 1) := by decide +kernel
theorem dL_law_1277 : decode cL_law 1277 = .ok (.aload_n 1, 1) := by decide +kernel
theorem dL_law_1278 : decode cL_law 1278 = .ok (.aload_n 0, 1) := by decide +kernel
theorem dL_law_1279 : decode cL_law 1279 = .ok (.iload 4, 2) := by decide +kernel
theorem dL_law_1281 : decode cL_law 1281 = .ok (.iconst 1, 1) := by decide +kernel
theorem dL_law_1282 : decode cL_law 1282 = .ok (.iadd, 1) := by decide +kernel
theorem dL_law_1283 : decode cL_law 1283 = .ok (.iaload, 1) := by decide +kernel
theorem dL_law_1284 : decode cL_law 1284 = .ok (.aload_n 0, 1) := by decide +kernel
theorem dL_law_1285 : decode cL_law 1285 = .ok (.iload 4, 2) := by decide +kernel
theorem dL_law_1287 : decode cL_law 1287 = .ok (.iconst 2, 1) := by decide +kernel
theorem dL_law_1288 : decode cL_law 1288 = .ok (.iadd, 1) := by decide +kernel
theorem dL_law_1289 : decode cL_law 1289 = .ok (.iaload, 1) := by decide +kernel
theorem dL_law_1290 : decode cL_law 1290 = .ok (.invokevirtual 187, 3) := by decide +kernel
theorem dL_law_1293 : decode cL_law 1293 = .ok (.aload_n 2, 1) := by decide +kernel
theorem dL_law_1294 : decode cL_law 1294 = .ok (.aload_n 0, 1) := by decide +kernel
theorem dL_law_1295 : decode cL_law 1295 = .ok (.iload 4, 2) := by decide +kernel
theorem dL_law_1297 : decode cL_law 1297 = .ok (.iconst 1, 1) := by decide +kernel
theorem dL_law_1298 : decode cL_law 1298 = .ok (.iadd, 1) := by decide +kernel
theorem dL_law_1299 : decode cL_law 1299 = .ok (.iaload, 1) := by decide +kernel
theorem dL_law_1300 : decode cL_law 1300 = .ok (.aload_n 0, 1) := by decide +kernel
theorem dL_law_1301 : decode cL_law 1301 = .ok (.iload 4, 2) := by decide +kernel
theorem dL_law_1303 : decode cL_law 1303 = .ok (.iconst 2, 1) := by decide +kernel
theorem dL_law_1304 : decode cL_law 1304 = .ok (.iadd, 1) := by decide +kernel
theorem dL_law_1305 : decode cL_law 1305 = .ok (.iaload, 1) := by decide +kernel
theorem dL_law_1306 : decode cL_law 1306 = .ok (.invokevirtual 190, 3) := by decide +kernel
theorem dL_law_1309 : decode cL_law 1309 = .ok (.if_icmp .eq 327, 3) := by decide +kernel
theorem dL_law_1312 : decode cL_law 1312 = .ok (.iconst 0, 1) := by decide +kernel
theorem dL_law_1313 : decode cL_law 1313 = .ok (.ireturn, 1) := by decide +kernel
theorem dL_law_1314 : decode cL_law 1314 = .ok (.aload_n 1, 1) := by decide +kernel
theorem dL_law_1315 : decode cL_law 1315 = .ok (.aload_n 0, 1) := by decide +kernel
theorem dL_law_1316 : decode cL_law 1316 = .ok (.iload 4, 2) := by decide +kernel
theorem dL_law_1318 : decode cL_law 1318 = .ok (.iconst 1, 1) := by decide +kernel
theorem dL_law_1319 : decode cL_law 1319 = .ok (.iadd, 1) := by decide +kernel
theorem dL_law_1320 : decode cL_law 1320 = .ok (.iaload, 1) := by decide +kernel
theorem dL_law_1321 : decode cL_law 1321 = .ok (.invokevirtual 191, 3) := by decide +kernel
theorem dL_law_1324 : decode cL_law 1324 = .ok (.aload_n 2, 1) := by decide +kernel
theorem dL_law_1325 : decode cL_law 1325 = .ok (.aload_n 0, 1) := by decide +kernel
theorem dL_law_1326 : decode cL_law 1326 = .ok (.iload 4, 2) := by decide +kernel
theorem dL_law_1328 : decode cL_law 1328 = .ok (.iconst 1, 1) := by decide +kernel
theorem dL_law_1329 : decode cL_law 1329 = .ok (.iadd, 1) := by decide +kernel
theorem dL_law_1330 : decode cL_law 1330 = .ok (.iaload, 1) := by decide +kernel
theorem dL_law_1331 : decode cL_law 1331 = .ok (.invokevirtual 194, 3) := by decide +kernel
theorem dL_law_1334 : decode cL_law 1334 = .ok (.if_icmp .eq 302, 3) := by decide +kernel
theorem dL_law_1337 : decode cL_law 1337 = .ok (.iconst 0, 1) := by decide +kernel
theorem dL_law_1338 : decode cL_law 1338 = .ok (.ireturn, 1) := by decide +kernel
theorem dL_law_1339 : decode cL_law 1339 = .ok (.aload_n 1, 1) := by decide +kernel
theorem dL_law_1340 : decode cL_law 1340 = .ok (.invokevirtual 195, 3) := by decide +kernel
theorem dL_law_1343 : decode cL_law 1343 = .ok (.aload_n 2, 1) := by decide +kernel
theorem dL_law_1344 : decode cL_law 1344 = .ok (.invokevirtual 198, 3) := by decide +kernel
theorem dL_law_1347 : decode cL_law 1347 = .ok (.if_icmp .eq 289, 3) := by decide +kernel
theorem dL_law_1350 : decode cL_law 1350 = .ok (.iconst 0, 1) := by decide +kernel
theorem dL_law_1351 : decode cL_law 1351 = .ok (.ireturn, 1) := by decide +kernel
theorem dL_law_1352 : decode cL_law 1352 = .ok (.aload_n 1, 1) := by decide +kernel
theorem dL_law_1353 : decode cL_law 1353 = .ok (.invokevirtual 199, 3) := by decide +kernel
theorem dL_law_1356 : decode cL_law 1356 = .ok (.aload_n 2, 1) := by decide +kernel
theorem dL_law_1357 : decode cL_law 1357 = .ok (.invokevirtual 202, 3) := by decide +kernel
theorem dL_law_1360 : decode cL_law 1360 = .ok (.if_icmp .eq 276, 3) := by decide +kernel
theorem dL_law_1363 : decode cL_law 1363 = .ok (.iconst 0, 1) := by decide +kernel
theorem dL_law_1364 : decode cL_law 1364 = .ok (.ireturn, 1) := by decide +kernel
theorem dL_law_1365 : decode cL_law 1365 = .ok (.aload_n 1, 1) := by decide +kernel
theorem dL_law_1366 : decode cL_law 1366 = .ok (.invokevirtual 203, 3) := by decide +kernel
theorem dL_law_1369 : decode cL_law 1369 = .ok (.aload_n 2, 1) := by decide +kernel
theorem dL_law_1370 : decode cL_law 1370 = .ok (.invokevirtual 206, 3) := by decide +kernel
theorem dL_law_1373 : decode cL_law 1373 = .ok (.if_icmp .eq 263, 3) := by decide +kernel
theorem dL_law_1376 : decode cL_law 1376 = .ok (.iconst 0, 1) := by decide +kernel
theorem dL_law_1377 : decode cL_law 1377 = .ok (.ireturn, 1) := by decide +kernel
theorem dL_law_1378 : decode cL_law 1378 = .ok (.aload_n 1, 1) := by decide +kernel
theorem dL_law_1379 : decode cL_law 1379 = .ok (.invokevirtual 207, 3) := by decide +kernel
theorem dL_law_1382 : decode cL_law 1382 = .ok (.aload_n 2, 1) := by decide +kernel
theorem dL_law_1383 : decode cL_law 1383 = .ok (.invokevirtual 210, 3) := by decide +kernel
theorem dL_law_1386 : decode cL_law 1386 = .ok (.if_icmp .eq 250, 3) := by decide +kernel
theorem dL_law_1389 : decode cL_law 1389 = .ok (.iconst 0, 1) := by decide +kernel
theorem dL_law_1390 : decode cL_law 1390 = .ok (.ireturn, 1) := by decide +kernel
theorem dL_law_1391 : decode cL_law 1391 = .ok (.aload_n 1, 1) := by decide +kernel
theorem dL_law_1392 : decode cL_law 1392 = .ok (.invokevirtual 211, 3) := by decide +kernel
theorem dL_law_1395 : decode cL_law 1395 = .ok (.aload_n 2, 1) := by decide +kernel
theorem dL_law_1396 : decode cL_law 1396 = .ok (.invokevirtual 214, 3) := by decide +kernel
theorem dL_law_1399 : decode cL_law 1399 = .ok (.if_icmp .eq 237, 3) := by decide +kernel
theorem dL_law_1402 : decode cL_law 1402 = .ok (.iconst 0, 1) := by decide +kernel
theorem dL_law_1403 : decode cL_law 1403 = .ok (.ireturn, 1) := by decide +kernel
theorem dL_law_1404 : decode cL_law 1404 = .ok (.aload_n 1, 1) := by decide +kernel
theorem dL_law_1405 : decode cL_law 1405 = .ok (.aload_n 0, 1) := by decide +kernel
theorem dL_law_1406 : decode cL_law 1406 = .ok (.iload 4, 2) := by decide +kernel
theorem dL_law_1408 : decode cL_law 1408 = .ok (.iconst 1, 1) := by decide +kernel
theorem dL_law_1409 : decode cL_law 1409 = .ok (.iadd, 1) := by decide +kernel
theorem dL_law_1410 : decode cL_law 1410 = .ok (.iaload, 1) := by decide +kernel
theorem dL_law_1411 : decode cL_law 1411 = .ok (.invokevirtual 215, 3) := by decide +kernel
theorem dL_law_1414 : decode cL_law 1414 = .ok (.aload_n 2, 1) := by decide +kernel
theorem dL_law_1415 : decode cL_law 1415 = .ok (.aload_n 0, 1) := by decide +kernel
theorem dL_law_1416 : decode cL_law 1416 = .ok (.iload 4, 2) := by decide +kernel
theorem dL_law_1418 : decode cL_law 1418 = .ok (.iconst 1, 1) := by decide +kernel
theorem dL_law_1419 : decode cL_law 1419 = .ok (.iadd, 1) := by decide +kernel
theorem dL_law_1420 : decode cL_law 1420 = .ok (.iaload, 1) := by decide +kernel
theorem dL_law_1421 : decode cL_law 1421 = .ok (.invokevirtual 218, 3) := by decide +kernel
theorem dL_law_1424 : decode cL_law 1424 = .ok (.if_icmp .eq 212, 3) := by decide +kernel
theorem dL_law_1427 : decode cL_law 1427 = .ok (.iconst 0, 1) := by decide +kernel
theorem dL_law_1428 : decode cL_law 1428 = .ok (.ireturn, 1) := by decide +kernel
theorem dL_law_1429 : decode cL_law 1429 = .ok (.aload_n 1, 1) := by decide +kernel
theorem dL_law_1430 : decode cL_law 1430 = .ok (.aload_n 0, 1) := by decide +kernel
theorem dL_law_1431 : decode cL_law 1431 = .ok (.iload 4, 2) := by decide +kernel
theorem dL_law_1433 : decode cL_law 1433 = .ok (.iconst 1, 1) := by decide +kernel
theorem dL_law_1434 : decode cL_law 1434 = .ok (.iadd, 1) := by decide +kernel
theorem dL_law_1435 : decode cL_law 1435 = .ok (.iaload, 1) := by decide +kernel
theorem dL_law_1436 : decode cL_law 1436 = .ok (.invokevirtual 219, 3) := by decide +kernel
theorem dL_law_1439 : decode cL_law 1439 = .ok (.aload_n 2, 1) := by decide +kernel
theorem dL_law_1440 : decode cL_law 1440 = .ok (.aload_n 0, 1) := by decide +kernel
theorem dL_law_1441 : decode cL_law 1441 = .ok (.iload 4, 2) := by decide +kernel
theorem dL_law_1443 : decode cL_law 1443 = .ok (.iconst 1, 1) := by decide +kernel
theorem dL_law_1444 : decode cL_law 1444 = .ok (.iadd, 1) := by decide +kernel
theorem dL_law_1445 : decode cL_law 1445 = .ok (.iaload, 1) := by decide +kernel
theorem dL_law_1446 : decode cL_law 1446 = .ok (.invokevirtual 222, 3) := by decide +kernel
theorem dL_law_1449 : decode cL_law 1449 = .ok (.if_icmp .eq 187, 3) := by decide +kernel
theorem dL_law_1452 : decode cL_law 1452 = .ok (.iconst 0, 1) := by decide +kernel
theorem dL_law_1453 : decode cL_law 1453 = .ok (.ireturn, 1) := by decide +kernel
theorem dL_law_1454 : decode cL_law 1454 = .ok (.aload_n 1, 1) := by decide +kernel
theorem dL_law_1455 : decode cL_law 1455 = .ok (.invokevirtual 223, 3) := by decide +kernel
theorem dL_law_1458 : decode cL_law 1458 = .ok (.aload_n 2, 1) := by decide +kernel
theorem dL_law_1459 : decode cL_law 1459 = .ok (.invokevirtual 226, 3) := by decide +kernel
theorem dL_law_1462 : decode cL_law 1462 = .ok (.if_icmp .eq 174, 3) := by decide +kernel
theorem dL_law_1465 : decode cL_law 1465 = .ok (.iconst 0, 1) := by decide +kernel
theorem dL_law_1466 : decode cL_law 1466 = .ok (.ireturn, 1) := by decide +kernel
theorem dL_law_1467 : decode cL_law 1467 = .ok (.aload_n 1, 1) := by decide +kernel
theorem dL_law_1468 : decode cL_law 1468 = .ok (.aload_n 0, 1) := by decide +kernel
theorem dL_law_1469 : decode cL_law 1469 = .ok (.iload 4, 2) := by decide +kernel
theorem dL_law_1471 : decode cL_law 1471 = .ok (.iconst 1, 1) := by decide +kernel
theorem dL_law_1472 : decode cL_law 1472 = .ok (.iadd, 1) := by decide +kernel
theorem dL_law_1473 : decode cL_law 1473 = .ok (.iaload, 1) := by decide +kernel
theorem dL_law_1474 : decode cL_law 1474 = .ok (.aload_n 0, 1) := by decide +kernel
theorem dL_law_1475 : decode cL_law 1475 = .ok (.iload 4, 2) := by decide +kernel
theorem dL_law_1477 : decode cL_law 1477 = .ok (.iconst 2, 1) := by decide +kernel
theorem dL_law_1478 : decode cL_law 1478 = .ok (.iadd, 1) := by decide +kernel
theorem dL_law_1479 : decode cL_law 1479 = .ok (.iaload, 1) := by decide +kernel
theorem dL_law_1480 : decode cL_law 1480 = .ok (.invokevirtual 227, 3) := by decide +kernel
theorem dL_law_1483 : decode cL_law 1483 = .ok (.aload_n 2, 1) := by decide +kernel
theorem dL_law_1484 : decode cL_law 1484 = .ok (.aload_n 0, 1) := by decide +kernel
theorem dL_law_1485 : decode cL_law 1485 = .ok (.iload 4, 2) := by decide +kernel
theorem dL_law_1487 : decode cL_law 1487 = .ok (.iconst 1, 1) := by decide +kernel
theorem dL_law_1488 : decode cL_law 1488 = .ok (.iadd, 1) := by decide +kernel
theorem dL_law_1489 : decode cL_law 1489 = .ok (.iaload, 1) := by decide +kernel
theorem dL_law_1490 : decode cL_law 1490 = .ok (.aload_n 0, 1) := by decide +kernel
theorem dL_law_1491 : decode cL_law 1491 = .ok (.iload 4, 2) := by decide +kernel
theorem dL_law_1493 : decode cL_law 1493 = .ok (.iconst 2, 1) := by decide +kernel
theorem dL_law_1494 : decode cL_law 1494 = .ok (.iadd, 1) := by decide +kernel
theorem dL_law_1495 : decode cL_law 1495 = .ok (.iaload, 1) := by decide +kernel
theorem dL_law_1496 : decode cL_law 1496 = .ok (.invokevirtual 230, 3) := by decide +kernel
theorem dL_law_1499 : decode cL_law 1499 = .ok (.if_icmp .eq 137, 3) := by decide +kernel
theorem dL_law_1502 : decode cL_law 1502 = .ok (.iconst 0, 1) := by decide +kernel
theorem dL_law_1503 : decode cL_law 1503 = .ok (.ireturn, 1) := by decide +kernel
theorem dL_law_1504 : decode cL_law 1504 = .ok (.aload_n 1, 1) := by decide +kernel
theorem dL_law_1505 : decode cL_law 1505 = .ok (.invokevirtual 231, 3) := by decide +kernel
theorem dL_law_1508 : decode cL_law 1508 = .ok (.aload_n 2, 1) := by decide +kernel
theorem dL_law_1509 : decode cL_law 1509 = .ok (.invokevirtual 234, 3) := by decide +kernel
theorem dL_law_1512 : decode cL_law 1512 = .ok (.if_icmp .eq 124, 3) := by decide +kernel
theorem dL_law_1515 : decode cL_law 1515 = .ok (.iconst 0, 1) := by decide +kernel
theorem dL_law_1516 : decode cL_law 1516 = .ok (.ireturn, 1) := by decide +kernel
theorem dL_law_1517 : decode cL_law 1517 = .ok (.aload_n 1, 1) := by decide +kernel
theorem dL_law_1518 : decode cL_law 1518 = .ok (.aload_n 0, 1) := by decide +kernel
theorem dL_law_1519 : decode cL_law 1519 = .ok (.iload 4, 2) := by decide +kernel
theorem dL_law_1521 : decode cL_law 1521 = .ok (.iconst 1, 1) := by decide +kernel
theorem dL_law_1522 : decode cL_law 1522 = .ok (.iadd, 1) := by decide +kernel
theorem dL_law_1523 : decode cL_law 1523 = .ok (.iaload, 1) := by decide +kernel
theorem dL_law_1524 : decode cL_law 1524 = .ok (.aload_n 0, 1) := by decide +kernel
theorem dL_law_1525 : decode cL_law 1525 = .ok (.iload 4, 2) := by decide +kernel
theorem dL_law_1527 : decode cL_law 1527 = .ok (.iconst 2, 1) := by decide +kernel
theorem dL_law_1528 : decode cL_law 1528 = .ok (.iadd, 1) := by decide +kernel
theorem dL_law_1529 : decode cL_law 1529 = .ok (.iaload, 1) := by decide +kernel
theorem dL_law_1530 : decode cL_law 1530 = .ok (.invokevirtual 235, 3) := by decide +kernel
theorem dL_law_1533 : decode cL_law 1533 = .ok (.aload_n 2, 1) := by decide +kernel
theorem dL_law_1534 : decode cL_law 1534 = .ok (.aload_n 0, 1) := by decide +kernel
theorem dL_law_1535 : decode cL_law 1535 = .ok (.iload 4, 2) := by decide +kernel
theorem dL_law_1537 : decode cL_law 1537 = .ok (.iconst 1, 1) := by decide +kernel
theorem dL_law_1538 : decode cL_law 1538 = .ok (.iadd, 1) := by decide +kernel
theorem dL_law_1539 : decode cL_law 1539 = .ok (.iaload, 1) := by decide +kernel
theorem dL_law_1540 : decode cL_law 1540 = .ok (.aload_n 0, 1) := by decide +kernel
theorem dL_law_1541 : decode cL_law 1541 = .ok (.iload 4, 2) := by decide +kernel
theorem dL_law_1543 : decode cL_law 1543 = .ok (.iconst 2, 1) := by decide +kernel
theorem dL_law_1544 : decode cL_law 1544 = .ok (.iadd, 1) := by decide +kernel
theorem dL_law_1545 : decode cL_law 1545 = .ok (.iaload, 1) := by decide +kernel
theorem dL_law_1546 : decode cL_law 1546 = .ok (.invokevirtual 238, 3) := by decide +kernel
theorem dL_law_1549 : decode cL_law 1549 = .ok (.if_icmp .eq 87, 3) := by decide +kernel
theorem dL_law_1552 : decode cL_law 1552 = .ok (.iconst 0, 1) := by decide +kernel
theorem dL_law_1553 : decode cL_law 1553 = .ok (.ireturn, 1) := by decide +kernel
theorem dL_law_1554 : decode cL_law 1554 = .ok (.aload_n 1, 1) := by decide +kernel
theorem dL_law_1555 : decode cL_law 1555 = .ok (.aload_n 0, 1) := by decide +kernel
theorem dL_law_1556 : decode cL_law 1556 = .ok (.iload 4, 2) := by decide +kernel
theorem dL_law_1558 : decode cL_law 1558 = .ok (.iconst 1, 1) := by decide +kernel
theorem dL_law_1559 : decode cL_law 1559 = .ok (.iadd, 1) := by decide +kernel
theorem dL_law_1560 : decode cL_law 1560 = .ok (.iaload, 1) := by decide +kernel
theorem dL_law_1561 : decode cL_law 1561 = .ok (.aload_n 3, 1) := by decide +kernel
theorem dL_law_1562 : decode cL_law 1562 = .ok (.invokestatic 239, 3) := by decide +kernel
theorem dL_law_1565 : decode cL_law 1565 = .ok (.istore 5, 2) := by decide +kernel
theorem dL_law_1567 : decode cL_law 1567 = .ok (.aload_n 2, 1) := by decide +kernel
theorem dL_law_1568 : decode cL_law 1568 = .ok (.aload_n 0, 1) := by decide +kernel
theorem dL_law_1569 : decode cL_law 1569 = .ok (.iload 4, 2) := by decide +kernel
theorem dL_law_1571 : decode cL_law 1571 = .ok (.iconst 1, 1) := by decide +kernel
theorem dL_law_1572 : decode cL_law 1572 = .ok (.iadd, 1) := by decide +kernel
theorem dL_law_1573 : decode cL_law 1573 = .ok (.iaload, 1) := by decide +kernel
theorem dL_law_1574 : decode cL_law 1574 = .ok (.invokevirtual 244, 3) := by decide +kernel
theorem dL_law_1577 : decode cL_law 1577 = .ok (.istore 6, 2) := by decide +kernel
theorem dL_law_1579 : decode cL_law 1579 = .ok (.aload_n 2, 1) := by decide +kernel
theorem dL_law_1580 : decode cL_law 1580 = .ok (.invokevirtual 245, 3) := by decide +kernel
theorem dL_law_1583 : decode cL_law 1583 = .ok (.iload 5, 2) := by decide +kernel
theorem dL_law_1585 : decode cL_law 1585 = .ok (.if_icmp .eq 5, 3) := by decide +kernel
theorem dL_law_1588 : decode cL_law 1588 = .ok (.iconst 0, 1) := by decide +kernel
theorem dL_law_1589 : decode cL_law 1589 = .ok (.ireturn, 1) := by decide +kernel
theorem dL_law_1590 : decode cL_law 1590 = .ok (.iload 5, 2) := by decide +kernel
theorem dL_law_1592 : decode cL_law 1592 = .ok (.ifCond .ne 15, 3) := by decide +kernel
theorem dL_law_1595 : decode cL_law 1595 = .ok (.aload_n 3, 1) := by decide +kernel
theorem dL_law_1596 : decode cL_law 1596 = .ok (.iconst 0, 1) := by decide +kernel
theorem dL_law_1597 : decode cL_law 1597 = .ok (.laload, 1) := by decide +kernel
theorem dL_law_1598 : decode cL_law 1598 = .ok (.iload 6, 2) := by decide +kernel
theorem dL_law_1600 : decode cL_law 1600 = .ok (.i2l, 1) := by decide +kernel
theorem dL_law_1601 : decode cL_law 1601 = .ok (.lcmp, 1) := by decide +kernel
theorem dL_law_1602 : decode cL_law 1602 = .ok (.ifCond .eq 5, 3) := by decide +kernel
theorem dL_law_1605 : decode cL_law 1605 = .ok (.iconst 0, 1) := by decide +kernel
theorem dL_law_1606 : decode cL_law 1606 = .ok (.ireturn, 1) := by decide +kernel
theorem dL_law_1607 : decode cL_law 1607 = .ok (.goto 29, 3) := by decide +kernel
theorem dL_law_1610 : decode cL_law 1610 = .ok (.aload_n 1, 1) := by decide +kernel
theorem dL_law_1611 : decode cL_law 1611 = .ok (.invokevirtual 248, 3) := by decide +kernel
theorem dL_law_1614 : decode cL_law 1614 = .ok (.aload_n 2, 1) := by decide +kernel
theorem dL_law_1615 : decode cL_law 1615 = .ok (.invokevirtual 251, 3) := by decide +kernel
theorem dL_law_1618 : decode cL_law 1618 = .ok (.if_icmp .eq 18, 3) := by decide +kernel
theorem dL_law_1621 : decode cL_law 1621 = .ok (.iconst 0, 1) := by decide +kernel
theorem dL_law_1622 : decode cL_law 1622 = .ok (.ireturn, 1) := by decide +kernel
theorem dL_law_1623 : decode cL_law 1623 = .ok (.aload_n 1, 1) := by decide +kernel
theorem dL_law_1624 : decode cL_law 1624 = .ok (.invokevirtual 252, 3) := by decide +kernel
theorem dL_law_1627 : decode cL_law 1627 = .ok (.aload_n 2, 1) := by decide +kernel
theorem dL_law_1628 : decode cL_law 1628 = .ok (.invokevirtual 255, 3) := by decide +kernel
theorem dL_law_1631 : decode cL_law 1631 = .ok (.if_icmp .eq 5, 3) := by decide +kernel
theorem dL_law_1634 : decode cL_law 1634 = .ok (.iconst 0, 1) := by decide +kernel
theorem dL_law_1635 : decode cL_law 1635 = .ok (.ireturn, 1) := by decide +kernel
theorem dL_law_1636 : decode cL_law 1636 = .ok (.iinc 4 6, 3) := by decide +kernel
theorem dL_law_1639 : decode cL_law 1639 = .ok (.goto (-1616), 3) := by decide +kernel
theorem dL_law_1642 : decode cL_law 1642 = .ok (.iconst 1, 1) := by decide +kernel
theorem dL_law_1643 : decode cL_law 1643 = .ok (.ireturn, 1) := by decide +kernel
end
section
theorem zz_ok : True := trivial
end
