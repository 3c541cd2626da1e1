section
-- ===== PART A: goes FIRST, ahead of the names: the tables' words, and 'selects' of the private methods out of them =====
/-- a private method of a class that the tables say can be made, by its rows of tables_1 -/
def lw_okq (q : MethodName × Nat) : Prop := (q.1.cls ≠ "java/lang/invoke/MethodHandle" ∧ q.1.cls ≠ "java/lang/invoke/VarHandle") ∧ Cond.instantiable q.1.cls q.2 ∈ tables_1 ∧ Cond.privateMethod q.1 ∈ tables_1 ∧ Cond.instanceMethod q.1 ∈ tables_1
theorem lw_p0 : lw_okq (⟨"WhoKnows$Source", "scan", "(I)I"⟩, 12) := ⟨⟨by decide +kernel, by decide +kernel⟩, List.mem_of_getElem? (i := 42) (by decide +kernel), List.mem_of_getElem? (i := 394) (by decide +kernel), List.mem_of_getElem? (i := 395) (by decide +kernel)⟩
theorem lw_p1 : lw_okq (⟨"WhoKnows$Source", "byteAt", "(I)I"⟩, 12) := ⟨⟨by decide +kernel, by decide +kernel⟩, List.mem_of_getElem? (i := 42) (by decide +kernel), List.mem_of_getElem? (i := 398) (by decide +kernel), List.mem_of_getElem? (i := 399) (by decide +kernel)⟩
theorem lw_p2 : lw_okq (⟨"WhoKnows$Source", "isLetter", "(I)Z"⟩, 12) := ⟨⟨by decide +kernel, by decide +kernel⟩, List.mem_of_getElem? (i := 42) (by decide +kernel), List.mem_of_getElem? (i := 402) (by decide +kernel), List.mem_of_getElem? (i := 403) (by decide +kernel)⟩
theorem lw_p3 : lw_okq (⟨"WhoKnows$Source", "addToken", "(III)V"⟩, 12) := ⟨⟨by decide +kernel, by decide +kernel⟩, List.mem_of_getElem? (i := 42) (by decide +kernel), List.mem_of_getElem? (i := 406) (by decide +kernel), List.mem_of_getElem? (i := 407) (by decide +kernel)⟩
theorem lw_p4 : lw_okq (⟨"WhoKnows$Source", "kindOfWord", "(I)I"⟩, 12) := ⟨⟨by decide +kernel, by decide +kernel⟩, List.mem_of_getElem? (i := 42) (by decide +kernel), List.mem_of_getElem? (i := 410) (by decide +kernel), List.mem_of_getElem? (i := 411) (by decide +kernel)⟩
theorem lw_p5 : lw_okq (⟨"WhoKnows$Source", "spells", "(ILjava/lang/String;)Z"⟩, 12) := ⟨⟨by decide +kernel, by decide +kernel⟩, List.mem_of_getElem? (i := 42) (by decide +kernel), List.mem_of_getElem? (i := 424) (by decide +kernel), List.mem_of_getElem? (i := 425) (by decide +kernel)⟩
theorem lw_p6 : lw_okq (⟨"WhoKnows$Source", "nameAt", "(I)I"⟩, 12) := ⟨⟨by decide +kernel, by decide +kernel⟩, List.mem_of_getElem? (i := 42) (by decide +kernel), List.mem_of_getElem? (i := 429) (by decide +kernel), List.mem_of_getElem? (i := 430) (by decide +kernel)⟩
theorem lw_p7 : lw_okq (⟨"WhoKnows$DescriptionReader", "readFacts", "(LWhoKnows$Scene;)V"⟩, 4) := ⟨⟨by decide +kernel, by decide +kernel⟩, List.mem_of_getElem? (i := 160) (by decide +kernel), List.mem_of_getElem? (i := 440) (by decide +kernel), List.mem_of_getElem? (i := 441) (by decide +kernel)⟩
theorem lw_p8 : lw_okq (⟨"WhoKnows$DescriptionReader", "isAtEnd", "(LWhoKnows$Scene;)Z"⟩, 4) := ⟨⟨by decide +kernel, by decide +kernel⟩, List.mem_of_getElem? (i := 160) (by decide +kernel), List.mem_of_getElem? (i := 486) (by decide +kernel), List.mem_of_getElem? (i := 487) (by decide +kernel)⟩
theorem lw_p9 : lw_okq (⟨"WhoKnows$DescriptionReader", "readLaw", "(LWhoKnows$Scene;)V"⟩, 4) := ⟨⟨by decide +kernel, by decide +kernel⟩, List.mem_of_getElem? (i := 160) (by decide +kernel), List.mem_of_getElem? (i := 496) (by decide +kernel), List.mem_of_getElem? (i := 497) (by decide +kernel)⟩
theorem lw_p10 : lw_okq (⟨"WhoKnows$FormulaReader", "readItem", "(LWhoKnows$Scene;ZLWhoKnows$Formula;)Z"⟩, 6) := ⟨⟨by decide +kernel, by decide +kernel⟩, List.mem_of_getElem? (i := 135) (by decide +kernel), List.mem_of_getElem? (i := 511) (by decide +kernel), List.mem_of_getElem? (i := 512) (by decide +kernel)⟩
theorem lw_p11 : lw_okq (⟨"WhoKnows$FormulaReader", "readOpen", "()V"⟩, 6) := ⟨⟨by decide +kernel, by decide +kernel⟩, List.mem_of_getElem? (i := 135) (by decide +kernel), List.mem_of_getElem? (i := 515) (by decide +kernel), List.mem_of_getElem? (i := 516) (by decide +kernel)⟩
theorem lw_p12 : lw_okq (⟨"WhoKnows$FormulaReader", "hold", "(II)V"⟩, 6) := ⟨⟨by decide +kernel, by decide +kernel⟩, List.mem_of_getElem? (i := 135) (by decide +kernel), List.mem_of_getElem? (i := 520) (by decide +kernel), List.mem_of_getElem? (i := 521) (by decide +kernel)⟩
theorem lw_p13 : lw_okq (⟨"WhoKnows$FormulaReader", "takeNode", "()Z"⟩, 6) := ⟨⟨by decide +kernel, by decide +kernel⟩, List.mem_of_getElem? (i := 135) (by decide +kernel), List.mem_of_getElem? (i := 529) (by decide +kernel), List.mem_of_getElem? (i := 530) (by decide +kernel)⟩
theorem lw_p14 : lw_okq (⟨"WhoKnows$FormulaReader", "readJoin", "(LWhoKnows$Formula;)V"⟩, 6) := ⟨⟨by decide +kernel, by decide +kernel⟩, List.mem_of_getElem? (i := 135) (by decide +kernel), List.mem_of_getElem? (i := 554) (by decide +kernel), List.mem_of_getElem? (i := 555) (by decide +kernel)⟩
theorem lw_p15 : lw_okq (⟨"WhoKnows$FormulaReader", "release", "(ILWhoKnows$Formula;)V"⟩, 6) := ⟨⟨by decide +kernel, by decide +kernel⟩, List.mem_of_getElem? (i := 135) (by decide +kernel), List.mem_of_getElem? (i := 558) (by decide +kernel), List.mem_of_getElem? (i := 559) (by decide +kernel)⟩
def lw_privs_1 : List (MethodName × Nat) := [(⟨"WhoKnows$Source", "scan", "(I)I"⟩, 12), (⟨"WhoKnows$Source", "byteAt", "(I)I"⟩, 12), (⟨"WhoKnows$Source", "isLetter", "(I)Z"⟩, 12), (⟨"WhoKnows$Source", "addToken", "(III)V"⟩, 12), (⟨"WhoKnows$Source", "kindOfWord", "(I)I"⟩, 12), (⟨"WhoKnows$Source", "spells", "(ILjava/lang/String;)Z"⟩, 12), (⟨"WhoKnows$Source", "nameAt", "(I)I"⟩, 12), (⟨"WhoKnows$DescriptionReader", "readFacts", "(LWhoKnows$Scene;)V"⟩, 4), (⟨"WhoKnows$DescriptionReader", "isAtEnd", "(LWhoKnows$Scene;)Z"⟩, 4), (⟨"WhoKnows$DescriptionReader", "readLaw", "(LWhoKnows$Scene;)V"⟩, 4), (⟨"WhoKnows$FormulaReader", "readItem", "(LWhoKnows$Scene;ZLWhoKnows$Formula;)Z"⟩, 6), (⟨"WhoKnows$FormulaReader", "readOpen", "()V"⟩, 6), (⟨"WhoKnows$FormulaReader", "hold", "(II)V"⟩, 6), (⟨"WhoKnows$FormulaReader", "takeNode", "()Z"⟩, 6), (⟨"WhoKnows$FormulaReader", "readJoin", "(LWhoKnows$Formula;)V"⟩, 6), (⟨"WhoKnows$FormulaReader", "release", "(ILWhoKnows$Formula;)V"⟩, 6)]
theorem lw_r1 : ∀ q ∈ lw_privs_1, lw_okq q := List.forall_mem_cons.mpr ⟨lw_p0, List.forall_mem_cons.mpr ⟨lw_p1, List.forall_mem_cons.mpr ⟨lw_p2, List.forall_mem_cons.mpr ⟨lw_p3, List.forall_mem_cons.mpr ⟨lw_p4, List.forall_mem_cons.mpr ⟨lw_p5, List.forall_mem_cons.mpr ⟨lw_p6, List.forall_mem_cons.mpr ⟨lw_p7, List.forall_mem_cons.mpr ⟨lw_p8, List.forall_mem_cons.mpr ⟨lw_p9, List.forall_mem_cons.mpr ⟨lw_p10, List.forall_mem_cons.mpr ⟨lw_p11, List.forall_mem_cons.mpr ⟨lw_p12, List.forall_mem_cons.mpr ⟨lw_p13, List.forall_mem_cons.mpr ⟨lw_p14, List.forall_mem_cons.mpr ⟨lw_p15, fun _ h => absurd h List.not_mem_nil⟩⟩⟩⟩⟩⟩⟩⟩⟩⟩⟩⟩⟩⟩⟩⟩
theorem lw_p16 : lw_okq (⟨"WhoKnows$FormulaReader", "readClose", "(LWhoKnows$Formula;)V"⟩, 6) := ⟨⟨by decide +kernel, by decide +kernel⟩, List.mem_of_getElem? (i := 135) (by decide +kernel), List.mem_of_getElem? (i := 563) (by decide +kernel), List.mem_of_getElem? (i := 564) (by decide +kernel)⟩
theorem lw_p17 : lw_okq (⟨"WhoKnows$Knowledge", "neighbours", "(I)I"⟩, 3) := ⟨⟨by decide +kernel, by decide +kernel⟩, List.mem_of_getElem? (i := 95) (by decide +kernel), List.mem_of_getElem? (i := 602) (by decide +kernel), List.mem_of_getElem? (i := 603) (by decide +kernel)⟩
theorem lw_p18 : lw_okq (⟨"WhoKnows$DescriptionReader", "readPerson", "(LWhoKnows$Scene;)V"⟩, 4) := ⟨⟨by decide +kernel, by decide +kernel⟩, List.mem_of_getElem? (i := 160) (by decide +kernel), List.mem_of_getElem? (i := 607) (by decide +kernel), List.mem_of_getElem? (i := 608) (by decide +kernel)⟩
theorem lw_p19 : lw_okq (⟨"WhoKnows$DescriptionReader", "readReal", "(LWhoKnows$Scene;)V"⟩, 4) := ⟨⟨by decide +kernel, by decide +kernel⟩, List.mem_of_getElem? (i := 160) (by decide +kernel), List.mem_of_getElem? (i := 621) (by decide +kernel), List.mem_of_getElem? (i := 622) (by decide +kernel)⟩
theorem lw_p20 : lw_okq (⟨"WhoKnows", "foretell", "(II)I"⟩, 14) := ⟨⟨by decide +kernel, by decide +kernel⟩, List.mem_of_getElem? (i := 34) (by decide +kernel), List.mem_of_getElem? (i := 816) (by decide +kernel), List.mem_of_getElem? (i := 817) (by decide +kernel)⟩
theorem lw_p21 : lw_okq (⟨"WhoKnows", "tell", "(II)I"⟩, 14) := ⟨⟨by decide +kernel, by decide +kernel⟩, List.mem_of_getElem? (i := 34) (by decide +kernel), List.mem_of_getElem? (i := 868) (by decide +kernel), List.mem_of_getElem? (i := 869) (by decide +kernel)⟩
theorem lw_p22 : lw_okq (⟨"WhoKnows", "remember", "()V"⟩, 14) := ⟨⟨by decide +kernel, by decide +kernel⟩, List.mem_of_getElem? (i := 34) (by decide +kernel), List.mem_of_getElem? (i := 872) (by decide +kernel), List.mem_of_getElem? (i := 873) (by decide +kernel)⟩
theorem lw_p23 : lw_okq (⟨"WhoKnows", "pastAt", "(I)LWhoKnows$State;"⟩, 14) := ⟨⟨by decide +kernel, by decide +kernel⟩, List.mem_of_getElem? (i := 34) (by decide +kernel), List.mem_of_getElem? (i := 876) (by decide +kernel), List.mem_of_getElem? (i := 877) (by decide +kernel)⟩
theorem lw_p24 : lw_okq (⟨"WhoKnows$State", "leave", "(III)V"⟩, 4) := ⟨⟨by decide +kernel, by decide +kernel⟩, List.mem_of_getElem? (i := 638) (by decide +kernel), List.mem_of_getElem? (i := 910) (by decide +kernel), List.mem_of_getElem? (i := 911) (by decide +kernel)⟩
theorem lw_p25 : lw_okq (⟨"java/lang/Throwable", "fillInStackTrace", "(I)Ljava/lang/Throwable;"⟩, 6) := ⟨⟨by decide +kernel, by decide +kernel⟩, List.mem_of_getElem? (i := 1139) (by decide +kernel), List.mem_of_getElem? (i := 1137) (by decide +kernel), List.mem_of_getElem? (i := 1138) (by decide +kernel)⟩
theorem lw_p26 : lw_okq (⟨"WhoKnows$Formula", "findBegins", "()V"⟩, 4) := ⟨⟨by decide +kernel, by decide +kernel⟩, List.mem_of_getElem? (i := 115) (by decide +kernel), List.mem_of_getElem? (i := 1248) (by decide +kernel), List.mem_of_getElem? (i := 1249) (by decide +kernel)⟩
theorem lw_p27 : lw_okq (⟨"WhoKnows$Formula", "writePrefix", "(Ljava/lang/StringBuilder;LWhoKnows$Scene;I)V"⟩, 4) := ⟨⟨by decide +kernel, by decide +kernel⟩, List.mem_of_getElem? (i := 115) (by decide +kernel), List.mem_of_getElem? (i := 1280) (by decide +kernel), List.mem_of_getElem? (i := 1281) (by decide +kernel)⟩
theorem lw_p28 : lw_okq (⟨"WhoKnows", "forgetChanges", "()V"⟩, 14) := ⟨⟨by decide +kernel, by decide +kernel⟩, List.mem_of_getElem? (i := 34) (by decide +kernel), List.mem_of_getElem? (i := 1362) (by decide +kernel), List.mem_of_getElem? (i := 1363) (by decide +kernel)⟩
theorem lw_p29 : lw_okq (⟨"WhoKnows$OrderReader", "openOrder", "()LWhoKnows$Order;"⟩, 4) := ⟨⟨by decide +kernel, by decide +kernel⟩, List.mem_of_getElem? (i := 179) (by decide +kernel), List.mem_of_getElem? (i := 1379) (by decide +kernel), List.mem_of_getElem? (i := 1380) (by decide +kernel)⟩
theorem lw_p30 : lw_okq (⟨"WhoKnows$OrderReader", "readParts", "(LWhoKnows$Scene;LWhoKnows$Order;)V"⟩, 4) := ⟨⟨by decide +kernel, by decide +kernel⟩, List.mem_of_getElem? (i := 179) (by decide +kernel), List.mem_of_getElem? (i := 1398) (by decide +kernel), List.mem_of_getElem? (i := 1399) (by decide +kernel)⟩
theorem lw_p31 : lw_okq (⟨"WhoKnows$OrderReader", "readHearers", "(LWhoKnows$Scene;LWhoKnows$Order;)V"⟩, 4) := ⟨⟨by decide +kernel, by decide +kernel⟩, List.mem_of_getElem? (i := 179) (by decide +kernel), List.mem_of_getElem? (i := 1402) (by decide +kernel), List.mem_of_getElem? (i := 1403) (by decide +kernel)⟩
def lw_privs_2 : List (MethodName × Nat) := [(⟨"WhoKnows$FormulaReader", "readClose", "(LWhoKnows$Formula;)V"⟩, 6), (⟨"WhoKnows$Knowledge", "neighbours", "(I)I"⟩, 3), (⟨"WhoKnows$DescriptionReader", "readPerson", "(LWhoKnows$Scene;)V"⟩, 4), (⟨"WhoKnows$DescriptionReader", "readReal", "(LWhoKnows$Scene;)V"⟩, 4), (⟨"WhoKnows", "foretell", "(II)I"⟩, 14), (⟨"WhoKnows", "tell", "(II)I"⟩, 14), (⟨"WhoKnows", "remember", "()V"⟩, 14), (⟨"WhoKnows", "pastAt", "(I)LWhoKnows$State;"⟩, 14), (⟨"WhoKnows$State", "leave", "(III)V"⟩, 4), (⟨"java/lang/Throwable", "fillInStackTrace", "(I)Ljava/lang/Throwable;"⟩, 6), (⟨"WhoKnows$Formula", "findBegins", "()V"⟩, 4), (⟨"WhoKnows$Formula", "writePrefix", "(Ljava/lang/StringBuilder;LWhoKnows$Scene;I)V"⟩, 4), (⟨"WhoKnows", "forgetChanges", "()V"⟩, 14), (⟨"WhoKnows$OrderReader", "openOrder", "()LWhoKnows$Order;"⟩, 4), (⟨"WhoKnows$OrderReader", "readParts", "(LWhoKnows$Scene;LWhoKnows$Order;)V"⟩, 4), (⟨"WhoKnows$OrderReader", "readHearers", "(LWhoKnows$Scene;LWhoKnows$Order;)V"⟩, 4)]
theorem lw_r2 : ∀ q ∈ lw_privs_2, lw_okq q := List.forall_mem_cons.mpr ⟨lw_p16, List.forall_mem_cons.mpr ⟨lw_p17, List.forall_mem_cons.mpr ⟨lw_p18, List.forall_mem_cons.mpr ⟨lw_p19, List.forall_mem_cons.mpr ⟨lw_p20, List.forall_mem_cons.mpr ⟨lw_p21, List.forall_mem_cons.mpr ⟨lw_p22, List.forall_mem_cons.mpr ⟨lw_p23, List.forall_mem_cons.mpr ⟨lw_p24, List.forall_mem_cons.mpr ⟨lw_p25, List.forall_mem_cons.mpr ⟨lw_p26, List.forall_mem_cons.mpr ⟨lw_p27, List.forall_mem_cons.mpr ⟨lw_p28, List.forall_mem_cons.mpr ⟨lw_p29, List.forall_mem_cons.mpr ⟨lw_p30, List.forall_mem_cons.mpr ⟨lw_p31, fun _ h => absurd h List.not_mem_nil⟩⟩⟩⟩⟩⟩⟩⟩⟩⟩⟩⟩⟩⟩⟩⟩
theorem lw_p32 : lw_okq (⟨"WhoKnows", "needPerson", "(I)V"⟩, 14) := ⟨⟨by decide +kernel, by decide +kernel⟩, List.mem_of_getElem? (i := 34) (by decide +kernel), List.mem_of_getElem? (i := 1493) (by decide +kernel), List.mem_of_getElem? (i := 1494) (by decide +kernel)⟩
theorem lw_p33 : lw_okq (⟨"WhoKnows", "needWorld", "(I)V"⟩, 14) := ⟨⟨by decide +kernel, by decide +kernel⟩, List.mem_of_getElem? (i := 34) (by decide +kernel), List.mem_of_getElem? (i := 1504) (by decide +kernel), List.mem_of_getElem? (i := 1505) (by decide +kernel)⟩
theorem lw_p34 : lw_okq (⟨"WhoKnows", "needFact", "(I)V"⟩, 14) := ⟨⟨by decide +kernel, by decide +kernel⟩, List.mem_of_getElem? (i := 34) (by decide +kernel), List.mem_of_getElem? (i := 1560) (by decide +kernel), List.mem_of_getElem? (i := 1561) (by decide +kernel)⟩
theorem lw_p35 : lw_okq (⟨"WhoKnows", "needPersons", "(I)V"⟩, 14) := ⟨⟨by decide +kernel, by decide +kernel⟩, List.mem_of_getElem? (i := 34) (by decide +kernel), List.mem_of_getElem? (i := 1578) (by decide +kernel), List.mem_of_getElem? (i := 1579) (by decide +kernel)⟩
theorem lw_p36 : lw_okq (⟨"WhoKnows", "writeKind", "(II)V"⟩, 14) := ⟨⟨by decide +kernel, by decide +kernel⟩, List.mem_of_getElem? (i := 34) (by decide +kernel), List.mem_of_getElem? (i := 1666) (by decide +kernel), List.mem_of_getElem? (i := 1667) (by decide +kernel)⟩
theorem lw_p37 : lw_okq (⟨"WhoKnowsModel", "begins", "(I)V"⟩, 27) := ⟨⟨by decide +kernel, by decide +kernel⟩, List.mem_of_getElem? (i := 1678) (by decide +kernel), List.mem_of_getElem? (i := 1684) (by decide +kernel), List.mem_of_getElem? (i := 1685) (by decide +kernel)⟩
theorem lw_p38 : lw_okq (⟨"WhoKnowsModel", "persons", "()I"⟩, 27) := ⟨⟨by decide +kernel, by decide +kernel⟩, List.mem_of_getElem? (i := 1678) (by decide +kernel), List.mem_of_getElem? (i := 1691) (by decide +kernel), List.mem_of_getElem? (i := 1692) (by decide +kernel)⟩
theorem lw_p39 : lw_okq (⟨"WhoKnowsModel", "passes", "(Z)Z"⟩, 27) := ⟨⟨by decide +kernel, by decide +kernel⟩, List.mem_of_getElem? (i := 1678) (by decide +kernel), List.mem_of_getElem? (i := 1788) (by decide +kernel), List.mem_of_getElem? (i := 1789) (by decide +kernel)⟩
theorem lw_p40 : lw_okq (⟨"WhoKnowsModel", "four", "(I)V"⟩, 27) := ⟨⟨by decide +kernel, by decide +kernel⟩, List.mem_of_getElem? (i := 1678) (by decide +kernel), List.mem_of_getElem? (i := 1792) (by decide +kernel), List.mem_of_getElem? (i := 1793) (by decide +kernel)⟩
theorem lw_p41 : lw_okq (⟨"WhoKnowsModel", "startsText", "()V"⟩, 27) := ⟨⟨by decide +kernel, by decide +kernel⟩, List.mem_of_getElem? (i := 1678) (by decide +kernel), List.mem_of_getElem? (i := 1818) (by decide +kernel), List.mem_of_getElem? (i := 1819) (by decide +kernel)⟩
theorem lw_p42 : lw_okq (⟨"WhoKnowsModel", "factsLine", "()V"⟩, 27) := ⟨⟨by decide +kernel, by decide +kernel⟩, List.mem_of_getElem? (i := 1678) (by decide +kernel), List.mem_of_getElem? (i := 1822) (by decide +kernel), List.mem_of_getElem? (i := 1823) (by decide +kernel)⟩
theorem lw_p43 : lw_okq (⟨"WhoKnowsModel", "takes", "(Ljava/lang/String;)Z"⟩, 27) := ⟨⟨by decide +kernel, by decide +kernel⟩, List.mem_of_getElem? (i := 1678) (by decide +kernel), List.mem_of_getElem? (i := 1827) (by decide +kernel), List.mem_of_getElem? (i := 1828) (by decide +kernel)⟩
theorem lw_p44 : lw_okq (⟨"WhoKnowsModel", "sees", "(Ljava/lang/String;)Z"⟩, 27) := ⟨⟨by decide +kernel, by decide +kernel⟩, List.mem_of_getElem? (i := 1678) (by decide +kernel), List.mem_of_getElem? (i := 1831) (by decide +kernel), List.mem_of_getElem? (i := 1832) (by decide +kernel)⟩
theorem lw_p45 : lw_okq (⟨"WhoKnowsModel", "next", "()I"⟩, 27) := ⟨⟨by decide +kernel, by decide +kernel⟩, List.mem_of_getElem? (i := 1678) (by decide +kernel), List.mem_of_getElem? (i := 1835) (by decide +kernel), List.mem_of_getElem? (i := 1836) (by decide +kernel)⟩
theorem lw_p46 : lw_okq (⟨"WhoKnowsModel", "byteAt", "(I)I"⟩, 27) := ⟨⟨by decide +kernel, by decide +kernel⟩, List.mem_of_getElem? (i := 1678) (by decide +kernel), List.mem_of_getElem? (i := 1839) (by decide +kernel), List.mem_of_getElem? (i := 1840) (by decide +kernel)⟩
theorem lw_p47 : lw_okq (⟨"WhoKnowsModel", "must", "(ZI)V"⟩, 27) := ⟨⟨by decide +kernel, by decide +kernel⟩, List.mem_of_getElem? (i := 1678) (by decide +kernel), List.mem_of_getElem? (i := 1847) (by decide +kernel), List.mem_of_getElem? (i := 1848) (by decide +kernel)⟩
def lw_privs_3 : List (MethodName × Nat) := [(⟨"WhoKnows", "needPerson", "(I)V"⟩, 14), (⟨"WhoKnows", "needWorld", "(I)V"⟩, 14), (⟨"WhoKnows", "needFact", "(I)V"⟩, 14), (⟨"WhoKnows", "needPersons", "(I)V"⟩, 14), (⟨"WhoKnows", "writeKind", "(II)V"⟩, 14), (⟨"WhoKnowsModel", "begins", "(I)V"⟩, 27), (⟨"WhoKnowsModel", "persons", "()I"⟩, 27), (⟨"WhoKnowsModel", "passes", "(Z)Z"⟩, 27), (⟨"WhoKnowsModel", "four", "(I)V"⟩, 27), (⟨"WhoKnowsModel", "startsText", "()V"⟩, 27), (⟨"WhoKnowsModel", "factsLine", "()V"⟩, 27), (⟨"WhoKnowsModel", "takes", "(Ljava/lang/String;)Z"⟩, 27), (⟨"WhoKnowsModel", "sees", "(Ljava/lang/String;)Z"⟩, 27), (⟨"WhoKnowsModel", "next", "()I"⟩, 27), (⟨"WhoKnowsModel", "byteAt", "(I)I"⟩, 27), (⟨"WhoKnowsModel", "must", "(ZI)V"⟩, 27)]
theorem lw_r3 : ∀ q ∈ lw_privs_3, lw_okq q := List.forall_mem_cons.mpr ⟨lw_p32, List.forall_mem_cons.mpr ⟨lw_p33, List.forall_mem_cons.mpr ⟨lw_p34, List.forall_mem_cons.mpr ⟨lw_p35, List.forall_mem_cons.mpr ⟨lw_p36, List.forall_mem_cons.mpr ⟨lw_p37, List.forall_mem_cons.mpr ⟨lw_p38, List.forall_mem_cons.mpr ⟨lw_p39, List.forall_mem_cons.mpr ⟨lw_p40, List.forall_mem_cons.mpr ⟨lw_p41, List.forall_mem_cons.mpr ⟨lw_p42, List.forall_mem_cons.mpr ⟨lw_p43, List.forall_mem_cons.mpr ⟨lw_p44, List.forall_mem_cons.mpr ⟨lw_p45, List.forall_mem_cons.mpr ⟨lw_p46, List.forall_mem_cons.mpr ⟨lw_p47, fun _ h => absurd h List.not_mem_nil⟩⟩⟩⟩⟩⟩⟩⟩⟩⟩⟩⟩⟩⟩⟩⟩
theorem lw_p48 : lw_okq (⟨"WhoKnowsModel", "wrong", "(I)V"⟩, 27) := ⟨⟨by decide +kernel, by decide +kernel⟩, List.mem_of_getElem? (i := 1678) (by decide +kernel), List.mem_of_getElem? (i := 1851) (by decide +kernel), List.mem_of_getElem? (i := 1852) (by decide +kernel)⟩
theorem lw_p49 : lw_okq (⟨"WhoKnowsModel", "readsName", "(Z)I"⟩, 27) := ⟨⟨by decide +kernel, by decide +kernel⟩, List.mem_of_getElem? (i := 1678) (by decide +kernel), List.mem_of_getElem? (i := 1855) (by decide +kernel), List.mem_of_getElem? (i := 1856) (by decide +kernel)⟩
theorem lw_p50 : lw_okq (⟨"WhoKnowsModel", "isOwnWord", "()Z"⟩, 27) := ⟨⟨by decide +kernel, by decide +kernel⟩, List.mem_of_getElem? (i := 1678) (by decide +kernel), List.mem_of_getElem? (i := 1860) (by decide +kernel), List.mem_of_getElem? (i := 1861) (by decide +kernel)⟩
theorem lw_p51 : lw_okq (⟨"WhoKnowsModel", "facts", "()I"⟩, 27) := ⟨⟨by decide +kernel, by decide +kernel⟩, List.mem_of_getElem? (i := 1678) (by decide +kernel), List.mem_of_getElem? (i := 1872) (by decide +kernel), List.mem_of_getElem? (i := 1873) (by decide +kernel)⟩
theorem lw_p52 : lw_okq (⟨"WhoKnowsModel", "isNamed", "(I)Z"⟩, 27) := ⟨⟨by decide +kernel, by decide +kernel⟩, List.mem_of_getElem? (i := 1678) (by decide +kernel), List.mem_of_getElem? (i := 1876) (by decide +kernel), List.mem_of_getElem? (i := 1877) (by decide +kernel)⟩
theorem lw_p53 : lw_okq (⟨"WhoKnowsModel", "laysName", "(I)V"⟩, 27) := ⟨⟨by decide +kernel, by decide +kernel⟩, List.mem_of_getElem? (i := 1678) (by decide +kernel), List.mem_of_getElem? (i := 1880) (by decide +kernel), List.mem_of_getElem? (i := 1881) (by decide +kernel)⟩
theorem lw_p54 : lw_okq (⟨"WhoKnowsModel", "isWord", "()Z"⟩, 27) := ⟨⟨by decide +kernel, by decide +kernel⟩, List.mem_of_getElem? (i := 1678) (by decide +kernel), List.mem_of_getElem? (i := 1884) (by decide +kernel), List.mem_of_getElem? (i := 1885) (by decide +kernel)⟩
theorem lw_p55 : lw_okq (⟨"WhoKnowsModel", "readsLines", "()V"⟩, 27) := ⟨⟨by decide +kernel, by decide +kernel⟩, List.mem_of_getElem? (i := 1678) (by decide +kernel), List.mem_of_getElem? (i := 1888) (by decide +kernel), List.mem_of_getElem? (i := 1889) (by decide +kernel)⟩
theorem lw_p56 : lw_okq (⟨"WhoKnowsModel", "nextLine", "(Ljava/lang/String;)Z"⟩, 27) := ⟨⟨by decide +kernel, by decide +kernel⟩, List.mem_of_getElem? (i := 1678) (by decide +kernel), List.mem_of_getElem? (i := 1893) (by decide +kernel), List.mem_of_getElem? (i := 1894) (by decide +kernel)⟩
theorem lw_p57 : lw_okq (⟨"WhoKnowsModel", "sign", "(C)V"⟩, 27) := ⟨⟨by decide +kernel, by decide +kernel⟩, List.mem_of_getElem? (i := 1678) (by decide +kernel), List.mem_of_getElem? (i := 1897) (by decide +kernel), List.mem_of_getElem? (i := 1898) (by decide +kernel)⟩
theorem lw_p58 : lw_okq (⟨"WhoKnowsModel", "lawLine", "(I)V"⟩, 27) := ⟨⟨by decide +kernel, by decide +kernel⟩, List.mem_of_getElem? (i := 1678) (by decide +kernel), List.mem_of_getElem? (i := 1901) (by decide +kernel), List.mem_of_getElem? (i := 1902) (by decide +kernel)⟩
theorem lw_p59 : lw_okq (⟨"WhoKnowsModel", "readsFormula", "(IZ)V"⟩, 27) := ⟨⟨by decide +kernel, by decide +kernel⟩, List.mem_of_getElem? (i := 1678) (by decide +kernel), List.mem_of_getElem? (i := 1905) (by decide +kernel), List.mem_of_getElem? (i := 1906) (by decide +kernel)⟩
theorem lw_p60 : lw_okq (⟨"WhoKnowsModel", "readsAll", "()I"⟩, 27) := ⟨⟨by decide +kernel, by decide +kernel⟩, List.mem_of_getElem? (i := 1678) (by decide +kernel), List.mem_of_getElem? (i := 1909) (by decide +kernel), List.mem_of_getElem? (i := 1910) (by decide +kernel)⟩
theorem lw_p61 : lw_okq (⟨"WhoKnowsModel", "readsPart", "()I"⟩, 27) := ⟨⟨by decide +kernel, by decide +kernel⟩, List.mem_of_getElem? (i := 1678) (by decide +kernel), List.mem_of_getElem? (i := 1913) (by decide +kernel), List.mem_of_getElem? (i := 1914) (by decide +kernel)⟩
theorem lw_p62 : lw_okq (⟨"WhoKnowsModel", "readsItem", "()I"⟩, 27) := ⟨⟨by decide +kernel, by decide +kernel⟩, List.mem_of_getElem? (i := 1678) (by decide +kernel), List.mem_of_getElem? (i := 1917) (by decide +kernel), List.mem_of_getElem? (i := 1918) (by decide +kernel)⟩
theorem lw_p63 : lw_okq (⟨"WhoKnowsModel", "readsInner", "()I"⟩, 27) := ⟨⟨by decide +kernel, by decide +kernel⟩, List.mem_of_getElem? (i := 1678) (by decide +kernel), List.mem_of_getElem? (i := 1921) (by decide +kernel), List.mem_of_getElem? (i := 1922) (by decide +kernel)⟩
def lw_privs_4 : List (MethodName × Nat) := [(⟨"WhoKnowsModel", "wrong", "(I)V"⟩, 27), (⟨"WhoKnowsModel", "readsName", "(Z)I"⟩, 27), (⟨"WhoKnowsModel", "isOwnWord", "()Z"⟩, 27), (⟨"WhoKnowsModel", "facts", "()I"⟩, 27), (⟨"WhoKnowsModel", "isNamed", "(I)Z"⟩, 27), (⟨"WhoKnowsModel", "laysName", "(I)V"⟩, 27), (⟨"WhoKnowsModel", "isWord", "()Z"⟩, 27), (⟨"WhoKnowsModel", "readsLines", "()V"⟩, 27), (⟨"WhoKnowsModel", "nextLine", "(Ljava/lang/String;)Z"⟩, 27), (⟨"WhoKnowsModel", "sign", "(C)V"⟩, 27), (⟨"WhoKnowsModel", "lawLine", "(I)V"⟩, 27), (⟨"WhoKnowsModel", "readsFormula", "(IZ)V"⟩, 27), (⟨"WhoKnowsModel", "readsAll", "()I"⟩, 27), (⟨"WhoKnowsModel", "readsPart", "()I"⟩, 27), (⟨"WhoKnowsModel", "readsItem", "()I"⟩, 27), (⟨"WhoKnowsModel", "readsInner", "()I"⟩, 27)]
theorem lw_r4 : ∀ q ∈ lw_privs_4, lw_okq q := List.forall_mem_cons.mpr ⟨lw_p48, List.forall_mem_cons.mpr ⟨lw_p49, List.forall_mem_cons.mpr ⟨lw_p50, List.forall_mem_cons.mpr ⟨lw_p51, List.forall_mem_cons.mpr ⟨lw_p52, List.forall_mem_cons.mpr ⟨lw_p53, List.forall_mem_cons.mpr ⟨lw_p54, List.forall_mem_cons.mpr ⟨lw_p55, List.forall_mem_cons.mpr ⟨lw_p56, List.forall_mem_cons.mpr ⟨lw_p57, List.forall_mem_cons.mpr ⟨lw_p58, List.forall_mem_cons.mpr ⟨lw_p59, List.forall_mem_cons.mpr ⟨lw_p60, List.forall_mem_cons.mpr ⟨lw_p61, List.forall_mem_cons.mpr ⟨lw_p62, List.forall_mem_cons.mpr ⟨lw_p63, fun _ h => absurd h List.not_mem_nil⟩⟩⟩⟩⟩⟩⟩⟩⟩⟩⟩⟩⟩⟩⟩⟩
theorem lw_p64 : lw_okq (⟨"WhoKnowsModel", "readsNot", "()I"⟩, 27) := ⟨⟨by decide +kernel, by decide +kernel⟩, List.mem_of_getElem? (i := 1678) (by decide +kernel), List.mem_of_getElem? (i := 1925) (by decide +kernel), List.mem_of_getElem? (i := 1926) (by decide +kernel)⟩
theorem lw_p65 : lw_okq (⟨"WhoKnowsModel", "counts", "()V"⟩, 27) := ⟨⟨by decide +kernel, by decide +kernel⟩, List.mem_of_getElem? (i := 1678) (by decide +kernel), List.mem_of_getElem? (i := 1929) (by decide +kernel), List.mem_of_getElem? (i := 1930) (by decide +kernel)⟩
theorem lw_p66 : lw_okq (⟨"WhoKnowsModel", "made", "(III)I"⟩, 27) := ⟨⟨by decide +kernel, by decide +kernel⟩, List.mem_of_getElem? (i := 1678) (by decide +kernel), List.mem_of_getElem? (i := 1933) (by decide +kernel), List.mem_of_getElem? (i := 1934) (by decide +kernel)⟩
theorem lw_p67 : lw_okq (⟨"WhoKnowsModel", "modal", "()I"⟩, 27) := ⟨⟨by decide +kernel, by decide +kernel⟩, List.mem_of_getElem? (i := 1678) (by decide +kernel), List.mem_of_getElem? (i := 1937) (by decide +kernel), List.mem_of_getElem? (i := 1938) (by decide +kernel)⟩
theorem lw_p68 : lw_okq (⟨"WhoKnowsModel", "readsModal", "(I)I"⟩, 27) := ⟨⟨by decide +kernel, by decide +kernel⟩, List.mem_of_getElem? (i := 1678) (by decide +kernel), List.mem_of_getElem? (i := 1941) (by decide +kernel), List.mem_of_getElem? (i := 1942) (by decide +kernel)⟩
theorem lw_p69 : lw_okq (⟨"WhoKnowsModel", "known", "(Z)I"⟩, 27) := ⟨⟨by decide +kernel, by decide +kernel⟩, List.mem_of_getElem? (i := 1678) (by decide +kernel), List.mem_of_getElem? (i := 1945) (by decide +kernel), List.mem_of_getElem? (i := 1946) (by decide +kernel)⟩
theorem lw_p70 : lw_okq (⟨"WhoKnowsModel", "readsFact", "()I"⟩, 27) := ⟨⟨by decide +kernel, by decide +kernel⟩, List.mem_of_getElem? (i := 1678) (by decide +kernel), List.mem_of_getElem? (i := 1949) (by decide +kernel), List.mem_of_getElem? (i := 1950) (by decide +kernel)⟩
theorem lw_p71 : lw_okq (⟨"WhoKnowsModel", "asked", "([II)I"⟩, 27) := ⟨⟨by decide +kernel, by decide +kernel⟩, List.mem_of_getElem? (i := 1678) (by decide +kernel), List.mem_of_getElem? (i := 1953) (by decide +kernel), List.mem_of_getElem? (i := 1954) (by decide +kernel)⟩
theorem lw_p72 : lw_okq (⟨"WhoKnowsModel", "nodeIs", "(III)I"⟩, 27) := ⟨⟨by decide +kernel, by decide +kernel⟩, List.mem_of_getElem? (i := 1678) (by decide +kernel), List.mem_of_getElem? (i := 1957) (by decide +kernel), List.mem_of_getElem? (i := 1958) (by decide +kernel)⟩
theorem lw_p73 : lw_okq (⟨"WhoKnowsModel", "knownBy", "(II)I"⟩, 27) := ⟨⟨by decide +kernel, by decide +kernel⟩, List.mem_of_getElem? (i := 1678) (by decide +kernel), List.mem_of_getElem? (i := 1967) (by decide +kernel), List.mem_of_getElem? (i := 1968) (by decide +kernel)⟩
theorem lw_p74 : lw_okq (⟨"WhoKnowsModel", "isLeft", "(I)Z"⟩, 27) := ⟨⟨by decide +kernel, by decide +kernel⟩, List.mem_of_getElem? (i := 1678) (by decide +kernel), List.mem_of_getElem? (i := 1971) (by decide +kernel), List.mem_of_getElem? (i := 1972) (by decide +kernel)⟩
theorem lw_p75 : lw_okq (⟨"WhoKnowsModel", "alikeTo", "(II)I"⟩, 27) := ⟨⟨by decide +kernel, by decide +kernel⟩, List.mem_of_getElem? (i := 1678) (by decide +kernel), List.mem_of_getElem? (i := 1975) (by decide +kernel), List.mem_of_getElem? (i := 1976) (by decide +kernel)⟩
theorem lw_p76 : lw_okq (⟨"WhoKnowsModel", "thoughtBy", "(II)I"⟩, 27) := ⟨⟨by decide +kernel, by decide +kernel⟩, List.mem_of_getElem? (i := 1678) (by decide +kernel), List.mem_of_getElem? (i := 1979) (by decide +kernel), List.mem_of_getElem? (i := 1980) (by decide +kernel)⟩
theorem lw_p77 : lw_okq (⟨"WhoKnowsModel", "knownByAll", "(I)I"⟩, 27) := ⟨⟨by decide +kernel, by decide +kernel⟩, List.mem_of_getElem? (i := 1678) (by decide +kernel), List.mem_of_getElem? (i := 1983) (by decide +kernel), List.mem_of_getElem? (i := 1984) (by decide +kernel)⟩
theorem lw_p78 : lw_okq (⟨"WhoKnowsModel", "commonOf", "(I)I"⟩, 27) := ⟨⟨by decide +kernel, by decide +kernel⟩, List.mem_of_getElem? (i := 1678) (by decide +kernel), List.mem_of_getElem? (i := 1987) (by decide +kernel), List.mem_of_getElem? (i := 1988) (by decide +kernel)⟩
theorem lw_p79 : lw_okq (⟨"WhoKnowsModel", "reachedFrom", "(I)I"⟩, 27) := ⟨⟨by decide +kernel, by decide +kernel⟩, List.mem_of_getElem? (i := 1678) (by decide +kernel), List.mem_of_getElem? (i := 1991) (by decide +kernel), List.mem_of_getElem? (i := 1992) (by decide +kernel)⟩
def lw_privs_5 : List (MethodName × Nat) := [(⟨"WhoKnowsModel", "readsNot", "()I"⟩, 27), (⟨"WhoKnowsModel", "counts", "()V"⟩, 27), (⟨"WhoKnowsModel", "made", "(III)I"⟩, 27), (⟨"WhoKnowsModel", "modal", "()I"⟩, 27), (⟨"WhoKnowsModel", "readsModal", "(I)I"⟩, 27), (⟨"WhoKnowsModel", "known", "(Z)I"⟩, 27), (⟨"WhoKnowsModel", "readsFact", "()I"⟩, 27), (⟨"WhoKnowsModel", "asked", "([II)I"⟩, 27), (⟨"WhoKnowsModel", "nodeIs", "(III)I"⟩, 27), (⟨"WhoKnowsModel", "knownBy", "(II)I"⟩, 27), (⟨"WhoKnowsModel", "isLeft", "(I)Z"⟩, 27), (⟨"WhoKnowsModel", "alikeTo", "(II)I"⟩, 27), (⟨"WhoKnowsModel", "thoughtBy", "(II)I"⟩, 27), (⟨"WhoKnowsModel", "knownByAll", "(I)I"⟩, 27), (⟨"WhoKnowsModel", "commonOf", "(I)I"⟩, 27), (⟨"WhoKnowsModel", "reachedFrom", "(I)I"⟩, 27)]
theorem lw_r5 : ∀ q ∈ lw_privs_5, lw_okq q := List.forall_mem_cons.mpr ⟨lw_p64, List.forall_mem_cons.mpr ⟨lw_p65, List.forall_mem_cons.mpr ⟨lw_p66, List.forall_mem_cons.mpr ⟨lw_p67, List.forall_mem_cons.mpr ⟨lw_p68, List.forall_mem_cons.mpr ⟨lw_p69, List.forall_mem_cons.mpr ⟨lw_p70, List.forall_mem_cons.mpr ⟨lw_p71, List.forall_mem_cons.mpr ⟨lw_p72, List.forall_mem_cons.mpr ⟨lw_p73, List.forall_mem_cons.mpr ⟨lw_p74, List.forall_mem_cons.mpr ⟨lw_p75, List.forall_mem_cons.mpr ⟨lw_p76, List.forall_mem_cons.mpr ⟨lw_p77, List.forall_mem_cons.mpr ⟨lw_p78, List.forall_mem_cons.mpr ⟨lw_p79, fun _ h => absurd h List.not_mem_nil⟩⟩⟩⟩⟩⟩⟩⟩⟩⟩⟩⟩⟩⟩⟩⟩
theorem lw_p80 : lw_okq (⟨"WhoKnowsModel", "beside", "(I)I"⟩, 27) := ⟨⟨by decide +kernel, by decide +kernel⟩, List.mem_of_getElem? (i := 1678) (by decide +kernel), List.mem_of_getElem? (i := 1995) (by decide +kernel), List.mem_of_getElem? (i := 1996) (by decide +kernel)⟩
theorem lw_p81 : lw_okq (⟨"WhoKnowsModel", "personLine", "()V"⟩, 27) := ⟨⟨by decide +kernel, by decide +kernel⟩, List.mem_of_getElem? (i := 1678) (by decide +kernel), List.mem_of_getElem? (i := 2000) (by decide +kernel), List.mem_of_getElem? (i := 2001) (by decide +kernel)⟩
theorem lw_p82 : lw_okq (⟨"WhoKnowsModel", "readsFacts", "()I"⟩, 27) := ⟨⟨by decide +kernel, by decide +kernel⟩, List.mem_of_getElem? (i := 1678) (by decide +kernel), List.mem_of_getElem? (i := 2004) (by decide +kernel), List.mem_of_getElem? (i := 2005) (by decide +kernel)⟩
theorem lw_p83 : lw_okq (⟨"WhoKnowsModel", "realLine", "(I)V"⟩, 27) := ⟨⟨by decide +kernel, by decide +kernel⟩, List.mem_of_getElem? (i := 1678) (by decide +kernel), List.mem_of_getElem? (i := 2009) (by decide +kernel), List.mem_of_getElem? (i := 2010) (by decide +kernel)⟩
theorem lw_p84 : lw_okq (⟨"WhoKnowsModel", "endsText", "()Z"⟩, 27) := ⟨⟨by decide +kernel, by decide +kernel⟩, List.mem_of_getElem? (i := 1678) (by decide +kernel), List.mem_of_getElem? (i := 2013) (by decide +kernel), List.mem_of_getElem? (i := 2014) (by decide +kernel)⟩
theorem lw_p85 : lw_okq (⟨"WhoKnowsModel", "readsOrder", "()V"⟩, 27) := ⟨⟨by decide +kernel, by decide +kernel⟩, List.mem_of_getElem? (i := 1678) (by decide +kernel), List.mem_of_getElem? (i := 2024) (by decide +kernel), List.mem_of_getElem? (i := 2025) (by decide +kernel)⟩
theorem lw_p86 : lw_okq (⟨"WhoKnowsModel", "orderHere", "()I"⟩, 27) := ⟨⟨by decide +kernel, by decide +kernel⟩, List.mem_of_getElem? (i := 1678) (by decide +kernel), List.mem_of_getElem? (i := 2028) (by decide +kernel), List.mem_of_getElem? (i := 2029) (by decide +kernel)⟩
theorem lw_p87 : lw_okq (⟨"WhoKnowsModel", "readsParts", "(I)V"⟩, 27) := ⟨⟨by decide +kernel, by decide +kernel⟩, List.mem_of_getElem? (i := 1678) (by decide +kernel), List.mem_of_getElem? (i := 2037) (by decide +kernel), List.mem_of_getElem? (i := 2038) (by decide +kernel)⟩
theorem lw_p88 : lw_okq (⟨"WhoKnowsModel", "readsTold", "()I"⟩, 27) := ⟨⟨by decide +kernel, by decide +kernel⟩, List.mem_of_getElem? (i := 1678) (by decide +kernel), List.mem_of_getElem? (i := 2041) (by decide +kernel), List.mem_of_getElem? (i := 2042) (by decide +kernel)⟩
theorem lw_p89 : lw_okq (⟨"WhoKnowsModel", "keeps", "([I)V"⟩, 27) := ⟨⟨by decide +kernel, by decide +kernel⟩, List.mem_of_getElem? (i := 1678) (by decide +kernel), List.mem_of_getElem? (i := 2045) (by decide +kernel), List.mem_of_getElem? (i := 2046) (by decide +kernel)⟩
theorem lw_p90 : lw_okq (⟨"WhoKnowsModel", "doesOrder", "(I)I"⟩, 27) := ⟨⟨by decide +kernel, by decide +kernel⟩, List.mem_of_getElem? (i := 1678) (by decide +kernel), List.mem_of_getElem? (i := 2049) (by decide +kernel), List.mem_of_getElem? (i := 2050) (by decide +kernel)⟩
theorem lw_p91 : lw_okq (⟨"WhoKnowsModel", "announceNow", "([II)I"⟩, 27) := ⟨⟨by decide +kernel, by decide +kernel⟩, List.mem_of_getElem? (i := 1678) (by decide +kernel), List.mem_of_getElem? (i := 2053) (by decide +kernel), List.mem_of_getElem? (i := 2054) (by decide +kernel)⟩
theorem lw_p92 : lw_okq (⟨"WhoKnowsModel", "rules", "(I)I"⟩, 27) := ⟨⟨by decide +kernel, by decide +kernel⟩, List.mem_of_getElem? (i := 1678) (by decide +kernel), List.mem_of_getElem? (i := 2057) (by decide +kernel), List.mem_of_getElem? (i := 2058) (by decide +kernel)⟩
theorem lw_p93 : lw_okq (⟨"WhoKnowsModel", "grows", "(II)V"⟩, 27) := ⟨⟨by decide +kernel, by decide +kernel⟩, List.mem_of_getElem? (i := 1678) (by decide +kernel), List.mem_of_getElem? (i := 2061) (by decide +kernel), List.mem_of_getElem? (i := 2062) (by decide +kernel)⟩
theorem lw_p94 : lw_okq (⟨"WhoKnowsModel", "notes", "(III)V"⟩, 27) := ⟨⟨by decide +kernel, by decide +kernel⟩, List.mem_of_getElem? (i := 1678) (by decide +kernel), List.mem_of_getElem? (i := 2065) (by decide +kernel), List.mem_of_getElem? (i := 2066) (by decide +kernel)⟩
theorem lw_p95 : lw_okq (⟨"WhoKnowsModel", "sayNow", "(I[II)I"⟩, 27) := ⟨⟨by decide +kernel, by decide +kernel⟩, List.mem_of_getElem? (i := 1678) (by decide +kernel), List.mem_of_getElem? (i := 2070) (by decide +kernel), List.mem_of_getElem? (i := 2071) (by decide +kernel)⟩
def lw_privs_6 : List (MethodName × Nat) := [(⟨"WhoKnowsModel", "beside", "(I)I"⟩, 27), (⟨"WhoKnowsModel", "personLine", "()V"⟩, 27), (⟨"WhoKnowsModel", "readsFacts", "()I"⟩, 27), (⟨"WhoKnowsModel", "realLine", "(I)V"⟩, 27), (⟨"WhoKnowsModel", "endsText", "()Z"⟩, 27), (⟨"WhoKnowsModel", "readsOrder", "()V"⟩, 27), (⟨"WhoKnowsModel", "orderHere", "()I"⟩, 27), (⟨"WhoKnowsModel", "readsParts", "(I)V"⟩, 27), (⟨"WhoKnowsModel", "readsTold", "()I"⟩, 27), (⟨"WhoKnowsModel", "keeps", "([I)V"⟩, 27), (⟨"WhoKnowsModel", "doesOrder", "(I)I"⟩, 27), (⟨"WhoKnowsModel", "announceNow", "([II)I"⟩, 27), (⟨"WhoKnowsModel", "rules", "(I)I"⟩, 27), (⟨"WhoKnowsModel", "grows", "(II)V"⟩, 27), (⟨"WhoKnowsModel", "notes", "(III)V"⟩, 27), (⟨"WhoKnowsModel", "sayNow", "(I[II)I"⟩, 27)]
theorem lw_r6 : ∀ q ∈ lw_privs_6, lw_okq q := List.forall_mem_cons.mpr ⟨lw_p80, List.forall_mem_cons.mpr ⟨lw_p81, List.forall_mem_cons.mpr ⟨lw_p82, List.forall_mem_cons.mpr ⟨lw_p83, List.forall_mem_cons.mpr ⟨lw_p84, List.forall_mem_cons.mpr ⟨lw_p85, List.forall_mem_cons.mpr ⟨lw_p86, List.forall_mem_cons.mpr ⟨lw_p87, List.forall_mem_cons.mpr ⟨lw_p88, List.forall_mem_cons.mpr ⟨lw_p89, List.forall_mem_cons.mpr ⟨lw_p90, List.forall_mem_cons.mpr ⟨lw_p91, List.forall_mem_cons.mpr ⟨lw_p92, List.forall_mem_cons.mpr ⟨lw_p93, List.forall_mem_cons.mpr ⟨lw_p94, List.forall_mem_cons.mpr ⟨lw_p95, fun _ h => absurd h List.not_mem_nil⟩⟩⟩⟩⟩⟩⟩⟩⟩⟩⟩⟩⟩⟩⟩⟩
theorem lw_p96 : lw_okq (⟨"WhoKnowsModel", "whisperNow", "(I[II)I"⟩, 27) := ⟨⟨by decide +kernel, by decide +kernel⟩, List.mem_of_getElem? (i := 1678) (by decide +kernel), List.mem_of_getElem? (i := 2074) (by decide +kernel), List.mem_of_getElem? (i := 2075) (by decide +kernel)⟩
theorem lw_p97 : lw_okq (⟨"WhoKnowsModel", "parts", "(II)I"⟩, 27) := ⟨⟨by decide +kernel, by decide +kernel⟩, List.mem_of_getElem? (i := 1678) (by decide +kernel), List.mem_of_getElem? (i := 2078) (by decide +kernel), List.mem_of_getElem? (i := 2079) (by decide +kernel)⟩
theorem lw_p98 : lw_okq (⟨"WhoKnowsModel", "partedBy", "(II)I"⟩, 27) := ⟨⟨by decide +kernel, by decide +kernel⟩, List.mem_of_getElem? (i := 1678) (by decide +kernel), List.mem_of_getElem? (i := 2082) (by decide +kernel), List.mem_of_getElem? (i := 2083) (by decide +kernel)⟩
theorem lw_p99 : lw_okq (⟨"WhoKnowsModel", "showNow", "(II)I"⟩, 27) := ⟨⟨by decide +kernel, by decide +kernel⟩, List.mem_of_getElem? (i := 1678) (by decide +kernel), List.mem_of_getElem? (i := 2086) (by decide +kernel), List.mem_of_getElem? (i := 2087) (by decide +kernel)⟩
theorem lw_p100 : lw_okq (⟨"WhoKnowsModel", "roundNow", "(I)I"⟩, 27) := ⟨⟨by decide +kernel, by decide +kernel⟩, List.mem_of_getElem? (i := 1678) (by decide +kernel), List.mem_of_getElem? (i := 2090) (by decide +kernel), List.mem_of_getElem? (i := 2091) (by decide +kernel)⟩
theorem lw_p101 : lw_okq (⟨"WhoKnowsModel", "knowersOf", "(II)I"⟩, 27) := ⟨⟨by decide +kernel, by decide +kernel⟩, List.mem_of_getElem? (i := 1678) (by decide +kernel), List.mem_of_getElem? (i := 2094) (by decide +kernel), List.mem_of_getElem? (i := 2095) (by decide +kernel)⟩
theorem lw_p102 : lw_okq (⟨"WhoKnowsModel", "depthOf", "([II)I"⟩, 27) := ⟨⟨by decide +kernel, by decide +kernel⟩, List.mem_of_getElem? (i := 1678) (by decide +kernel), List.mem_of_getElem? (i := 2107) (by decide +kernel), List.mem_of_getElem? (i := 2108) (by decide +kernel)⟩
theorem lw_p103 : lw_okq (⟨"WhoKnowsModel", "isPerson", "(I)Z"⟩, 27) := ⟨⟨by decide +kernel, by decide +kernel⟩, List.mem_of_getElem? (i := 1678) (by decide +kernel), List.mem_of_getElem? (i := 2116) (by decide +kernel), List.mem_of_getElem? (i := 2117) (by decide +kernel)⟩
theorem lw_p104 : lw_okq (⟨"WhoKnowsModel", "isFact", "(I)Z"⟩, 27) := ⟨⟨by decide +kernel, by decide +kernel⟩, List.mem_of_getElem? (i := 1678) (by decide +kernel), List.mem_of_getElem? (i := 2120) (by decide +kernel), List.mem_of_getElem? (i := 2121) (by decide +kernel)⟩
theorem lw_p105 : lw_okq (⟨"WhoKnowsModel", "isWorld", "(I)Z"⟩, 27) := ⟨⟨by decide +kernel, by decide +kernel⟩, List.mem_of_getElem? (i := 1678) (by decide +kernel), List.mem_of_getElem? (i := 2136) (by decide +kernel), List.mem_of_getElem? (i := 2137) (by decide +kernel)⟩
theorem lw_p106 : lw_okq (⟨"WhoKnowsModel", "isFirstOf", "(II)Z"⟩, 27) := ⟨⟨by decide +kernel, by decide +kernel⟩, List.mem_of_getElem? (i := 1678) (by decide +kernel), List.mem_of_getElem? (i := 2144) (by decide +kernel), List.mem_of_getElem? (i := 2145) (by decide +kernel)⟩
theorem lw_p107 : lw_okq (⟨"WhoKnowsModel", "question", "()I"⟩, 27) := ⟨⟨by decide +kernel, by decide +kernel⟩, List.mem_of_getElem? (i := 1678) (by decide +kernel), List.mem_of_getElem? (i := 2164) (by decide +kernel), List.mem_of_getElem? (i := 2165) (by decide +kernel)⟩
theorem lw_p108 : lw_okq (⟨"WhoKnowsModel", "knowersNow", "()I"⟩, 27) := ⟨⟨by decide +kernel, by decide +kernel⟩, List.mem_of_getElem? (i := 1678) (by decide +kernel), List.mem_of_getElem? (i := 2200) (by decide +kernel), List.mem_of_getElem? (i := 2201) (by decide +kernel)⟩
theorem lw_p109 : lw_okq (⟨"WhoKnowsModel", "tries", "()V"⟩, 27) := ⟨⟨by decide +kernel, by decide +kernel⟩, List.mem_of_getElem? (i := 1678) (by decide +kernel), List.mem_of_getElem? (i := 2208) (by decide +kernel), List.mem_of_getElem? (i := 2209) (by decide +kernel)⟩
theorem lw_p110 : lw_okq (⟨"WhoKnowsModel", "back", "(I)I"⟩, 27) := ⟨⟨by decide +kernel, by decide +kernel⟩, List.mem_of_getElem? (i := 1678) (by decide +kernel), List.mem_of_getElem? (i := 2212) (by decide +kernel), List.mem_of_getElem? (i := 2213) (by decide +kernel)⟩
theorem lw_p111 : lw_okq (⟨"WhoKnowsModel", "arePersons", "(I)Z"⟩, 27) := ⟨⟨by decide +kernel, by decide +kernel⟩, List.mem_of_getElem? (i := 1678) (by decide +kernel), List.mem_of_getElem? (i := 2224) (by decide +kernel), List.mem_of_getElem? (i := 2225) (by decide +kernel)⟩
def lw_privs_7 : List (MethodName × Nat) := [(⟨"WhoKnowsModel", "whisperNow", "(I[II)I"⟩, 27), (⟨"WhoKnowsModel", "parts", "(II)I"⟩, 27), (⟨"WhoKnowsModel", "partedBy", "(II)I"⟩, 27), (⟨"WhoKnowsModel", "showNow", "(II)I"⟩, 27), (⟨"WhoKnowsModel", "roundNow", "(I)I"⟩, 27), (⟨"WhoKnowsModel", "knowersOf", "(II)I"⟩, 27), (⟨"WhoKnowsModel", "depthOf", "([II)I"⟩, 27), (⟨"WhoKnowsModel", "isPerson", "(I)Z"⟩, 27), (⟨"WhoKnowsModel", "isFact", "(I)Z"⟩, 27), (⟨"WhoKnowsModel", "isWorld", "(I)Z"⟩, 27), (⟨"WhoKnowsModel", "isFirstOf", "(II)Z"⟩, 27), (⟨"WhoKnowsModel", "question", "()I"⟩, 27), (⟨"WhoKnowsModel", "knowersNow", "()I"⟩, 27), (⟨"WhoKnowsModel", "tries", "()V"⟩, 27), (⟨"WhoKnowsModel", "back", "(I)I"⟩, 27), (⟨"WhoKnowsModel", "arePersons", "(I)Z"⟩, 27)]
theorem lw_r7 : ∀ q ∈ lw_privs_7, lw_okq q := List.forall_mem_cons.mpr ⟨lw_p96, List.forall_mem_cons.mpr ⟨lw_p97, List.forall_mem_cons.mpr ⟨lw_p98, List.forall_mem_cons.mpr ⟨lw_p99, List.forall_mem_cons.mpr ⟨lw_p100, List.forall_mem_cons.mpr ⟨lw_p101, List.forall_mem_cons.mpr ⟨lw_p102, List.forall_mem_cons.mpr ⟨lw_p103, List.forall_mem_cons.mpr ⟨lw_p104, List.forall_mem_cons.mpr ⟨lw_p105, List.forall_mem_cons.mpr ⟨lw_p106, List.forall_mem_cons.mpr ⟨lw_p107, List.forall_mem_cons.mpr ⟨lw_p108, List.forall_mem_cons.mpr ⟨lw_p109, List.forall_mem_cons.mpr ⟨lw_p110, List.forall_mem_cons.mpr ⟨lw_p111, fun _ h => absurd h List.not_mem_nil⟩⟩⟩⟩⟩⟩⟩⟩⟩⟩⟩⟩⟩⟩⟩⟩
theorem lw_p112 : lw_okq (⟨"WhoKnowsModel", "everybody", "()I"⟩, 27) := ⟨⟨by decide +kernel, by decide +kernel⟩, List.mem_of_getElem? (i := 1678) (by decide +kernel), List.mem_of_getElem? (i := 2228) (by decide +kernel), List.mem_of_getElem? (i := 2229) (by decide +kernel)⟩
theorem lw_p113 : lw_okq (⟨"WhoKnowsModel", "roundsNow", "(I)I"⟩, 27) := ⟨⟨by decide +kernel, by decide +kernel⟩, List.mem_of_getElem? (i := 1678) (by decide +kernel), List.mem_of_getElem? (i := 2236) (by decide +kernel), List.mem_of_getElem? (i := 2237) (by decide +kernel)⟩
theorem lw_p114 : lw_okq (⟨"WhoKnowsModel", "agreeing", "(I)I"⟩, 27) := ⟨⟨by decide +kernel, by decide +kernel⟩, List.mem_of_getElem? (i := 1678) (by decide +kernel), List.mem_of_getElem? (i := 2248) (by decide +kernel), List.mem_of_getElem? (i := 2249) (by decide +kernel)⟩
theorem lw_p115 : lw_okq (⟨"WhoKnowsModel", "tried", "(Z)Z"⟩, 27) := ⟨⟨by decide +kernel, by decide +kernel⟩, List.mem_of_getElem? (i := 1678) (by decide +kernel), List.mem_of_getElem? (i := 2277) (by decide +kernel), List.mem_of_getElem? (i := 2278) (by decide +kernel)⟩
theorem lw_p116 : lw_okq (⟨"WhoKnowsModel", "done", "(I)I"⟩, 27) := ⟨⟨by decide +kernel, by decide +kernel⟩, List.mem_of_getElem? (i := 1678) (by decide +kernel), List.mem_of_getElem? (i := 2281) (by decide +kernel), List.mem_of_getElem? (i := 2282) (by decide +kernel)⟩
theorem lw_p117 : lw_okq (⟨"WhoKnowsModel", "writesText", "(Ljava/lang/String;)V"⟩, 27) := ⟨⟨by decide +kernel, by decide +kernel⟩, List.mem_of_getElem? (i := 1678) (by decide +kernel), List.mem_of_getElem? (i := 2306) (by decide +kernel), List.mem_of_getElem? (i := 2307) (by decide +kernel)⟩
theorem lw_p118 : lw_okq (⟨"WhoKnowsModel", "writes", "(I)V"⟩, 27) := ⟨⟨by decide +kernel, by decide +kernel⟩, List.mem_of_getElem? (i := 1678) (by decide +kernel), List.mem_of_getElem? (i := 2310) (by decide +kernel), List.mem_of_getElem? (i := 2311) (by decide +kernel)⟩
theorem lw_p119 : lw_okq (⟨"WhoKnowsModel", "writesName", "(I)V"⟩, 27) := ⟨⟨by decide +kernel, by decide +kernel⟩, List.mem_of_getElem? (i := 1678) (by decide +kernel), List.mem_of_getElem? (i := 2314) (by decide +kernel), List.mem_of_getElem? (i := 2315) (by decide +kernel)⟩
theorem lw_p120 : lw_okq (⟨"WhoKnowsModel", "writesKind", "(II)V"⟩, 27) := ⟨⟨by decide +kernel, by decide +kernel⟩, List.mem_of_getElem? (i := 1678) (by decide +kernel), List.mem_of_getElem? (i := 2322) (by decide +kernel), List.mem_of_getElem? (i := 2323) (by decide +kernel)⟩
theorem lw_p121 : lw_okq (⟨"WhoKnowsModel", "writesNumber", "(I)V"⟩, 27) := ⟨⟨by decide +kernel, by decide +kernel⟩, List.mem_of_getElem? (i := 1678) (by decide +kernel), List.mem_of_getElem? (i := 2326) (by decide +kernel), List.mem_of_getElem? (i := 2327) (by decide +kernel)⟩
theorem lw_p122 : lw_okq (⟨"WhoKnowsModel", "writesNode", "(I)V"⟩, 27) := ⟨⟨by decide +kernel, by decide +kernel⟩, List.mem_of_getElem? (i := 1678) (by decide +kernel), List.mem_of_getElem? (i := 2334) (by decide +kernel), List.mem_of_getElem? (i := 2335) (by decide +kernel)⟩
theorem lw_p123 : lw_okq (⟨"WhoKnowsModel", "writesAhead", "(Ljava/lang/String;II)V"⟩, 27) := ⟨⟨by decide +kernel, by decide +kernel⟩, List.mem_of_getElem? (i := 1678) (by decide +kernel), List.mem_of_getElem? (i := 2339) (by decide +kernel), List.mem_of_getElem? (i := 2340) (by decide +kernel)⟩
theorem lw_p124 : lw_okq (⟨"WhoKnowsModel", "writesTwo", "(IILjava/lang/String;)V"⟩, 27) := ⟨⟨by decide +kernel, by decide +kernel⟩, List.mem_of_getElem? (i := 1678) (by decide +kernel), List.mem_of_getElem? (i := 2344) (by decide +kernel), List.mem_of_getElem? (i := 2345) (by decide +kernel)⟩
def lw_privs_8 : List (MethodName × Nat) := [(⟨"WhoKnowsModel", "everybody", "()I"⟩, 27), (⟨"WhoKnowsModel", "roundsNow", "(I)I"⟩, 27), (⟨"WhoKnowsModel", "agreeing", "(I)I"⟩, 27), (⟨"WhoKnowsModel", "tried", "(Z)Z"⟩, 27), (⟨"WhoKnowsModel", "done", "(I)I"⟩, 27), (⟨"WhoKnowsModel", "writesText", "(Ljava/lang/String;)V"⟩, 27), (⟨"WhoKnowsModel", "writes", "(I)V"⟩, 27), (⟨"WhoKnowsModel", "writesName", "(I)V"⟩, 27), (⟨"WhoKnowsModel", "writesKind", "(II)V"⟩, 27), (⟨"WhoKnowsModel", "writesNumber", "(I)V"⟩, 27), (⟨"WhoKnowsModel", "writesNode", "(I)V"⟩, 27), (⟨"WhoKnowsModel", "writesAhead", "(Ljava/lang/String;II)V"⟩, 27), (⟨"WhoKnowsModel", "writesTwo", "(IILjava/lang/String;)V"⟩, 27)]
theorem lw_r8 : ∀ q ∈ lw_privs_8, lw_okq q := List.forall_mem_cons.mpr ⟨lw_p112, List.forall_mem_cons.mpr ⟨lw_p113, List.forall_mem_cons.mpr ⟨lw_p114, List.forall_mem_cons.mpr ⟨lw_p115, List.forall_mem_cons.mpr ⟨lw_p116, List.forall_mem_cons.mpr ⟨lw_p117, List.forall_mem_cons.mpr ⟨lw_p118, List.forall_mem_cons.mpr ⟨lw_p119, List.forall_mem_cons.mpr ⟨lw_p120, List.forall_mem_cons.mpr ⟨lw_p121, List.forall_mem_cons.mpr ⟨lw_p122, List.forall_mem_cons.mpr ⟨lw_p123, List.forall_mem_cons.mpr ⟨lw_p124, fun _ h => absurd h List.not_mem_nil⟩⟩⟩⟩⟩⟩⟩⟩⟩⟩⟩⟩⟩
def lw_privs : List (MethodName × Nat) := lw_privs_1 ++ (lw_privs_2 ++ (lw_privs_3 ++ (lw_privs_4 ++ (lw_privs_5 ++ (lw_privs_6 ++ (lw_privs_7 ++ (lw_privs_8)))))))
def lw_tbl : List Cond := k2_sels lw_privs ++ tables_1
theorem lw_privs_ok : ∀ q ∈ lw_privs, lw_okq q := by
  show ∀ q ∈ lw_privs_1 ++ (lw_privs_2 ++ (lw_privs_3 ++ (lw_privs_4 ++ (lw_privs_5 ++ (lw_privs_6 ++ (lw_privs_7 ++ (lw_privs_8))))))), lw_okq q
  exact List.forall_mem_append.mpr ⟨lw_r1, List.forall_mem_append.mpr ⟨lw_r2, List.forall_mem_append.mpr ⟨lw_r3, List.forall_mem_append.mpr ⟨lw_r4, List.forall_mem_append.mpr ⟨lw_r5, List.forall_mem_append.mpr ⟨lw_r6, List.forall_mem_append.mpr ⟨lw_r7, lw_r8⟩⟩⟩⟩⟩⟩⟩
/-- the streams that the claim lets the run draw from -/
abbrev lw_cs : List Choice := [Jvm.Choice.named "NaN.bits"]
theorem lw_bits : nanBits ∈ lw_cs := by first | decide | exact List.mem_cons_self | simp [lw_cs, nanBits]
end
section
/-! ===== BEGIN words of one list among another's, by their places ===== -/
theorem goodIn_r {big : List Cond} (ws : List Cond) (ps : List Nat) (hp : ws = ps.filterMap (fun i => big[i]?)) (h : ws.all goodWord = true) : GoodIn big ws := by
  intro w hw
  have h1 := List.all_eq_true.mp h w hw
  rw [hp] at hw
  obtain ⟨i, -, hi⟩ := List.mem_filterMap.mp hw
  have hm : w ∈ big := by first | exact List.mem_of_getElem? hi | exact List.getElem?_mem hi
  exact ⟨hm, good_of_word h1⟩
theorem goodIn_app {big a b : List Cond} (ha : GoodIn big a) (hb : GoodIn big b) : GoodIn big (a ++ b) := fun w h => (List.mem_append.mp h).elim (ha w) (hb w)
theorem goodIn_ca {big a b : List Cond} {c : Cond} (ha : GoodIn big (c :: a)) (hb : GoodIn big b) : GoodIn big (c :: (a ++ b)) := fun w h => (List.mem_cons.mp h).elim (fun e => ha w (List.mem_cons.mpr (Or.inl e))) (fun h => (List.mem_append.mp h).elim (fun h => ha w (List.mem_cons.mpr (Or.inr h))) (hb w))
theorem goodIn_sub {big ws : List Cond} (hm : ∀ w ∈ ws, w ∈ big) (h : ws.all goodWord = true) : GoodIn big ws := fun w hw => ⟨hm w hw, good_of_word (List.all_eq_true.mp h w hw)⟩
/-! ===== END ===== -/
/-! ===== BEGIN exceptions that leave a method, and their catching by the caller (launches without stack traces) ===== -/
section VXA
/-! The laws vx_back, vx_callV, vx_callS, vx_callSW, vx_throw0, vx_throwS follow proofs of the library, with one case more: JvmDerived/Free/Laws.lean (Back.of_free), Shelf42/LK1.lean (callV, callS), Shelf/KitTraced.lean (throwNew0V, throwNewS). -/
/-- where a method has thrown q: the class by its name, the cell, what was written, the world -/
def vx_T (XC : String → State → State → Prop) (st : State) (q : Addr) (t : State) (mc ms : Nat) (free : Addr → Prop) : Prop :=
  ∃ (E : String) (ce : Cell) (L : List Loc), XC E st t ∧ t.heap[q]? = some ce ∧ ce.vm = .none ∧ st.vm.findClass E = some ce.cls ∧ st.WarmedH t.vm ∧ st.sameButNew ({ t with vm := st.vm } : State) L mc ms ∧ ∀ z ∈ L, free z.base
def vx_Q (Qc : Array Value → State → Outcome → State → Prop) (XC : String → State → State → Prop) (mc ms : Nat) (free : Addr → Prop) : Array Value → State → Outcome → State → Prop := fun a st o t =>
  (Qc a st o t ∧ ∃ L, FrameEnd st o t L mc ms ∧ ∀ q ∈ L, free q.base) ∨ ∃ q, o = .threw q ∧ vx_T XC st q t mc ms free
/-- a callee that returns or throws -/
def vx_Met (l : Launch) (y : MethodName) (ws : List Cond) (rm : Room) (Pc : Array Value → State → Prop) (Qc : Array Value → State → Outcome → State → Prop) (XC : String → State → State → Prop) (mc ms : Nat) (free : Addr → Prop) : Prop :=
  MetFree l y (headSpec ws rm) Pc (fun _ _ _ _ _ => True) (vx_Q Qc XC mc ms free)
def vx_Post (XC : String → State → State → Prop) (mc ms : Nat) (free : Addr → Prop) : Pt → Array Value → Addr → Pt → Prop := fun A a q B =>
  ∃ (g : JFrame) (mk : MethodId) (t : State) (L : List Loc) (E : String) (ce : Cell), B.U.heap = t.heap ∧ B.U.vm = t.vm ∧ XC E (A.U.calling g mk a) t ∧ t.heap[q]? = some ce ∧ ce.vm = .none ∧ A.U.vm.findClass E = some ce.cls ∧ B.locs = A.locs ++ L ∧ (∀ z ∈ L, free z.base) ∧ B.cells = A.cells + mc ∧ B.slots = A.slots + ms
def vx_Back (l : Launch) (R : Room) (p : Program) (e : Env) (below : List Frame) (s : State) (sargs : Array Value) (y : MethodName) (len W9 : Nat)
    (Pre : Pt → Array Value → Prop) (Post : Pt → Array Value → Option Value → Pt → Prop) (PostX : Pt → Array Value → Addr → Pt → Prop) : Prop :=
  ∀ (m : MethodId) (meth : Method) (c : Code) (A : Pt) (g : JFrame) (ig : Instr) (mk : MethodId) (a : Array Value),
    Stand p l e R s m sargs below meth c A.U A.locs A.cells A.slots → g.method = m → g.locals.size = c.maxLocals → decode c.code g.pc = .ok (ig, len) →
    2 * g.monitorRoom + (g.stack.map fun v => v.category).sum ≤ W9 → A.U.methodNamed? y = some mk → Pre A a →
    (∃ (v : Option Value) (B : Pt), Stand p l e R s m sargs below meth c B.U B.locs B.cells B.slots ∧ Post A a v B ∧
      Steps p.tables e below (doInvoke e (A.U.setTop g) [] mk a).1 (B.U.setTop { g with pc := g.pc + len, stack := v.toList ++ g.stack })) ∨
    (∃ (q : Addr) (B : Pt), Stand p l e R s m sargs below meth c B.U B.locs B.cells B.slots ∧ PostX A a q B ∧
      Steps p.tables e below (doInvoke e (A.U.setTop g) [] mk a).1 ((B.U.setTop g).pushFrame (.throwing q)))
section Payer
variable {l : Launch} {R : Room} {p : Program} {e : Env} {below : List Frame} {s : State} {sargs : Array Value} {y : MethodName} {len W9 : Nat}
theorem vx_back {ws : List Cond} {rm : Room} {Pc : Array Value → State → Prop} {Qc : Array Value → State → Outcome → State → Prop} {XC : String → State → State → Prop} {mc ms : Nat} {free : Addr → Prop} {bytes : ByteArray} {maxL : Nat} {ret : Option FieldType}
    (hM : vx_Met l y ws rm Pc Qc XC mc ms free) (hblind : FrameBlind Pc) (hrc : rm.cells = mc) (hrs : rm.slots = ms)
    (hframes : rm.frames + 1 ≤ R.frames) (hlocals : W9 + (maxL + 11) + rm.locals ≤ R.locals)
    (hws : ∀ w ∈ ws, ∀ a' U, s.WarmedH U.vm → w.before a' U = true) (hcode : Cond.code y bytes maxL ret ∈ ws) (hinit : ∀ a' U, s.WarmedH U.vm → (Cond.initialized y.cls).before a' U = true) :
    vx_Back l R p e below s sargs y len W9 (PreOf R mc ms Pc) (PostOf Qc mc ms free) (vx_Post XC mc ms free) := by
  intro m meth c A g ig mk a X hg hsize hdg hW hn hp
  have h1 : (headSpec ws rm).pre.before a A.U = true := atoms_intro fun w hw => hws w hw _ _ X.warmed
  have h2 : (Cond.code y bytes maxL ret).before a A.U = true := hws _ hcode _ _ X.warmed
  have h3 : (Cond.initialized y.cls).before a A.U = true := hinit _ _ X.warmed
  have h4 : A.cells + (headSpec ws rm).room.cells ≤ R.cells := by rw [show (headSpec ws rm).room.cells = mc from hrc]; exact hp.1
  have h5 : A.slots + (headSpec ws rm).room.slots ≤ R.slots := by rw [show (headSpec ws rm).room.slots = ms from hrs]; exact hp.2.1
  have hPc : Pc a (A.U.calling g mk a) := hblind _ _ _ _ hp.2.2
  obtain ⟨U, Ls, c0, s0⟩ := A
  dsimp only [Pt.U, Pt.locs, Pt.cells, Pt.slots] at h1 h2 h3 h4 h5 X hn hPc ⊢
  obtain ⟨methY, cY, hmY, hcY, -, hlY, -, -, -, -⟩ := Cond.code_spec hn h2
  obtain ⟨kY, hkY, -⟩ := className_of_methodNamed hn
  have hinitY : kY.init = .initialized := Cond.initialized_spec (findClass_of_methodNamed hn) hkY h3
  have h : At U g.method c below := by rw [hg]; exact X.here
  have hlocals9 : W9 + (maxL + 11) + (headSpec ws rm).room.locals ≤ R.locals := hlocals
  have happ : (headSpec ws rm).appliesLoose y e.platform (U.calling g mk a) = true :=
    Spec.appliesLoose_calling (g := g) h hdg hn hkY hinitY
      (X.room_calling (g := g) (R' := (headSpec ws rm).room) hsize hmY hcY hframes (by rw [hlY]; omega) h4 h5) h1
  obtain ⟨mid, hmid⟩ := h.above
  have hfr : (U.setTop g).frames = (.java g :: mid) ++ below := by rw [State.frames_setTop' g h.top, hmid]; rfl
  obtain ⟨o, s₂, hsteps, -, hend, hq⟩ := Steps.callFree hM p X.admits X.cas X.clock (acts := []) hfr happ hPc trivial
  have hq' : vx_Q Qc XC mc ms free a (U.calling g mk a) o s₂ := hq
  rw [State.frames_setTop' g h.top] at hend
  obtain ⟨g₀, hg0⟩ := Option.isSome_iff_exists.mp h.top
  obtain ⟨r, hr⟩ := State.topJava?_eq_some.mp hg0
  have hr' : (({ U with heap := s₂.heap, slotsUsed := s₂.slotsUsed } : State).setVm s₂.vm).frames = .java g₀ :: r := hr
  rcases hq' with ⟨hqc, L, hfe, hL⟩ | ⟨q, rfl, E, ce, L, hx, hce, hcv, hcl, hW₂, hsm, hL⟩
  · obtain ⟨⟨v, rfl⟩, hW₂, e2, q2, q3, q4, q5, q6⟩ := id hfe
    have e3 : s₂ = ({ (U.calling g mk a).setFrames s₂.frames with heap := s₂.heap, slotsUsed := s₂.slotsUsed } : State).setVm s₂.vm := by
      have : s₂ = ({ s₂ with vm := (U.calling g mk a).vm } : State).setVm s₂.vm := rfl
      rw [e2] at this
      exact this
    obtain ⟨c₂, i₂, len₂, hc₂, hd₂, hf₂⟩ := hend
    have hW' : U.WarmedH s₂.vm := hW₂
    have hcc : c₂ = c := by
      have h1 : s₂.code? g.method = U.code? g.method := by
        rw [State.code?_eq, State.code?_eq, hW'.alike.method?]
      exact Option.some.inj (hc₂.symm.trans (h1.trans h.code))
    subst hcc
    have hlen : len₂ = len := by rw [hdg] at hd₂; cases hd₂; rfl
    subst hlen
    have hs₂ : s₂ = (({ U with heap := s₂.heap, slotsUsed := s₂.slotsUsed } : State).setVm s₂.vm).setTop { g with pc := g.pc + len₂, stack := v.toList ++ g.stack } := by
      refine e3.trans ?_
      rw [hf₂, State.calling_eq h.top, State.setFrames_setFrames, State.setTop_of_frames _ hr', hr]
      rfl
    have hsame : U.sameButNew ({ U with heap := s₂.heap, slotsUsed := s₂.slotsUsed } : State) L mc ms := by
      refine ⟨?_, q2, q3, q4, q5, q6⟩
      obtain ⟨t, ht, -⟩ := State.frames_cons hr
      show ({ U with heap := s₂.heap, slotsUsed := s₂.slotsUsed } : State) = { U.setFrames U.frames with heap := s₂.heap, slotsUsed := s₂.slotsUsed }
      rw [State.setFrames_self ht]
    subst hg
    refine Or.inl ⟨v, ⟨(({ U with heap := s₂.heap, slotsUsed := s₂.slotsUsed } : State).setVm s₂.vm), Ls ++ L, c0 + mc, s0 + ms⟩,
      ⟨X.admits, X.cas, X.clock, X.frames, X.room, X.hears, X.method, X.code, (X.here.setHeapUsed s₂.heap s₂.slotsUsed).setVm hW'.alike, X.tail, State.WarmedH.trans X.warmed hW', X.limits, X.bytes, X.same.trans (hsame.setVm s.vm)⟩,
      ⟨g, mk, s₂, L, rfl, rfl, hqc, rfl, hL, rfl, rfl⟩, ?_⟩
    show Steps p.tables e below _ ((({ U with heap := s₂.heap, slotsUsed := s₂.slotsUsed } : State).setVm s₂.vm).setTop { g with pc := g.pc + len₂, stack := v.toList ++ g.stack })
    rw [← hs₂]
    exact hsteps
  · obtain ⟨e2, q2, q3, q4, q5, q6⟩ := id hsm
    have e3 : s₂ = ({ (U.calling g mk a).setFrames s₂.frames with heap := s₂.heap, slotsUsed := s₂.slotsUsed } : State).setVm s₂.vm := by
      have : s₂ = ({ s₂ with vm := (U.calling g mk a).vm } : State).setVm s₂.vm := rfl
      rw [e2] at this
      exact this
    have hf₂ : s₂.frames = .throwing q :: .java g :: U.frames.tail := hend
    have hW' : U.WarmedH s₂.vm := hW₂
    have hs₂ : s₂ = ((({ U with heap := s₂.heap, slotsUsed := s₂.slotsUsed } : State).setVm s₂.vm).setTop g).pushFrame (.throwing q) := by
      refine e3.trans ?_
      rw [hf₂, State.calling_eq h.top, State.setFrames_setFrames, State.pushFrame, State.frames_setTop _ hr', State.setTop_of_frames _ hr', State.setFrames_setFrames, hr]
      rfl
    have hsame : U.sameButNew ({ U with heap := s₂.heap, slotsUsed := s₂.slotsUsed } : State) L mc ms := by
      refine ⟨?_, q2, q3, q4, q5, q6⟩
      obtain ⟨t, ht, -⟩ := State.frames_cons hr
      show ({ U with heap := s₂.heap, slotsUsed := s₂.slotsUsed } : State) = { U.setFrames U.frames with heap := s₂.heap, slotsUsed := s₂.slotsUsed }
      rw [State.setFrames_self ht]
    subst hg
    refine Or.inr ⟨q, ⟨(({ U with heap := s₂.heap, slotsUsed := s₂.slotsUsed } : State).setVm s₂.vm), Ls ++ L, c0 + mc, s0 + ms⟩,
      ⟨X.admits, X.cas, X.clock, X.frames, X.room, X.hears, X.method, X.code, (X.here.setHeapUsed s₂.heap s₂.slotsUsed).setVm hW'.alike, X.tail, State.WarmedH.trans X.warmed hW', X.limits, X.bytes, X.same.trans (hsame.setVm s.vm)⟩,
      ⟨g, mk, s₂, L, E, ce, rfl, rfl, hx, hce, hcv, hcl, rfl, hL, rfl, rfl⟩, ?_⟩
    show Steps p.tables e below _ (((({ U with heap := s₂.heap, slotsUsed := s₂.slotsUsed } : State).setVm s₂.vm).setTop g).pushFrame (.throwing q))
    rw [← hs₂]
    exact hsteps
end Payer
section Calls
variable {p : Program} {l : Launch} {e : Env} {R : Room} {s : State} {m : MethodId} {args : Array Value} {below : List Frame} {meth : Method} {c : Code} {T : State} {locs : List Loc} {cells slots : Nat}
theorem vx_callV (X : Stand p l e R s m args below meth c T locs cells slots) (hexec : p.tables.exec = Jvm.exec) {own C : String} {index : Nat} {y : MethodName} {bytes : ByteArray} {maxL : Nat} {ret : Option FieldType}
    (hown : s.vm.findClass own = some m.cls) (hlink : (Cond.methodLink own index y).before args s = true) (hinst : (Cond.instanceMethod y).before args s = true) (hsel : (Cond.selects C y y).before args s = true)
    (hcode : (Cond.code y bytes maxL ret).before args s = true) (hy : y.cls ≠ "java/lang/invoke/MethodHandle" ∧ y.cls ≠ "java/lang/invoke/VarHandle")
    {W9 : Nat} {Pre : Pt → Array Value → Prop} {Post : Pt → Array Value → Option Value → Pt → Prop} {PostX : Pt → Array Value → Addr → Pt → Prop} (hK : vx_Back l R p e below s args y 3 W9 Pre Post PostX)
    {b : Addr} {cellB : Cell} (hcell : T.heap[b]? = some cellB) (hobj : cellB.vm.isStatics = false) (hcls : s.vm.findClass C = some cellB.cls)
    {g : JFrame} (hg : g.method = m) (hsize : g.locals.size = c.maxLocals) {argsL rest : List Value} (hlen : ∀ sig, parseMethodDescriptor y.desc = some sig → argsL.length = sig.parameters.length)
    (hstack : g.stack = argsL.reverse ++ .ref b :: rest) (hW : 2 * g.monitorRoom + (rest.map fun v => v.category).sum ≤ W9) (hdg : decode c.code g.pc = .ok (.invokevirtual index, 3))
    (hpre : ∀ vm₁, s.WarmedH vm₁ → Pre ⟨T.setVm vm₁, locs, cells, slots⟩ (Value.ref b :: argsL).toArray) :
    (∃ (v : Option Value) (vm₁ : Vm) (B : Pt), s.WarmedH vm₁ ∧ Stand p l e R s m args below meth c B.U B.locs B.cells B.slots ∧ Post ⟨T.setVm vm₁, locs, cells, slots⟩ (Value.ref b :: argsL).toArray v B ∧
      ∀ target, Steps p.tables e below (B.U.setTop { g with pc := g.pc + 3, stack := v.toList ++ rest }) target → Steps p.tables e below (T.setTop g) target) ∨
    (∃ (q : Addr) (vm₁ : Vm) (B : Pt), s.WarmedH vm₁ ∧ Stand p l e R s m args below meth c B.U B.locs B.cells B.slots ∧ PostX ⟨T.setVm vm₁, locs, cells, slots⟩ (Value.ref b :: argsL).toArray q B ∧
      Steps p.tables e below (T.setTop g) ((B.U.setTop { g with stack := rest }).pushFrame (.throwing q))) := by
  obtain ⟨mk, methM, hnamed, hmethM, hstM, habM⟩ := Cond.instanceMethod_spec hinst
  obtain ⟨methM', cM, hmethM', -, -, -, -, -, -, hsigM⟩ := Cond.code_spec hnamed hcode
  cases hmethM.symm.trans hmethM'
  obtain ⟨c2, r2, m2, q1, q2, q3, q4, kP, hkP, hkPi⟩ := Cond.selects_spec hsel
  cases hcls.symm.trans q1
  cases (State.methodFound?_of_named hnamed hy).symm.trans q2
  cases hnamed.symm.trans q3
  have hselP : selectMethod e.platform s.vm cellB.cls mk = .method mk := by rw [Launch.admits_selectMethod X.admits]; exact q4
  obtain ⟨vm₁, X₁, hstep₁⟩ := X.invokevirtual hexec hown hlink hnamed hmethM hstM hkP hkPi hy (a := b) (cell := cellB) hcell
    (fun z h => by rw [h] at hobj; cases hobj) hselP hmethM habM hkP hkPi (g := g) hg (argsL := argsL) (rest := rest) (hlen _ hsigM) hstack hdg
  rcases hK m meth c ⟨T.setVm vm₁, locs, cells, slots⟩ { g with stack := rest } (.invokevirtual index) mk (Value.ref b :: argsL).toArray X₁ hg hsize hdg hW (X₁.named hnamed) (hpre vm₁ X₁.warmed) with ⟨v, B, X', hpost, hsteps⟩ | ⟨q, B, X', hpost, hsteps⟩
  · exact Or.inl ⟨v, vm₁, B, X₁.warmed, X', hpost, fun target h => hstep₁ _ fun acts => by rw [doInvoke_state]; exact hsteps.trans h⟩
  · exact Or.inr ⟨q, vm₁, B, X₁.warmed, X', hpost, hstep₁ _ fun acts => by rw [doInvoke_state]; exact hsteps⟩
theorem vx_callS (X : Stand p l e R s m args below meth c T locs cells slots) (hexec : p.tables.exec = Jvm.exec) {own : String} {index : Nat} {y : MethodName} {bytes : ByteArray} {maxL : Nat} {ret : Option FieldType}
    (hown : s.vm.findClass own = some m.cls) (hlink : (Cond.methodLink own index y).before args s = true) (hstat : (Cond.static y).before args s = true) (hinit : (Cond.initialized y.cls).before args s = true)
    (hcode : (Cond.code y bytes maxL ret).before args s = true) (hy : y.cls ≠ "java/lang/invoke/MethodHandle" ∧ y.cls ≠ "java/lang/invoke/VarHandle")
    {W9 : Nat} {Pre : Pt → Array Value → Prop} {Post : Pt → Array Value → Option Value → Pt → Prop} {PostX : Pt → Array Value → Addr → Pt → Prop} (hK : vx_Back l R p e below s args y 3 W9 Pre Post PostX)
    {g : JFrame} (hg : g.method = m) (hsize : g.locals.size = c.maxLocals) {argsL rest : List Value} (hlen : ∀ sig, parseMethodDescriptor y.desc = some sig → argsL.length = sig.parameters.length)
    (hstack : g.stack = argsL.reverse ++ rest) (hW : 2 * g.monitorRoom + (rest.map fun v => v.category).sum ≤ W9) (hdg : decode c.code g.pc = .ok (.invokestatic index, 3))
    (hpre : ∀ vm₁, s.WarmedH vm₁ → Pre ⟨T.setVm vm₁, locs, cells, slots⟩ argsL.toArray) :
    (∃ (v : Option Value) (vm₁ : Vm) (B : Pt), s.WarmedH vm₁ ∧ Stand p l e R s m args below meth c B.U B.locs B.cells B.slots ∧ Post ⟨T.setVm vm₁, locs, cells, slots⟩ argsL.toArray v B ∧
      ∀ target, Steps p.tables e below (B.U.setTop { g with pc := g.pc + 3, stack := v.toList ++ rest }) target → Steps p.tables e below (T.setTop g) target) ∨
    (∃ (q : Addr) (vm₁ : Vm) (B : Pt), s.WarmedH vm₁ ∧ Stand p l e R s m args below meth c B.U B.locs B.cells B.slots ∧ PostX ⟨T.setVm vm₁, locs, cells, slots⟩ argsL.toArray q B ∧
      Steps p.tables e below (T.setTop g) ((B.U.setTop { g with stack := rest }).pushFrame (.throwing q))) := by
  obtain ⟨mk, hnamed⟩ := Cond.code_named hcode
  obtain ⟨methM, cM, hmethM, -, -, -, -, -, -, hsigM⟩ := Cond.code_spec hnamed hcode
  have hstatic : methM.isStatic = true := Cond.static_spec hnamed hmethM hstat
  obtain ⟨kP, hkP, -⟩ := className_of_methodNamed hnamed
  have hinitP : kP.init = .initialized := Cond.initialized_spec (findClass_of_methodNamed hnamed) hkP hinit
  obtain ⟨vm₁, X₁, hstep₁⟩ := X.invokestatic hexec hown hlink hnamed hmethM hstatic hkP hinitP hy (g := g) hg (argsL := argsL) (rest := rest) (hlen _ hsigM) hstack hdg
  rcases hK m meth c ⟨T.setVm vm₁, locs, cells, slots⟩ { g with stack := rest } (.invokestatic index) mk argsL.toArray X₁ hg hsize hdg hW (X₁.named hnamed) (hpre vm₁ X₁.warmed) with ⟨v, B, X', hpost, hsteps⟩ | ⟨q, B, X', hpost, hsteps⟩
  · exact Or.inl ⟨v, vm₁, B, X₁.warmed, X', hpost, fun target h => hstep₁ _ fun acts => by rw [doInvoke_state]; exact hsteps.trans h⟩
  · exact Or.inr ⟨q, vm₁, B, X₁.warmed, X', hpost, hstep₁ _ fun acts => by rw [doInvoke_state]; exact hsteps⟩
end Calls
theorem vx_cls {s : State} {T : State} {vm₁ : Vm} {E : String} {k : ClassId} (hW : s.WarmedH vm₁) (h : (T.setVm vm₁).vm.findClass E = some k) : s.vm.findClass E = some k := by
  have h1 : vm₁.findClass E = some k := h
  rw [hW.alike.findClass] at h1
  exact h1
/-- the method's frame g, with q thrown over it -/
def vx_W (p : Program) (l : Launch) (e : Env) (R : Room) (s : State) (m : MethodId) (args : Array Value) (below : List Frame) (meth : Method) (c : Code) (H : Heap) (locs : List Loc) (cells slots : Nat) (Q : State → Prop) (g : JFrame) (q : Addr) : Prop :=
  ∀ T : State, T.heap = H → Stand p l e R s m args below meth c T locs cells slots → ∃ t, Steps p.tables e below ((T.setTop g).pushFrame (.throwing q)) t ∧ Q t
def vx_Run (p : Program) (l : Launch) (e : Env) (R : Room) (s : State) (m : MethodId) (args : Array Value) (below : List Frame) (meth : Method) (c : Code) (H : Heap) (locs : List Loc) (cells slots mc ms : Nat) (g : JFrame) (rest : List Value) (Qa : State → Outcome → State → Prop) (XC : String → State → State → Prop) (free : Addr → Prop) : Prop :=
  ∀ T : State, T.heap = H → Stand p l e R s m args below meth c T locs cells slots →
    (∃ (v : Option Value) (st₀ t T' : State) (L : List Loc), st₀.heap = H ∧ Stand p l e R s m args below meth c T' (locs ++ L) (cells + mc) (slots + ms) ∧ (∀ q ∈ L, free q.base) ∧ T'.heap = t.heap ∧ T'.vm = t.vm ∧ Qa st₀ (.returned v) t ∧
      Goes p e below T g T' { g with pc := g.pc + 3, stack := v.toList ++ rest }) ∨
    (∃ (q : Addr) (st₀ t T' : State) (L : List Loc) (E : String) (ce : Cell), st₀.heap = H ∧ Stand p l e R s m args below meth c T' (locs ++ L) (cells + mc) (slots + ms) ∧ (∀ z ∈ L, free z.base) ∧ T'.heap = t.heap ∧ T'.vm = t.vm ∧ XC E st₀ t ∧ t.heap[q]? = some ce ∧ ce.vm = .none ∧ s.vm.findClass E = some ce.cls ∧
      Steps p.tables e below (T.setTop g) ((T'.setTop { g with stack := rest }).pushFrame (.throwing q)))
def vx_X {S : Type} (px : S → Prop) (B : String → S → State → Prop) (A : Nat → Prop) : String → State → State → Prop := fun E st t => ∃ u : S, px u ∧ B E u t ∧ va_F A st t
section Runs
variable {p : Program} {l : Launch} {e : Env} {R : Room} {s : State} {m : MethodId} {args : Array Value} {below : List Frame} {meth : Method} {c : Code} {H : Heap} {locs : List Loc} {cells slots : Nat}
variable {y : MethodName} {bytes cc : ByteArray} {maxL nL mc ms n index : Nat} {ret : Option FieldType} {ws : List Cond} {rm : Room} {Pc : Array Value → State → Prop} {Qc : Array Value → State → Outcome → State → Prop} {XC : String → State → State → Prop} {free : Addr → Prop} {Ts : List Cond} {own C : String} {b : Addr} {As rest : List Value} {g : JFrame}
theorem vx_callBack (cb : CallB R s args own index y bytes maxL ret ws rm mc ms n) (hM : vx_Met l y ws rm Pc Qc XC mc ms free) (hbl : FrameBlind Pc) : vx_Back l R p e below s args y 3 8 (PreOf R mc ms Pc) (PostOf Qc mc ms free) (vx_Post XC mc ms free) := by
  obtain ⟨hrc, hrs, hfr, hlo, hws, hcw, -, hini, -⟩ := cb
  exact vx_back (bytes := bytes) (maxL := maxL) (ret := ret) hM hbl hrc hrs hfr hlo hws hcw (fun a' U hW => word_at hW (Or.inl (by first | rfl | simp [Cond.onTables, Cond.keeps, Cond.steady])) hini)
theorem vx_runV (S : CallFix p m c cc nL s args Ts own) (hM : vx_Met l y ws rm Pc Qc XC mc ms free) (cw : CallW R s args own C index y bytes maxL ret ws rm mc ms n) (hp : PreV s H C b Pc As)
    (hg : g.method = m) (hn : As.length = n) (hsize : g.locals.size = nL) (hstack : g.stack = As.reverse ++ .ref b :: rest) (hW : 2 * g.monitorRoom + (rest.map fun v => v.category).sum ≤ 8) (hdg : decode cc g.pc = .ok (.invokevirtual index, 3)) (hf : cells + mc ≤ R.cells ∧ slots + ms ≤ R.slots) :
    vx_Run p l e R s m args below meth c H locs cells slots mc ms g rest (Qc (Value.ref b :: As).toArray) XC free := by
  have hK : vx_Back l R p e below s args y 3 8 (PreOf R mc ms Pc) (PostOf Qc mc ms free) (vx_Post XC mc ms free) := vx_callBack cw.1 hM hp.1
  obtain ⟨⟨-, -, -, -, -, -, hcode, -, hy, hlen, hl⟩, hin, hse⟩ := cw
  obtain ⟨hx, hb, hml, ho, -⟩ := S
  obtain ⟨-, ⟨cellB, hcB, hoB, hclB⟩, hPc⟩ := hp
  intro T hT X
  rcases vx_callV X hx (C := C) (bytes := bytes) (maxL := maxL) (ret := ret) ho hl hin hse hcode hy hK (by rw [hT]; exact hcB) hoB hclB hg (hsize.trans hml.symm) (argsL := As) (rest := rest) (fun sig h => hn.trans (hlen sig h)) hstack hW (by rw [hb]; exact hdg)
    (fun vm₁ hW₁ => ⟨hf.1, hf.2, hPc (T.setVm vm₁) hT hW₁⟩) with ⟨v, vm₁, ⟨U', l2, c2, s2⟩, hW₁, X', ⟨g', mk, t, L, e1, e2, hq, h1, hL, h2, h3⟩, st⟩ | ⟨q, vm₁, ⟨U', l2, c2, s2⟩, hW₁, X', ⟨g', mk, t, L, E, ce, e1, e2, hq, hce, hcv, hcl, h1, hL, h2, h3⟩, st⟩
  · dsimp only [Pt.U, Pt.locs, Pt.cells, Pt.slots] at X' e1 e2 h1 h2 h3 st
    subst h1; subst h2; subst h3
    exact Or.inl ⟨v, (T.setVm vm₁).calling g' mk (Value.ref b :: As).toArray, t, U', L, hT, X', hL, e1, e2, hq, st⟩
  · dsimp only [Pt.U, Pt.locs, Pt.cells, Pt.slots] at X' e1 e2 h1 h2 h3 st hcl
    subst h1; subst h2; subst h3
    exact Or.inr ⟨q, (T.setVm vm₁).calling g' mk (Value.ref b :: As).toArray, t, U', L, E, ce, hT, X', hL, e1, e2, hq, hce, hcv, vx_cls hW₁ hcl, st⟩
theorem vx_runS (S : CallFix p m c cc nL s args Ts own) (hM : vx_Met l y ws rm Pc Qc XC mc ms free) (cw : CallB R s args own index y bytes maxL ret ws rm mc ms n ∧ (Cond.static y).before args s = true) (hp : PreS s H Pc As)
    (hg : g.method = m) (hn : As.length = n) (hsize : g.locals.size = nL) (hstack : g.stack = As.reverse ++ rest) (hW : 2 * g.monitorRoom + (rest.map fun v => v.category).sum ≤ 8) (hdg : decode cc g.pc = .ok (.invokestatic index, 3)) (hf : cells + mc ≤ R.cells ∧ slots + ms ≤ R.slots) :
    vx_Run p l e R s m args below meth c H locs cells slots mc ms g rest (Qc As.toArray) XC free := by
  have hK : vx_Back l R p e below s args y 3 8 (PreOf R mc ms Pc) (PostOf Qc mc ms free) (vx_Post XC mc ms free) := vx_callBack cw.1 hM hp.1
  obtain ⟨⟨-, -, -, -, -, -, hcode, hini, hy, hlen, hl⟩, hstt⟩ := cw
  obtain ⟨hx, hb, hml, ho, -⟩ := S
  intro T hT X
  rcases vx_callS X hx (bytes := bytes) (maxL := maxL) (ret := ret) ho hl hstt hini hcode hy hK hg (hsize.trans hml.symm) (argsL := As) (rest := rest) (fun sig h => hn.trans (hlen sig h)) hstack hW (by rw [hb]; exact hdg)
    (fun vm₁ hW₁ => ⟨hf.1, hf.2, hp.2 (T.setVm vm₁) hT hW₁⟩) with ⟨v, vm₁, ⟨U', l2, c2, s2⟩, hW₁, X', ⟨g', mk, t, L, e1, e2, hq, h1, hL, h2, h3⟩, st⟩ | ⟨q, vm₁, ⟨U', l2, c2, s2⟩, hW₁, X', ⟨g', mk, t, L, E, ce, e1, e2, hq, hce, hcv, hcl, h1, hL, h2, h3⟩, st⟩
  · dsimp only [Pt.U, Pt.locs, Pt.cells, Pt.slots] at X' e1 e2 h1 h2 h3 st
    subst h1; subst h2; subst h3
    exact Or.inl ⟨v, (T.setVm vm₁).calling g' mk As.toArray, t, U', L, hT, X', hL, e1, e2, hq, st⟩
  · dsimp only [Pt.U, Pt.locs, Pt.cells, Pt.slots] at X' e1 e2 h1 h2 h3 st hcl
    subst h1; subst h2; subst h3
    exact Or.inr ⟨q, (T.setVm vm₁).calling g' mk As.toArray, t, U', L, E, ce, hT, X', hL, e1, e2, hq, hce, hcv, vx_cls hW₁ hcl, st⟩
end Runs
section Rows
variable {p : Program} {l : Launch} {e : Env} {R : Room} {s : State} {m : MethodId} {args : Array Value} {below : List Frame} {meth : Method} {c : Code} {H : Heap} {locs : List Loc} {cells slots : Nat} {Q : State → Prop}
variable {mc ms : Nat} {free : Addr → Prop} {A0 A1 : Nat → Prop} {H0 : Heap} {a : Array Value} {pc : Nat} {ls : Array Slot} {st0 rest : List Value}
theorem vx_keep {st₀ t T' : State} {L : List Loc} (h0 : st₀.heap = H) (e1 : T'.heap = t.heap) (hS : va_S A0 H0 H locs) (hA : ∀ q, q < H.size → A1 q → A0 q) (hf : ∀ q, free q → A0 q) (hL : ∀ q ∈ L, free q.base) (hF : va_F A1 st₀ t) :
    H.size ≤ T'.heap.size ∧ (∀ q : Nat, q < H.size → ¬ A1 q → T'.heap[q]? = H[q]?) ∧ va_S A0 H0 T'.heap (locs ++ L) := by
  obtain ⟨hz, hk⟩ := hF
  rw [h0] at hz hk
  exact ⟨by rw [e1]; exact hz, fun q h1 h2 => by rw [e1]; exact hk q h1 h2,
    ⟨Nat.le_trans hS.1 (by rw [e1]; exact hz), fun q h1 h2 => by rw [e1, hk q (Nat.lt_of_lt_of_le h1 hS.1) (fun z => h2 (hA q (Nat.lt_of_lt_of_le h1 hS.1) z))]; exact hS.2.1 q h1 h2, fun q hq => by
      rcases List.mem_append.mp hq with h | h
      · exact hS.2.2 q h
      · exact hf _ (hL q h)⟩⟩
theorem vx_calli {S SX : Type} {post : Int32 → S → Prop} {px : SX → Prop} {B : S → State → Prop} {BX : String → SX → State → Prop} {AX : Nat → Prop} (hr : vx_Run p l e R s m args below meth c H locs cells slots mc ms (F0 m pc ls st0) rest (va_Qi post B A1 a) (vx_X px BX AX) free) (hS : va_S A0 H0 H locs) (hA : ∀ q, q < H.size → A1 q → A0 q) (hf : ∀ q, free q → A0 q) (hAX : ∀ q, q < H.size → AX q → A0 q)
    (kx : ∀ (E : String) (ce : Cell) (q9 : Addr) (u : SX) (t : State) (H1 : Heap) (locs1 : List Loc), t.heap = H1 → s.vm.Alike t.vm → px u → BX E u t → H.size ≤ H1.size → (∀ q : Nat, q < H.size → ¬ AX q → H1[q]? = H[q]?) → va_S A0 H0 H1 locs1 → H1[q9]? = some ce → ce.vm = .none → s.vm.findClass E = some ce.cls → vx_W p l e R s m args below meth c H1 locs1 (cells + mc) (slots + ms) Q (F0 m pc ls rest) q9)
    (kk : ∀ (r : Int32) (u : S) (t : State) (H1 : Heap) (locs1 : List Loc), t.heap = H1 → s.vm.Alike t.vm → post r u → B u t → H.size ≤ H1.size → (∀ q : Nat, q < H.size → ¬ A1 q → H1[q]? = H[q]?) → va_S A0 H0 H1 locs1 → W p l e R s m args below meth c H1 locs1 (cells + mc) (slots + ms) Q (F0 m (pc + 3) ls (.int r :: rest))) : W p l e R s m args below meth c H locs cells slots Q (F0 m pc ls st0) := by
  intro T hT X
  rcases hr T hT X with ⟨v, st₀, t, T', L, h0, X', hL, e1, e2, ⟨⟨r, u, hv, hp, hb⟩, hF⟩, st⟩ | ⟨q, st₀, t, T', L, E, ce, h0, X', hL, e1, e2, ⟨u, hp, hb, hF⟩, hce, hcv, hcl, st⟩
  · cases hv
    obtain ⟨k1, k2, k3⟩ := vx_keep h0 e1 hS hA hf hL hF
    obtain ⟨t2, a1, b1⟩ := kk r u t T'.heap (locs ++ L) e1.symm (by rw [← e2]; exact X'.warmed.alike) hp hb k1 k2 k3 T' rfl X'
    exact ⟨t2, st t2 a1, b1⟩
  · obtain ⟨k1, k2, k3⟩ := vx_keep h0 e1 hS hAX hf hL hF
    obtain ⟨t2, a1, b1⟩ := kx E ce q u t T'.heap (locs ++ L) e1.symm (by rw [← e2]; exact X'.warmed.alike) hp hb k1 k2 k3 (by rw [e1]; exact hce) hcv hcl T' rfl X'
    exact ⟨t2, st.trans a1, b1⟩
theorem vx_calll {S SX : Type} {post : Int64 → S → Prop} {px : SX → Prop} {B : S → State → Prop} {BX : String → SX → State → Prop} {AX : Nat → Prop} (hr : vx_Run p l e R s m args below meth c H locs cells slots mc ms (F0 m pc ls st0) rest (va_Ql post B A1 a) (vx_X px BX AX) free) (hS : va_S A0 H0 H locs) (hA : ∀ q, q < H.size → A1 q → A0 q) (hf : ∀ q, free q → A0 q) (hAX : ∀ q, q < H.size → AX q → A0 q)
    (kx : ∀ (E : String) (ce : Cell) (q9 : Addr) (u : SX) (t : State) (H1 : Heap) (locs1 : List Loc), t.heap = H1 → s.vm.Alike t.vm → px u → BX E u t → H.size ≤ H1.size → (∀ q : Nat, q < H.size → ¬ AX q → H1[q]? = H[q]?) → va_S A0 H0 H1 locs1 → H1[q9]? = some ce → ce.vm = .none → s.vm.findClass E = some ce.cls → vx_W p l e R s m args below meth c H1 locs1 (cells + mc) (slots + ms) Q (F0 m pc ls rest) q9)
    (kk : ∀ (r : Int64) (u : S) (t : State) (H1 : Heap) (locs1 : List Loc), t.heap = H1 → s.vm.Alike t.vm → post r u → B u t → H.size ≤ H1.size → (∀ q : Nat, q < H.size → ¬ A1 q → H1[q]? = H[q]?) → va_S A0 H0 H1 locs1 → W p l e R s m args below meth c H1 locs1 (cells + mc) (slots + ms) Q (F0 m (pc + 3) ls (.long r :: rest))) : W p l e R s m args below meth c H locs cells slots Q (F0 m pc ls st0) := by
  intro T hT X
  rcases hr T hT X with ⟨v, st₀, t, T', L, h0, X', hL, e1, e2, ⟨⟨r, u, hv, hp, hb⟩, hF⟩, st⟩ | ⟨q, st₀, t, T', L, E, ce, h0, X', hL, e1, e2, ⟨u, hp, hb, hF⟩, hce, hcv, hcl, st⟩
  · cases hv
    obtain ⟨k1, k2, k3⟩ := vx_keep h0 e1 hS hA hf hL hF
    obtain ⟨t2, a1, b1⟩ := kk r u t T'.heap (locs ++ L) e1.symm (by rw [← e2]; exact X'.warmed.alike) hp hb k1 k2 k3 T' rfl X'
    exact ⟨t2, st t2 a1, b1⟩
  · obtain ⟨k1, k2, k3⟩ := vx_keep h0 e1 hS hAX hf hL hF
    obtain ⟨t2, a1, b1⟩ := kx E ce q u t T'.heap (locs ++ L) e1.symm (by rw [← e2]; exact X'.warmed.alike) hp hb k1 k2 k3 (by rw [e1]; exact hce) hcv hcl T' rfl X'
    exact ⟨t2, st.trans a1, b1⟩
theorem vx_callf {S SX : Type} {post : UInt32 → S → Prop} {px : SX → Prop} {B : S → State → Prop} {BX : String → SX → State → Prop} {AX : Nat → Prop} (hr : vx_Run p l e R s m args below meth c H locs cells slots mc ms (F0 m pc ls st0) rest (va_Qf post B A1 a) (vx_X px BX AX) free) (hS : va_S A0 H0 H locs) (hA : ∀ q, q < H.size → A1 q → A0 q) (hf : ∀ q, free q → A0 q) (hAX : ∀ q, q < H.size → AX q → A0 q)
    (kx : ∀ (E : String) (ce : Cell) (q9 : Addr) (u : SX) (t : State) (H1 : Heap) (locs1 : List Loc), t.heap = H1 → s.vm.Alike t.vm → px u → BX E u t → H.size ≤ H1.size → (∀ q : Nat, q < H.size → ¬ AX q → H1[q]? = H[q]?) → va_S A0 H0 H1 locs1 → H1[q9]? = some ce → ce.vm = .none → s.vm.findClass E = some ce.cls → vx_W p l e R s m args below meth c H1 locs1 (cells + mc) (slots + ms) Q (F0 m pc ls rest) q9)
    (kk : ∀ (r : UInt32) (u : S) (t : State) (H1 : Heap) (locs1 : List Loc), t.heap = H1 → s.vm.Alike t.vm → post r u → B u t → H.size ≤ H1.size → (∀ q : Nat, q < H.size → ¬ A1 q → H1[q]? = H[q]?) → va_S A0 H0 H1 locs1 → W p l e R s m args below meth c H1 locs1 (cells + mc) (slots + ms) Q (F0 m (pc + 3) ls (.float r :: rest))) : W p l e R s m args below meth c H locs cells slots Q (F0 m pc ls st0) := by
  intro T hT X
  rcases hr T hT X with ⟨v, st₀, t, T', L, h0, X', hL, e1, e2, ⟨⟨r, u, hv, hp, hb⟩, hF⟩, st⟩ | ⟨q, st₀, t, T', L, E, ce, h0, X', hL, e1, e2, ⟨u, hp, hb, hF⟩, hce, hcv, hcl, st⟩
  · cases hv
    obtain ⟨k1, k2, k3⟩ := vx_keep h0 e1 hS hA hf hL hF
    obtain ⟨t2, a1, b1⟩ := kk r u t T'.heap (locs ++ L) e1.symm (by rw [← e2]; exact X'.warmed.alike) hp hb k1 k2 k3 T' rfl X'
    exact ⟨t2, st t2 a1, b1⟩
  · obtain ⟨k1, k2, k3⟩ := vx_keep h0 e1 hS hAX hf hL hF
    obtain ⟨t2, a1, b1⟩ := kx E ce q u t T'.heap (locs ++ L) e1.symm (by rw [← e2]; exact X'.warmed.alike) hp hb k1 k2 k3 (by rw [e1]; exact hce) hcv hcl T' rfl X'
    exact ⟨t2, st.trans a1, b1⟩
theorem vx_calld {S SX : Type} {post : UInt64 → S → Prop} {px : SX → Prop} {B : S → State → Prop} {BX : String → SX → State → Prop} {AX : Nat → Prop} (hr : vx_Run p l e R s m args below meth c H locs cells slots mc ms (F0 m pc ls st0) rest (va_Qd post B A1 a) (vx_X px BX AX) free) (hS : va_S A0 H0 H locs) (hA : ∀ q, q < H.size → A1 q → A0 q) (hf : ∀ q, free q → A0 q) (hAX : ∀ q, q < H.size → AX q → A0 q)
    (kx : ∀ (E : String) (ce : Cell) (q9 : Addr) (u : SX) (t : State) (H1 : Heap) (locs1 : List Loc), t.heap = H1 → s.vm.Alike t.vm → px u → BX E u t → H.size ≤ H1.size → (∀ q : Nat, q < H.size → ¬ AX q → H1[q]? = H[q]?) → va_S A0 H0 H1 locs1 → H1[q9]? = some ce → ce.vm = .none → s.vm.findClass E = some ce.cls → vx_W p l e R s m args below meth c H1 locs1 (cells + mc) (slots + ms) Q (F0 m pc ls rest) q9)
    (kk : ∀ (r : UInt64) (u : S) (t : State) (H1 : Heap) (locs1 : List Loc), t.heap = H1 → s.vm.Alike t.vm → post r u → B u t → H.size ≤ H1.size → (∀ q : Nat, q < H.size → ¬ A1 q → H1[q]? = H[q]?) → va_S A0 H0 H1 locs1 → W p l e R s m args below meth c H1 locs1 (cells + mc) (slots + ms) Q (F0 m (pc + 3) ls (.double r :: rest))) : W p l e R s m args below meth c H locs cells slots Q (F0 m pc ls st0) := by
  intro T hT X
  rcases hr T hT X with ⟨v, st₀, t, T', L, h0, X', hL, e1, e2, ⟨⟨r, u, hv, hp, hb⟩, hF⟩, st⟩ | ⟨q, st₀, t, T', L, E, ce, h0, X', hL, e1, e2, ⟨u, hp, hb, hF⟩, hce, hcv, hcl, st⟩
  · cases hv
    obtain ⟨k1, k2, k3⟩ := vx_keep h0 e1 hS hA hf hL hF
    obtain ⟨t2, a1, b1⟩ := kk r u t T'.heap (locs ++ L) e1.symm (by rw [← e2]; exact X'.warmed.alike) hp hb k1 k2 k3 T' rfl X'
    exact ⟨t2, st t2 a1, b1⟩
  · obtain ⟨k1, k2, k3⟩ := vx_keep h0 e1 hS hAX hf hL hF
    obtain ⟨t2, a1, b1⟩ := kx E ce q u t T'.heap (locs ++ L) e1.symm (by rw [← e2]; exact X'.warmed.alike) hp hb k1 k2 k3 (by rw [e1]; exact hce) hcv hcl T' rfl X'
    exact ⟨t2, st.trans a1, b1⟩
theorem vx_callv {S SX : Type} {post : S → Prop} {px : SX → Prop} {B : S → State → Prop} {BX : String → SX → State → Prop} {AX : Nat → Prop} (hr : vx_Run p l e R s m args below meth c H locs cells slots mc ms (F0 m pc ls st0) rest (va_Qv post B A1 a) (vx_X px BX AX) free) (hS : va_S A0 H0 H locs) (hA : ∀ q, q < H.size → A1 q → A0 q) (hf : ∀ q, free q → A0 q) (hAX : ∀ q, q < H.size → AX q → A0 q)
    (kx : ∀ (E : String) (ce : Cell) (q9 : Addr) (u : SX) (t : State) (H1 : Heap) (locs1 : List Loc), t.heap = H1 → s.vm.Alike t.vm → px u → BX E u t → H.size ≤ H1.size → (∀ q : Nat, q < H.size → ¬ AX q → H1[q]? = H[q]?) → va_S A0 H0 H1 locs1 → H1[q9]? = some ce → ce.vm = .none → s.vm.findClass E = some ce.cls → vx_W p l e R s m args below meth c H1 locs1 (cells + mc) (slots + ms) Q (F0 m pc ls rest) q9)
    (kk : ∀ (u : S) (t : State) (H1 : Heap) (locs1 : List Loc), t.heap = H1 → s.vm.Alike t.vm → post u → B u t → H.size ≤ H1.size → (∀ q : Nat, q < H.size → ¬ A1 q → H1[q]? = H[q]?) → va_S A0 H0 H1 locs1 → W p l e R s m args below meth c H1 locs1 (cells + mc) (slots + ms) Q (F0 m (pc + 3) ls (rest))) : W p l e R s m args below meth c H locs cells slots Q (F0 m pc ls st0) := by
  intro T hT X
  rcases hr T hT X with ⟨v, st₀, t, T', L, h0, X', hL, e1, e2, ⟨⟨u, hv, hp, hb⟩, hF⟩, st⟩ | ⟨q, st₀, t, T', L, E, ce, h0, X', hL, e1, e2, ⟨u, hp, hb, hF⟩, hce, hcv, hcl, st⟩
  · cases hv
    obtain ⟨k1, k2, k3⟩ := vx_keep h0 e1 hS hA hf hL hF
    obtain ⟨t2, a1, b1⟩ := kk u t T'.heap (locs ++ L) e1.symm (by rw [← e2]; exact X'.warmed.alike) hp hb k1 k2 k3 T' rfl X'
    exact ⟨t2, st t2 a1, b1⟩
  · obtain ⟨k1, k2, k3⟩ := vx_keep h0 e1 hS hAX hf hL hF
    obtain ⟨t2, a1, b1⟩ := kx E ce q u t T'.heap (locs ++ L) e1.symm (by rw [← e2]; exact X'.warmed.alike) hp hb k1 k2 k3 (by rw [e1]; exact hce) hcv hcl T' rfl X'
    exact ⟨t2, st.trans a1, b1⟩
/-- caught by the row x of this method's table; the rows ahead don't take it -/
theorem vx_catch {own name : String} {E : String} {ce : Cell} {q : Addr} (hown : s.vm.findClass own = some m.cls) (pre : List ExceptionTableEntry) (x : ExceptionTableEntry) (suf : List ExceptionTableEntry) (hsplit : c.exceptionTable.toList = pre ++ x :: suf)
    (hpass : ∀ z ∈ pre, covers z pc = false ∨ (z.catchType ≠ 0 ∧ ∃ nm : String, (Cond.classLink own z.catchType nm).before args s = true ∧ va_Nc E nm s)) (hx : covers x pc = true) (h0 : x.catchType ≠ 0)
    (hlink : (Cond.classLink own x.catchType name).before args s = true) (hcast : (Cond.castable E name).before args s = true) (hcell : H[q]? = some ce) (hv : ce.vm = .none) (hcl : s.vm.findClass E = some ce.cls)
    (kk : W p l e R s m args below meth c H locs cells slots Q (F0 m x.handlerPc ls [.ref q])) : vx_W p l e R s m args below meth c H locs cells slots Q (F0 m pc ls rest) q := by
  intro T hT X
  have hpl : e.platform.magicAccessors = ({} : Platform).magicAccessors := by rw [X.admits.platform]
  obtain ⟨c3, c4, hc3, hc4, hasg⟩ := Cond.castable_spec hcast
  cases Option.some.inj (hc3.symm.trans hcl)
  obtain ⟨c5, hc5, hcl5⟩ := Cond.classLink_spec hown hlink e.platform hpl
  cases Option.some.inj (hc4.symm.trans hc5)
  obtain ⟨vm', X', st⟩ := X.thenCaughtThrough q (g := F0 m pc ls rest) rfl (Steps.refl _) (by rw [hT]; exact hcell) (by rw [hv]; rfl) (by obtain ⟨k9, h9, -⟩ := Vm.findClass_spec hcl; exact ⟨k9, h9⟩) pre x suf hsplit
    (fun z hz => by
      rcases hpass z hz with h | ⟨hz0, nm, hl1, hn1⟩
      · exact Or.inl h
      · obtain ⟨c6, hc6, hcl6⟩ := Cond.classLink_spec hown hl1 e.platform hpl
        obtain ⟨a8, b8, h1, h2, h3⟩ := hn1
        cases Option.some.inj (h1.symm.trans hcl)
        cases Option.some.inj (h2.symm.trans hc6)
        exact Or.inr ⟨hz0, _, hcl6, h3⟩) hx (Or.inr ⟨h0, c4, hcl5, hasg⟩)
  obtain ⟨t, a1, b1⟩ := kk (T.setVm vm') hT X'
  exact ⟨t, st.trans a1, b1⟩
end Rows
section Ends
variable {p : Program} {l : Launch} {e : Env} {R : Room} {s : State} {m : MethodId} {args : Array Value} {below : List Frame} {meth : Method} {c : Code} {H : Heap} {locs : List Loc} {cells slots : Nat} {Q : State → Prop}
variable {mc ms : Nat} {free : Addr → Prop} {A0 A1 : Nat → Prop} {H0 : Heap} {a : Array Value} {ls : Array Slot} {st0 rest : List Value}
variable {Qc : Array Value → State → Outcome → State → Prop} {XC : String → State → State → Prop}
/-- what a body that may throw owes at its end -/
def vx_MQ (below : List Frame) (Qc : Array Value → State → Outcome → State → Prop) (XC : String → State → State → Prop) (a : Array Value) (s : State) (mc ms : Nat) (free : Addr → Prop) : State → Prop := fun t =>
  ∃ o, t.status = .running ∧ Ended t below o ∧ vx_Q Qc XC mc ms free a s o t
theorem vx_ret {g : JFrame} {mc ms : Nat} (k : W p l e R s m args below meth c H locs cells slots (MQ below Qc args s mc ms free) g) : W p l e R s m args below meth c H locs cells slots (vx_MQ below Qc XC args s mc ms free) g := by
  intro T hT X
  obtain ⟨t, a1, o, b1, b2, b3, b4⟩ := k T hT X
  exact ⟨t, a1, o, b1, b2, Or.inl ⟨b3, b4⟩⟩
/-- not caught here: it goes on to the caller -/
theorem vx_widen {g : JFrame} {q : Addr} {k n : Nat} (h1 : cells ≤ k) (h2 : slots ≤ n) (kk : vx_W p l e R s m args below meth c H locs k n Q g q) : vx_W p l e R s m args below meth c H locs cells slots Q g q := fun T hT X => kk T hT (stand_widen X h1 h2)
theorem vx_out {pc : Nat} {E : String} {ce : Cell} {q : Addr} {mc ms : Nat} (hout : ∀ x ∈ c.exceptionTable.toList, covers x pc = false) (hlocks : meth.locks = false) (hcell : H[q]? = some ce) (hv : ce.vm = .none) (hcl : s.vm.findClass E = some ce.cls)
    (hx : ∀ t : State, t.heap = H → s.vm.Alike t.vm → XC E s t) (hf : ∀ z ∈ locs, free z.base) (hc : cells ≤ mc) (hs : slots ≤ ms) :
    vx_W p l e R s m args below meth c H locs cells slots (vx_MQ below Qc XC args s mc ms free) (F0 m pc ls rest) q := by
  intro T hT X
  obtain ⟨st1, hrun, hend, hW, hsm⟩ := X.leaveThrown q (g := F0 m pc ls rest) rfl rfl rfl hout hlocks
  have hcell9 : (T.setFrames (.throwing q :: below)).heap[q]? = some ce := by
    show T.heap[q]? = some ce
    rw [hT]; exact hcell
  exact ⟨_, st1, .threw q, hrun, hend, Or.inr ⟨q, rfl, E, ce, locs, hx _ hT hW.alike, hcell9, hv, hcl, hW, hsm.mono hc hs, hf⟩⟩
theorem vx_frame {U : State} {k n : Nat} (h : s.sameButNew ({ U with vm := s.vm } : State) locs k n) : s.heap.size ≤ U.heap.size ∧ ∀ q : Nat, q < s.heap.size → (∀ z ∈ locs, z.base ≠ q) → U.heap[q]? = s.heap[q]? := by
  obtain ⟨-, h2, -, -, -, h6⟩ := h
  refine ⟨h2, fun q hq hz => ?_⟩
  obtain ⟨c9, e1, e2, e3, e4⟩ := h6 q _ (Array.getElem?_eq_getElem hq)
  have hs : c9.slots = (s.heap[q]).slots := Array.ext_getElem? fun i => e4 i fun hm => hz _ hm rfl
  have h9 : c9 = s.heap[q] := by
    rw [hs] at e2
    exact e2
  have e5 : U.heap[q]? = some c9 := e1
  rw [e5, h9, Array.getElem?_eq_getElem hq]
/-- the words of a throw but the four that speak of the heap -/
def vx_no (w : Cond) : Bool := decide (w ≠ .isRef (.static Bundle.tN "UNASSIGNED_STACK" Bundle.steD)) && decide (w ≠ .isRef (.static Bundle.tN "SUPPRESSED_SENTINEL" Bundle.listD)) && decide (w ≠ .laysStatic Bundle.tN "UNASSIGNED_STACK" Bundle.steD) && decide (w ≠ .laysStatic Bundle.tN "SUPPRESSED_SENTINEL" Bundle.listD)
def vx_at0 (own : String) (ic : Nat) (X : String) (names : List String) : List Cond := (Bundle.ownAtoms0 own ic X names).filter vx_no
def vx_atS (own : String) (ic : Nat) (X : String) (names : List String) : List Cond := (Bundle.ownAtoms own ic X names).filter vx_no
/-- a word that the tables alone decide, or a good one -/
def vx_ot (w : Cond) : Bool := w.onTables || goodWord w
theorem vx_ot_at {args a' : Array Value} {s U : State} {w : Cond} (hW : s.WarmedH U.vm) (hvm : s.vm = U.vm) (hg : vx_ot w = true) (h : w.before args s = true) : w.before a' U = true := by
  simp only [vx_ot, Bool.or_eq_true] at hg
  rcases hg with hg | hg
  · exact va_tabs hg hvm h
  · exact word_at hW (good_of_word hg) h
/-- a list's words: the good ones out of the method's own list, the others by premises of their own -/
theorem vx_hat {args : Array Value} {s : State} {L B : List Cond} (h1 : ∀ w ∈ L.filter goodWord, w.before args s = true) (h2 : ∀ w ∈ L.filter (fun w => !goodWord w), w ∈ B) (h3 : ∀ w ∈ B, w.before args s = true) : ∀ w ∈ L, w.before args s = true := by
  intro w hw
  by_cases g : goodWord w = true
  · exact h1 w (List.mem_filter.mpr ⟨hw, g⟩)
  · refine h3 w (h2 w (List.mem_filter.mpr ⟨hw, ?_⟩))
    show (!goodWord w) = true
    cases hgw : goodWord w
    · rfl
    · exact absurd hgw g
theorem vx_c {args : Array Value} {s : State} {w : Cond} {B : List Cond} (h : w.before args s = true) (t : ∀ w ∈ B, w.before args s = true) : ∀ w' ∈ w :: B, w'.before args s = true := fun w' h' => (List.mem_cons.mp h').elim (fun e => by rw [e]; exact h) (t w')
theorem vx_n {args : Array Value} {s : State} : ∀ w ∈ ([] : List Cond), w.before args s = true := fun _ h => nomatch h
theorem vx_own {args : Array Value} {s : State} {L : List Cond} (h1 : ∀ w ∈ L.filter vx_no, w.before args s = true)
    (hU : (Cond.isRef (.static Bundle.tN "UNASSIGNED_STACK" Bundle.steD)).before args s = true) (hN : (Cond.isRef (.static Bundle.tN "SUPPRESSED_SENTINEL" Bundle.listD)).before args s = true)
    (lU : (Cond.laysStatic Bundle.tN "UNASSIGNED_STACK" Bundle.steD).before args s = true) (lN : (Cond.laysStatic Bundle.tN "SUPPRESSED_SENTINEL" Bundle.listD).before args s = true) : ∀ w ∈ L, w.before args s = true := by
  intro w hw
  by_cases e1 : w = .isRef (.static Bundle.tN "UNASSIGNED_STACK" Bundle.steD)
  · rw [e1]; exact hU
  · by_cases e2 : w = .isRef (.static Bundle.tN "SUPPRESSED_SENTINEL" Bundle.listD)
    · rw [e2]; exact hN
    · by_cases e3 : w = .laysStatic Bundle.tN "UNASSIGNED_STACK" Bundle.steD
      · rw [e3]; exact lU
      · by_cases e4 : w = .laysStatic Bundle.tN "SUPPRESSED_SENTINEL" Bundle.listD
        · rw [e4]; exact lN
        · exact h1 w (List.mem_filter.mpr ⟨hw, by unfold vx_no; rw [decide_eq_true e1, decide_eq_true e2, decide_eq_true e3, decide_eq_true e4]; rfl⟩)
/-- where a static field lies, its class's statics cell in H -/
def vx_L (C n d : String) (A : Nat → Prop) (U : State) (H : Heap) : Prop := ∃ (c : ClassId) (k : Class) (i : Nat) (f : Field) (a : Nat) (cell : Cell), U.vm.findClass C = some c ∧ U.fieldFound? C n d = some (c, k, i, f) ∧ f.isStatic = true ∧ k.statics = some a ∧ H[a]? = some cell ∧ cell.vm.isStatics = true ∧ cell.cls = c ∧ f.slot < cell.slots.size ∧ k.staticTypes[f.slot]? = some f.type ∧ ¬ A a
theorem vx_L.moved {C n d : String} {A : Nat → Prop} {u U : State} {H : Heap} (hvm : u.vm.Alike U.vm) (h : vx_L C n d A u H) : vx_L C n d A U H := by
  obtain ⟨c, k, i, f, a, cell, h1, h2, h3, h4, h5, h6, h7, h8, h9, h10⟩ := h
  obtain ⟨k', hi', he⟩ := State.fieldFound?_setVm hvm h2
  exact ⟨c, k', i, f, a, cell, by rw [hvm.findClass]; exact h1, hi', h3, by rw [he]; exact h4, h5, h6, h7, h8, by rw [he]; exact h9, h10⟩
theorem vx_L.kept {C n d : String} {A : Nat → Prop} {U : State} {H H1 : Heap} (h : vx_L C n d A U H) (hq : ∀ a : Nat, a < H.size → ¬ A a → H1[a]? = H[a]?) : vx_L C n d A U H1 := by
  obtain ⟨c, k, i, f, a, cell, h1, h2, h3, h4, h5, h6, h7, h8, h9, h10⟩ := h
  exact ⟨c, k, i, f, a, cell, h1, h2, h3, h4, by rw [hq a (Array.getElem?_eq_some_iff.mp h5).1 h10]; exact h5, h6, h7, h8, h9, h10⟩
theorem vx_L.narrow {C n d : String} {A B : Nat → Prop} {U : State} {H : Heap} (h : vx_L C n d A U H) (hAB : ∀ q, B q → A q) : vx_L C n d B U H := by
  obtain ⟨c, k, i, f, a, cell, h1, h2, h3, h4, h5, h6, h7, h8, h9, h10⟩ := h
  exact ⟨c, k, i, f, a, cell, h1, h2, h3, h4, h5, h6, h7, h8, h9, fun z => h10 (hAB _ z)⟩
theorem vx_L.word {C n d : String} {A : Nat → Prop} {s : State} {args : Array Value} (h : vx_L C n d A s s.heap) : (Cond.laysStatic C n d).before args s = true := by
  obtain ⟨c, k, i, f, a, cell, h1, h2, h3, h4, h5, h6, h7, h8, h9, -⟩ := h
  show (Cond.laysStatic C n d).holds args s none s [] = true
  exact Cond.laysStatic_of h1 h2 h3 h4 h5 h6 h7 h8 h9
/-- .. and what it holds: null or some reference -/
def vx_Zq (C n d : String) (A : Nat → Prop) (U : State) (H : Heap) : Prop := va_Zq C n d A U H ∧ vx_L C n d A U H
theorem vx_Zq.moved {C n d : String} {A : Nat → Prop} {u U : State} {H : Heap} (hvm : u.vm.Alike U.vm) (h : vx_Zq C n d A u H) : vx_Zq C n d A U H := ⟨va_Zq.moved hvm h.1, vx_L.moved hvm h.2⟩
theorem vx_Zq.kept {C n d : String} {A : Nat → Prop} {U : State} {H H1 : Heap} (h : vx_Zq C n d A U H) (hq : ∀ a : Nat, a < H.size → ¬ A a → H1[a]? = H[a]?) : vx_Zq C n d A U H1 := ⟨va_Zq.kept h.1 hq, vx_L.kept h.2 hq⟩
theorem vx_Zq.narrow {C n d : String} {A B : Nat → Prop} {U : State} {H : Heap} (h : vx_Zq C n d A U H) (hAB : ∀ q, B q → A q) : vx_Zq C n d B U H := ⟨va_Zq.narrow h.1 hAB, vx_L.narrow h.2 hAB⟩
theorem vx_Zqof {args : Array Value} {s : State} {C n d : String} {A : Nat → Prop} (hl : (Cond.laysStatic C n d).before args s = true) (hini : (Cond.initialized C).before args s = true) (h : (Cond.isRef (.static C n d)).before args s = true) (hA : ∀ a : Nat, a < s.heap.size → ¬ A a) : vx_Zq C n d A s s.heap := by
  refine ⟨va_Zqof hl hini h hA, ?_⟩
  obtain ⟨c, k, i, f, a, cell, h1, h2, h3, h4, h5, h6, h7, h8, h9⟩ := Cond.laysStatic_spec hl
  exact ⟨c, k, i, f, a, cell, h1, h2, h3, h4, h5, h6, h7, h8, h9, hA a (Array.getElem?_eq_some_iff.mp h5).1⟩
theorem vx_isRef {C n d : String} {v : Value} {A : Nat → Prop} {s : State} {args : Array Value} (h : va_Z C n d v A s s.heap) (hv : v.isRef = true) : (Cond.isRef (.static C n d)).before args s = true := by
  obtain ⟨cf, kf, fi, f, a, cell, h1, h2, h3, h4, h5, h6, h7, -⟩ := h
  have he : (Term.static C n d).eval args s none [] s = some v := by
    simp [Term.eval, State.fieldNamed?, h1, h2, h4, h5, h6, h7]
  simp only [Cond.before, Cond.holds, Cond.value, he]
  cases v <;> simp_all [Value.isRef]
theorem vx_isRefq {C n d : String} {A : Nat → Prop} {s : State} {args : Array Value} (h : va_Zq C n d A s s.heap) : (Cond.isRef (.static C n d)).before args s = true := by
  rcases h with h | ⟨t, h⟩
  · exact vx_isRef h rfl
  · exact vx_isRef h rfl
/-- the same frame, seen from here: as if the method were called anew in this heap -/
theorem vx_rebase {T : State} (X : Stand p l e R s m args below meth c T locs cells slots) {R' : Room} (hf : R'.frames ≤ R.frames) (hl : R'.locals ≤ R.locals) (hc : cells + R'.cells ≤ R.cells) (hs : slots + R'.slots ≤ R.slots) :
    Stand p l e R' ((T.setVm s.vm).setFrames (.invoking m args :: below)) m args below meth c T [] 0 0 := by
  have htop : (T.setVm s.vm).topJava?.isSome := X.here.top
  have hF : ((T.setVm s.vm).setFrames (.invoking m args :: below)).frames = .invoking m args :: below := State.frames_setFrames _ (State.cur_lt_of_top htop)
  obtain ⟨g₀, hg0⟩ := Option.isSome_iff_exists.mp htop
  obtain ⟨r, hr⟩ := State.topJava?_eq_some.mp hg0
  have hl9 : e.platform.stackLimits (T.setVm s.vm).me = e.platform.stackLimits s.me := X.limits
  have hb9 : (T.setVm s.vm).me.stackBytes = s.me.stackBytes := X.bytes
  refine ⟨X.admits, X.cas, X.clock, hF, ?_, X.hears, X.method, X.code, X.here, X.tail, X.warmed, ?_, ?_, ?_⟩
  · have h := X.room
    have hU : ((T.setVm s.vm).setFrames (.invoking m args :: below)).localsInUse = s.localsInUse := by
      rw [State.localsInUse_invoking hF (meth := meth) (c := c) X.method X.code, State.localsInUse_invoking X.frames X.method X.code]
    simp only [State.hasRoom, Bool.and_eq_true, decide_eq_true_eq] at h ⊢
    obtain ⟨⟨⟨⟨h1, h2, h3, h4, h5, h6⟩, h7⟩, h8⟩, h9⟩ := h
    rw [X.frames, List.length_cons] at h2 h3
    have q1 := X.heapSize
    have q2 := X.used
    simp only [hF, hU, List.length_cons, State.stackLimits_setFrames, State.stackBytes_setFrames, hl9, hb9]
    refine ⟨⟨⟨⟨by omega, by omega, by omega, by omega, by omega, h6⟩, ?_⟩, ?_⟩, X.book⟩
    · show T.heap.size + R'.cells ≤ e.platform.maxCells
      omega
    · show T.slotsUsed + R'.slots ≤ e.platform.maxSlots
      omega
  · rw [State.stackLimits_setFrames]; rfl
  · rw [State.stackBytes_setFrames]; rfl
  · refine ⟨?_, Nat.le_refl _, Nat.le_refl _, ?_, ?_, fun a c9 h9 => ⟨c9, h9, rfl, rfl, fun _ _ => rfl⟩⟩
    · obtain ⟨t, ht, -⟩ := State.frames_cons hr
      show T.setVm s.vm = { ((T.setVm s.vm).setFrames (.invoking m args :: below)).setFrames (T.setVm s.vm).frames with heap := T.heap, slotsUsed := T.slotsUsed }
      rw [State.setFrames_setFrames, State.setFrames_self ht]
      rfl
    · show T.slotsUsed = T.slotsUsed + ((T.heap.toList.drop T.heap.size).map (·.slots.size)).sum
      rw [List.drop_eq_nil_of_le (Nat.le_of_eq Array.length_toList)]
      rfl
    · show ((T.heap.toList.drop T.heap.size).map (·.slots.size)).sum ≤ 0
      rw [List.drop_eq_nil_of_le (Nat.le_of_eq Array.length_toList)]
      exact Nat.le_refl _
/-- 'throw new E()': new; dup; invokespecial; athrow -/
theorem vx_throw0 {cc : ByteArray} {pc : Nat} (hexec : p.tables.exec = Jvm.exec) (hb : c.code = cc) (hl : l.stackTraces = false) {own cls : String} {names : List String} {ik ic mc ms : Nat} {A : Nat → Prop}
    (hown : s.vm.findClass own = some m.cls) (hcls : Bundle.fit cls = true) (hnames : ∀ n ∈ names, Bundle.fit n = true)
    (hk : (Cond.classLink own ik cls).before args s = true) (hini : (Cond.initialized cls).before args s = true) (hat : ∀ w ∈ vx_at0 own ic cls names, w.before args s = true)
    (hgood : ∀ w ∈ Cond.classLink own ik cls :: Cond.initialized cls :: vx_at0 own ic cls names, vx_ot w = true)
    (hU : vx_Zq Bundle.tN "UNASSIGNED_STACK" Bundle.steD A s s.heap) (hN : vx_Zq Bundle.tN "SUPPRESSED_SENTINEL" Bundle.listD A s s.heap) (hS : va_S A s.heap H locs) (hsize : ls.size = c.maxLocals)
    (d0 : decode cc pc = .ok (.new ik, 3)) (d3 : decode cc (pc + 3) = .ok (.dup, 1)) (d4 : decode cc (pc + 4) = .ok (.invokespecial ic, 3)) (d7 : decode cc (pc + 7) = .ok (.athrow, 1))
    (hout : ∀ x ∈ c.exceptionTable.toList, covers x (pc + 7) = false)
    (hRframes : names.length + 3 < R.frames) (hRlocals : (rest.map fun v => v.category).sum + (13 * (names.length + 1) + 42) ≤ R.locals) (hRcells : cells + 1 ≤ R.cells) (hRslots : slots + 6 ≤ R.slots) (hlocks : meth.locks = false)
    (hx : ∀ t : State, s.vm.Alike t.vm → H.size ≤ t.heap.size → (∀ q : Nat, q < H.size → t.heap[q]? = H[q]?) → XC cls s t)
    (hf : ∀ z ∈ locs, free z.base) (hc : cells + 1 ≤ mc) (hs : slots + 6 ≤ ms) :
    W p l e R s m args below meth c H locs cells slots (vx_MQ below Qc XC args s mc ms free) (F0 m pc ls rest) := by
  intro T hT X
  have htr : e.platform.stackTraces = false := (show e.platform.stackTraces = l.stackTraces by rw [X.admits.platform]).trans hl
  have Y := vx_rebase X (R' := { frames := R.frames, locals := R.locals, cells := 1, slots := 6 }) (Nat.le_refl _) (Nat.le_refl _) hRcells hRslots
  obtain ⟨s', hA⟩ : ∃ z, z = (T.setVm s.vm).setFrames (.invoking m args :: below) := ⟨_, rfl⟩
  rw [← hA] at Y
  have hvm : s'.vm = s.vm := by rw [hA]; rfl
  have hhp : s'.heap = H := by rw [hA]; exact hT
  have hW0 : s.WarmedH s'.vm := by rw [hvm]; exact State.WarmedH.refl s
  have hat' : ∀ w ∈ vx_at0 own ic cls names, w.before args s' = true := fun w hw => vx_ot_at hW0 hvm.symm (hgood w (List.mem_cons_of_mem _ (List.mem_cons_of_mem _ hw))) (hat w hw)
  have hk' : (Cond.classLink own ik cls).before args s' = true := vx_ot_at hW0 hvm.symm (hgood _ List.mem_cons_self) hk
  have hini' : (Cond.initialized cls).before args s' = true := vx_ot_at hW0 hvm.symm (hgood _ (List.mem_cons_of_mem _ List.mem_cons_self)) hini
  have hU' : vx_Zq Bundle.tN "UNASSIGNED_STACK" Bundle.steD A s' s'.heap := by rw [hhp]; exact vx_Zq.moved hW0.alike (hU.kept hS.2.1)
  have hN' : vx_Zq Bundle.tN "SUPPRESSED_SENTINEL" Bundle.listD A s' s'.heap := by rw [hhp]; exact vx_Zq.moved hW0.alike (hN.kept hS.2.1)
  have h : ∀ w ∈ Bundle.ownAtoms0 own ic cls names, w.before args s' = true := vx_own hat' (vx_isRefq hU'.1) (vx_isRefq hN'.1) hU'.2.word hN'.2.word
  have hown' : s'.vm.findClass own = some m.cls := by rw [hvm]; exact hown
  have hins : (Cond.instantiable cls 6).before args s' = true := h _ (by simp [Bundle.ownAtoms0])
  obtain ⟨vm₁, cX, kX, hfX, hkX, -, -, X₁, st1⟩ := Y.newCold hexec (own := own) (C := cls) (index := ik) (n := 6) hown' hk' hins hini'
    (g := F0 m pc ls rest) rfl (by rw [hb]; exact d0) (Nat.le_refl _) (Nat.le_refl _)
  generalize hT1 : (T.setVm vm₁).pushCell { cls := cX, slots := kX.instanceTypes.map defaultValue, vm := .none } = T1 at X₁ st1
  have hcat : (Value.ref T.heap.size).category = 1 := rfl
  have hcellA : T1.heap[T.heap.size]? = some (freshCell cX kX) := by rw [← hT1]; exact State.heap_pushCell_size _ _
  have d3' : decode c.code (pc + 3) = .ok (.dup, 1) := by rw [hb]; exact d3
  obtain ⟨U, hsteps, hrun, hend, hW, hsame, ce, hce, hO⟩ := X₁.ctorThrow0 hexec htr (own := own) (cls := cls) (names := names) (ic := ic) hown' hcls hnames h (fun x hx => nomatch hx) hfX hkX hcellA (by rw [hhp, hT]; exact Nat.le_refl _)
    (g := { method := m, pc := pc + 4, locals := ls, stack := .ref T.heap.size :: .ref T.heap.size :: rest, locked := none }) rfl hsize rfl rfl (rest := rest) rfl
    (by rw [hb]; exact d4) (by rw [hb]; exact d7) hout hRframes (by simp only [List.map_cons, List.sum_cons, hcat]; omega) hlocks
  obtain ⟨f1, f2⟩ := vx_frame hsame
  rw [hhp] at f1 f2
  have hWs : s.WarmedH U.vm := State.WarmedH.trans hW0 hW
  have hcl : s.vm.findClass cls = some ce.cls := by
    have h9 := hO.cls
    rw [hvm] at h9
    exact h9
  have hall : s.sameButNew ({ U with vm := s.vm } : State) locs mc ms := by
    subst hA
    obtain ⟨e1, e2⟩ := hsame
    rw [State.setFrames_setFrames] at e1
    have h2 : (T.setVm s.vm).sameButNew ({ U with vm := s.vm } : State) [] (0 + 1) (0 + 6) := ⟨e1, e2⟩
    have h3 := X.same.trans h2
    rw [List.append_nil] at h3
    exact h3.mono hc hs
  refine ⟨U, ?_, .threw T.heap.size, hrun, hend, Or.inr ⟨T.heap.size, rfl, cls, ce, locs, hx U hWs.alike f1 (fun q hq => f2 q hq (fun z hz => nomatch hz)), hce, hO.vm, hcl, hWs, hall, hf⟩⟩
  refine st1 _ ?_
  show Steps p.tables e below (T1.setTop { method := m, pc := pc + 3, locals := ls, stack := .ref T.heap.size :: rest, locked := none }) _
  jvm_step X₁.here [X₁.here.top, hexec, d3', Value.category]
  exact hsteps
/-- 'throw new E("text")': new; dup; ldc; invokespecial; athrow -/
theorem vx_throwS {cc : ByteArray} {pc : Nat} (hexec : p.tables.exec = Jvm.exec) (hb : c.code = cc) (hl : l.stackTraces = false) {own cls text : String} {names : List String} {ik is ic mc ms sa : Nat} {A : Nat → Prop}
    (hown : s.vm.findClass own = some m.cls) (hcls : Bundle.fit cls = true) (hnames : ∀ n ∈ names, Bundle.fit n = true)
    (hk : (Cond.classLink own ik cls).before args s = true) (hini : (Cond.initialized cls).before args s = true) (hstr : vk_R own is text sa s) (hat : ∀ w ∈ vx_atS own ic cls names, w.before args s = true)
    (hgood : ∀ w ∈ Cond.classLink own ik cls :: Cond.initialized cls :: vx_atS own ic cls names, vx_ot w = true)
    (hU : vx_Zq Bundle.tN "UNASSIGNED_STACK" Bundle.steD A s s.heap) (hN : vx_Zq Bundle.tN "SUPPRESSED_SENTINEL" Bundle.listD A s s.heap) (hS : va_S A s.heap H locs) (hsize : ls.size = c.maxLocals)
    (d0 : decode cc pc = .ok (.new ik, 3)) (d3 : decode cc (pc + 3) = .ok (.dup, 1)) (d4 : decode cc (pc + 4) = .ok (.ldc is, 2)) (d6 : decode cc (pc + 6) = .ok (.invokespecial ic, 3)) (d9 : decode cc (pc + 9) = .ok (.athrow, 1))
    (hout : ∀ x ∈ c.exceptionTable.toList, covers x (pc + 9) = false)
    (hRframes : names.length + 3 < R.frames) (hRlocals : (rest.map fun v => v.category).sum + (13 * (names.length + 1) + 43) ≤ R.locals) (hRcells : cells + 1 ≤ R.cells) (hRslots : slots + 6 ≤ R.slots) (hlocks : meth.locks = false)
    (hx : ∀ t : State, s.vm.Alike t.vm → H.size ≤ t.heap.size → (∀ q : Nat, q < H.size → t.heap[q]? = H[q]?) → XC cls s t)
    (hf : ∀ z ∈ locs, free z.base) (hc : cells + 1 ≤ mc) (hs : slots + 6 ≤ ms) :
    W p l e R s m args below meth c H locs cells slots (vx_MQ below Qc XC args s mc ms free) (F0 m pc ls rest) := by
  intro T hT X
  have htr : e.platform.stackTraces = false := (show e.platform.stackTraces = l.stackTraces by rw [X.admits.platform]).trans hl
  have Y := vx_rebase X (R' := { frames := R.frames, locals := R.locals, cells := 1, slots := 6 }) (Nat.le_refl _) (Nat.le_refl _) hRcells hRslots
  obtain ⟨s', hA⟩ : ∃ z, z = (T.setVm s.vm).setFrames (.invoking m args :: below) := ⟨_, rfl⟩
  rw [← hA] at Y
  have hvm : s'.vm = s.vm := by rw [hA]; rfl
  have hhp : s'.heap = H := by rw [hA]; exact hT
  have hW0 : s.WarmedH s'.vm := by rw [hvm]; exact State.WarmedH.refl s
  have hat' : ∀ w ∈ vx_atS own ic cls names, w.before args s' = true := fun w hw => vx_ot_at hW0 hvm.symm (hgood w (List.mem_cons_of_mem _ (List.mem_cons_of_mem _ hw))) (hat w hw)
  have hk' : (Cond.classLink own ik cls).before args s' = true := vx_ot_at hW0 hvm.symm (hgood _ List.mem_cons_self) hk
  have hini' : (Cond.initialized cls).before args s' = true := vx_ot_at hW0 hvm.symm (hgood _ (List.mem_cons_of_mem _ List.mem_cons_self)) hini
  have hU' : vx_Zq Bundle.tN "UNASSIGNED_STACK" Bundle.steD A s' s'.heap := by rw [hhp]; exact vx_Zq.moved hW0.alike (hU.kept hS.2.1)
  have hN' : vx_Zq Bundle.tN "SUPPRESSED_SENTINEL" Bundle.listD A s' s'.heap := by rw [hhp]; exact vx_Zq.moved hW0.alike (hN.kept hS.2.1)
  have h : ∀ w ∈ Bundle.ownAtoms own ic cls names, w.before args s' = true := vx_own hat' (vx_isRefq hU'.1) (vx_isRefq hN'.1) hU'.2.word hN'.2.word
  have hown' : s'.vm.findClass own = some m.cls := by rw [hvm]; exact hown
  have hins : (Cond.instantiable cls 6).before args s' = true := h _ (by simp [Bundle.ownAtoms])
  obtain ⟨vm₁, cX, kX, hfX, hkX, -, -, X₁, st1⟩ := Y.newCold hexec (own := own) (C := cls) (index := ik) (n := 6) hown' hk' hins hini'
    (g := F0 m pc ls rest) rfl (by rw [hb]; exact d0) (Nat.le_refl _) (Nat.le_refl _)
  generalize hT1 : (T.setVm vm₁).pushCell { cls := cX, slots := kX.instanceTypes.map defaultValue, vm := .none } = T1 at X₁ st1
  have hcat : (Value.ref T.heap.size).category = 1 := rfl
  have hcellA : T1.heap[T.heap.size]? = some (freshCell cX kX) := by rw [← hT1]; exact State.heap_pushCell_size _ _
  have d3' : decode c.code (pc + 3) = .ok (.dup, 1) := by rw [hb]; exact d3
  have d4' : decode c.code (pc + 4) = .ok (.ldc is, 2) := by rw [hb]; exact d4
  have hstr' : vk_R own is text sa s' := vk_R.warm hW0 hstr
  obtain ⟨U, hsteps, hrun, hend, hW, hsame, ce, hce, hO⟩ := X₁.ctorThrowS hexec htr (own := own) (cls := cls) (names := names) (ic := ic) hown' hcls hnames h (fun x hx => nomatch hx) hfX hkX hcellA (by rw [hhp, hT]; exact Nat.le_refl _) (msg := .ref sa) rfl
    (g := { method := m, pc := pc + 6, locals := ls, stack := .ref sa :: .ref T.heap.size :: .ref T.heap.size :: rest, locked := none }) rfl hsize rfl rfl (rest := rest) rfl
    (by rw [hb]; exact d6) (by rw [hb]; exact d9) hout hRframes (by simp only [List.map_cons, List.sum_cons, hcat]; omega) hlocks
  obtain ⟨f1, f2⟩ := vx_frame hsame
  rw [hhp] at f1 f2
  have hWs : s.WarmedH U.vm := State.WarmedH.trans hW0 hW
  have hcl : s.vm.findClass cls = some ce.cls := by
    have h9 := hO.cls
    rw [hvm] at h9
    exact h9
  have hall : s.sameButNew ({ U with vm := s.vm } : State) locs mc ms := by
    subst hA
    obtain ⟨e1, e2⟩ := hsame
    rw [State.setFrames_setFrames] at e1
    have h2 : (T.setVm s.vm).sameButNew ({ U with vm := s.vm } : State) [] (0 + 1) (0 + 6) := ⟨e1, e2⟩
    have h3 := X.same.trans h2
    rw [List.append_nil] at h3
    exact h3.mono hc hs
  refine ⟨U, ?_, .threw T.heap.size, hrun, hend, Or.inr ⟨T.heap.size, rfl, cls, ce, locs, hx U hWs.alike f1 (fun q hq => f2 q hq (fun z hz => nomatch hz)), hce, hO.vm, hcl, hWs, hall, hf⟩⟩
  refine st1 _ ?_
  show Steps p.tables e below (T1.setTop { method := m, pc := pc + 3, locals := ls, stack := .ref T.heap.size :: rest, locked := none }) _
  jvm_step X₁.here [X₁.here.top, hexec, d3', Value.category]
  exact X₁.ldcString hexec (own := own) (text := text) (index := is) (a := sa) hown' hstr'.1 hstr'.2
    (g := { method := m, pc := pc + 4, locals := ls, stack := .ref T.heap.size :: .ref T.heap.size :: rest, locked := none }) rfl d4' _ hsteps
/-- 'throw new E("text")', the text by a wide index -/
theorem vx_throwSW {cc : ByteArray} {pc : Nat} (hexec : p.tables.exec = Jvm.exec) (hb : c.code = cc) (hl : l.stackTraces = false) {own cls text : String} {names : List String} {ik is ic mc ms sa : Nat} {A : Nat → Prop}
    (hown : s.vm.findClass own = some m.cls) (hcls : Bundle.fit cls = true) (hnames : ∀ n ∈ names, Bundle.fit n = true)
    (hk : (Cond.classLink own ik cls).before args s = true) (hini : (Cond.initialized cls).before args s = true) (hstr : vk_R own is text sa s) (hat : ∀ w ∈ vx_atS own ic cls names, w.before args s = true)
    (hgood : ∀ w ∈ Cond.classLink own ik cls :: Cond.initialized cls :: vx_atS own ic cls names, vx_ot w = true)
    (hU : vx_Zq Bundle.tN "UNASSIGNED_STACK" Bundle.steD A s s.heap) (hN : vx_Zq Bundle.tN "SUPPRESSED_SENTINEL" Bundle.listD A s s.heap) (hS : va_S A s.heap H locs) (hsize : ls.size = c.maxLocals)
    (d0 : decode cc pc = .ok (.new ik, 3)) (d3 : decode cc (pc + 3) = .ok (.dup, 1)) (d4 : decode cc (pc + 4) = .ok (.ldc_w is, 3)) (d7 : decode cc (pc + 7) = .ok (.invokespecial ic, 3)) (d10 : decode cc (pc + 10) = .ok (.athrow, 1))
    (hout : ∀ x ∈ c.exceptionTable.toList, covers x (pc + 10) = false)
    (hRframes : names.length + 3 < R.frames) (hRlocals : (rest.map fun v => v.category).sum + (13 * (names.length + 1) + 43) ≤ R.locals) (hRcells : cells + 1 ≤ R.cells) (hRslots : slots + 6 ≤ R.slots) (hlocks : meth.locks = false)
    (hx : ∀ t : State, s.vm.Alike t.vm → H.size ≤ t.heap.size → (∀ q : Nat, q < H.size → t.heap[q]? = H[q]?) → XC cls s t)
    (hf : ∀ z ∈ locs, free z.base) (hc : cells + 1 ≤ mc) (hs : slots + 6 ≤ ms) :
    W p l e R s m args below meth c H locs cells slots (vx_MQ below Qc XC args s mc ms free) (F0 m pc ls rest) := by
  intro T hT X
  have htr : e.platform.stackTraces = false := (show e.platform.stackTraces = l.stackTraces by rw [X.admits.platform]).trans hl
  have Y := vx_rebase X (R' := { frames := R.frames, locals := R.locals, cells := 1, slots := 6 }) (Nat.le_refl _) (Nat.le_refl _) hRcells hRslots
  obtain ⟨s', hA⟩ : ∃ z, z = (T.setVm s.vm).setFrames (.invoking m args :: below) := ⟨_, rfl⟩
  rw [← hA] at Y
  have hvm : s'.vm = s.vm := by rw [hA]; rfl
  have hhp : s'.heap = H := by rw [hA]; exact hT
  have hW0 : s.WarmedH s'.vm := by rw [hvm]; exact State.WarmedH.refl s
  have hat' : ∀ w ∈ vx_atS own ic cls names, w.before args s' = true := fun w hw => vx_ot_at hW0 hvm.symm (hgood w (List.mem_cons_of_mem _ (List.mem_cons_of_mem _ hw))) (hat w hw)
  have hk' : (Cond.classLink own ik cls).before args s' = true := vx_ot_at hW0 hvm.symm (hgood _ List.mem_cons_self) hk
  have hini' : (Cond.initialized cls).before args s' = true := vx_ot_at hW0 hvm.symm (hgood _ (List.mem_cons_of_mem _ List.mem_cons_self)) hini
  have hU' : vx_Zq Bundle.tN "UNASSIGNED_STACK" Bundle.steD A s' s'.heap := by rw [hhp]; exact vx_Zq.moved hW0.alike (hU.kept hS.2.1)
  have hN' : vx_Zq Bundle.tN "SUPPRESSED_SENTINEL" Bundle.listD A s' s'.heap := by rw [hhp]; exact vx_Zq.moved hW0.alike (hN.kept hS.2.1)
  have h : ∀ w ∈ Bundle.ownAtoms own ic cls names, w.before args s' = true := vx_own hat' (vx_isRefq hU'.1) (vx_isRefq hN'.1) hU'.2.word hN'.2.word
  have hown' : s'.vm.findClass own = some m.cls := by rw [hvm]; exact hown
  have hins : (Cond.instantiable cls 6).before args s' = true := h _ (by simp [Bundle.ownAtoms])
  obtain ⟨vm₁, cX, kX, hfX, hkX, -, -, X₁, st1⟩ := Y.newCold hexec (own := own) (C := cls) (index := ik) (n := 6) hown' hk' hins hini'
    (g := F0 m pc ls rest) rfl (by rw [hb]; exact d0) (Nat.le_refl _) (Nat.le_refl _)
  generalize hT1 : (T.setVm vm₁).pushCell { cls := cX, slots := kX.instanceTypes.map defaultValue, vm := .none } = T1 at X₁ st1
  have hcat : (Value.ref T.heap.size).category = 1 := rfl
  have hcellA : T1.heap[T.heap.size]? = some (freshCell cX kX) := by rw [← hT1]; exact State.heap_pushCell_size _ _
  have d3' : decode c.code (pc + 3) = .ok (.dup, 1) := by rw [hb]; exact d3
  have d4' : decode c.code (pc + 4) = .ok (.ldc_w is, 3) := by rw [hb]; exact d4
  have hstr' : vk_R own is text sa s' := vk_R.warm hW0 hstr
  obtain ⟨U, hsteps, hrun, hend, hW, hsame, ce, hce, hO⟩ := X₁.ctorThrowS hexec htr (own := own) (cls := cls) (names := names) (ic := ic) hown' hcls hnames h (fun x hx => nomatch hx) hfX hkX hcellA (by rw [hhp, hT]; exact Nat.le_refl _) (msg := .ref sa) rfl
    (g := { method := m, pc := pc + 7, locals := ls, stack := .ref sa :: .ref T.heap.size :: .ref T.heap.size :: rest, locked := none }) rfl hsize rfl rfl (rest := rest) rfl
    (by rw [hb]; exact d7) (by rw [hb]; exact d10) hout hRframes (by simp only [List.map_cons, List.sum_cons, hcat]; omega) hlocks
  obtain ⟨f1, f2⟩ := vx_frame hsame
  rw [hhp] at f1 f2
  have hWs : s.WarmedH U.vm := State.WarmedH.trans hW0 hW
  have hcl : s.vm.findClass cls = some ce.cls := by
    have h9 := hO.cls
    rw [hvm] at h9
    exact h9
  have hall : s.sameButNew ({ U with vm := s.vm } : State) locs mc ms := by
    subst hA
    obtain ⟨e1, e2⟩ := hsame
    rw [State.setFrames_setFrames] at e1
    have h2 : (T.setVm s.vm).sameButNew ({ U with vm := s.vm } : State) [] (0 + 1) (0 + 6) := ⟨e1, e2⟩
    have h3 := X.same.trans h2
    rw [List.append_nil] at h3
    exact h3.mono hc hs
  refine ⟨U, ?_, .threw T.heap.size, hrun, hend, Or.inr ⟨T.heap.size, rfl, cls, ce, locs, hx U hWs.alike f1 (fun q hq => f2 q hq (fun z hz => nomatch hz)), hce, hO.vm, hcl, hWs, hall, hf⟩⟩
  refine st1 _ ?_
  show Steps p.tables e below (T1.setTop { method := m, pc := pc + 3, locals := ls, stack := .ref T.heap.size :: rest, locked := none }) _
  jvm_step X₁.here [X₁.here.top, hexec, d3', Value.category]
  exact X₁.ldcStringW hexec (own := own) (text := text) (index := is) (a := sa) hown' hstr'.1 hstr'.2
    (g := { method := m, pc := pc + 4, locals := ls, stack := .ref T.heap.size :: .ref T.heap.size :: rest, locked := none }) rfl d4' _ hsteps
end Ends
section Bodies
variable {l : Launch}
theorem vx_ofW {y : MethodName} {ws ws' : List Cond} {rm : Room} {Pc : Array Value → State → Prop} {Qc : Array Value → State → Outcome → State → Prop} {XC : String → State → State → Prop} {mc ms : Nat} {free : Addr → Prop} {cc : ByteArray} {maxL : Nat} {ret : Option FieldType}
    (hy : plainName y.cls = true) (hw : ws = Cond.code y cc maxL ret :: ws')
    (body : ∀ p e s m args below meth c s₁, BodyLoose p l y (headSpec ws rm) cc maxL ret e s m args below meth c s₁ → c.maxLocals = maxL → (∀ x ∈ c.exceptionTable.toList, False) → Pc args s →
      W p l e (headSpec ws rm).room s m args below meth c s.heap [] 0 0 (vx_MQ below Qc XC args s mc ms free) (entryFrame m args maxL)) : vx_Met l y ws rm Pc Qc XC mc ms free := by
  refine MetFree.of_bodyS (code := cc) (maxLocals := maxL) (ret := ret) hy ?_ ?_
  · intro args s m h hn
    obtain ⟨meth, c, h1, h2, h3, h4, h5, h6, -, -⟩ := Cond.code_spec hn (atoms_spec (ws := ws) h _ (by rw [hw]; exact List.mem_cons_self))
    exact ⟨meth, c, h1, h2, h3, h4, h5, h6⟩
  · intro p e s m args below meth c s₁ B hml hP _
    have hh0 : s₁.heap = s.heap := by rw [B.state]; rfl
    have ht : ∀ x ∈ c.exceptionTable.toList, False := by
      obtain ⟨meth9, c9, h1, h2, -, -, -, -, h7, -⟩ := Cond.code_spec B.named (atoms_spec (ws := ws) B.pre _ (by rw [hw]; exact List.mem_cons_self))
      cases Option.some.inj (h1.symm.trans B.method)
      cases Option.some.inj (h2.symm.trans (Stand.of_body B).code)
      intro x hx
      rw [Array.isEmpty_iff.mp h7] at hx
      cases hx
    obtain ⟨t, a1, o, b1, b2, b3⟩ := body p e s m args below meth c s₁ B hml ht hP s₁ hh0 (Stand.of_body B)
    exact ⟨t, o, a1, b1, b2, b3⟩
/-- the table of a body with handlers -/
theorem vx_table {p : Program} {x y : MethodName} {S : Spec} {cc bytes : ByteArray} {maxL maxL' : Nat} {ret ret' : Option FieldType} {e : Env} {s s₁ : State} {m : MethodId} {args : Array Value} {below : List Frame} {meth : Method} {c : Code} {hh : List (Nat × Nat × Nat × Nat)}
    (B : BodyLoose p l y S cc maxL ret e s m args below meth c s₁) (h : (Cond.codeWith y bytes maxL' ret' hh).before args s = true) : c.exceptionTable.toList = tableOf hh := by
  obtain ⟨m9, meth9, c9, hn9, h1, h2, -, -, h6, -⟩ := Cond.codeWith_spec h
  cases Option.some.inj (hn9.symm.trans B.named)
  cases Option.some.inj (h1.symm.trans B.method)
  cases Option.some.inj (h2.symm.trans (Stand.of_body B).code)
  rw [← h6, table_eq]
end Bodies
end VXA
/-! ===== END ===== -/
/-! ===== BEGIN a static call of a method with an exception table ===== -/
section VXS
variable {p : Program} {l : Launch} {e : Env} {R : Room} {s : State} {m : MethodId} {args : Array Value} {below : List Frame} {meth : Method} {c : Code} {T : State} {H : Heap} {locs : List Loc} {cells slots : Nat}
abbrev vx_CSW (R : Room) (s : State) (args : Array Value) (own : String) (index : Nat) (y : MethodName) (bytes : ByteArray) (maxL : Nat) (ret : Option FieldType) (hh : List (Nat × Nat × Nat × Nat)) (ws : List Cond) (rm : Room) (mc ms n : Nat) : Prop :=
  (rm.cells = mc ∧ rm.slots = ms ∧ rm.frames + 1 ≤ R.frames ∧ 8 + (maxL + 11) + rm.locals ≤ R.locals ∧ (∀ w ∈ ws, ∀ (a' : Array Value) (U : State), s.WarmedH U.vm → w.before a' U = true) ∧ Cond.codeWith y bytes maxL ret hh ∈ ws) ∧
  (Cond.codeWith y bytes maxL ret hh).before args s = true ∧ (Cond.initialized y.cls).before args s = true ∧ (y.cls ≠ "java/lang/invoke/MethodHandle" ∧ y.cls ≠ "java/lang/invoke/VarHandle") ∧
  (∀ sig, parseMethodDescriptor y.desc = some sig → n = sig.parameters.length) ∧ (Cond.methodLink own index y).before args s = true ∧ (Cond.static y).before args s = true
theorem vx_cwSW {own : String} {index maxL mc ms : Nat} {y : MethodName} {bytes : ByteArray} {ret : Option FieldType} {hh : List (Nat × Nat × Nat × Nat)} {Ts ws ws' : List Cond} {rm : Room} (n : Nat) (ht : ∀ w ∈ Ts, w.before args s = true) (hT : GoodIn Ts (va_wsS own index y ws)) (hw : ws = Cond.codeWith y bytes maxL ret hh :: ws') (hrc : rm.cells = mc) (hrs : rm.slots = ms)
    (hd : y.cls ≠ "java/lang/invoke/MethodHandle" ∧ y.cls ≠ "java/lang/invoke/VarHandle" ∧ (parseMethodDescriptor y.desc).map (fun d => d.parameters.length) = some n) (hR : rm.frames + 1 ≤ R.frames ∧ 8 + (maxL + 11) + rm.locals ≤ R.locals) :
    vx_CSW R s args own index y bytes maxL ret hh ws rm mc ms n := by
  have ok : ∀ w ∈ va_wsS own index y ws, w.before args s = true := fun w h => ht w (hT w h).1
  have hG : GoodIn Ts ws := fun w h => hT w (by unfold va_wsS; exact List.mem_append_right _ h)
  have hc : Cond.codeWith y bytes maxL ret hh ∈ ws := by rw [hw]; exact List.mem_cons_self
  refine ⟨⟨hrc, hrs, hR.1, hR.2, pay_in ht hG, hc⟩, ht _ (hG _ hc).1, ok _ (by simp [va_wsS]), ⟨hd.1, hd.2.1⟩, fun sig h => ?_, ok _ (by simp [va_wsS]), ok _ (by simp [va_wsS])⟩
  have h2 := hd.2.2
  rw [h] at h2
  exact (Option.some.inj h2).symm
theorem vx_callSW (X : Stand p l e R s m args below meth c T locs cells slots) (hexec : p.tables.exec = Jvm.exec) {own : String} {index : Nat} {y : MethodName} {bytes : ByteArray} {maxL : Nat} {ret : Option FieldType} {hh : List (Nat × Nat × Nat × Nat)}
    (hown : s.vm.findClass own = some m.cls) (hlink : (Cond.methodLink own index y).before args s = true) (hstat : (Cond.static y).before args s = true) (hinit : (Cond.initialized y.cls).before args s = true)
    (hcode : (Cond.codeWith y bytes maxL ret hh).before args s = true) (hy : y.cls ≠ "java/lang/invoke/MethodHandle" ∧ y.cls ≠ "java/lang/invoke/VarHandle")
    {W9 : Nat} {Pre : Pt → Array Value → Prop} {Post : Pt → Array Value → Option Value → Pt → Prop} (hK : Back l R p e below s args y 3 W9 Pre Post)
    {g : JFrame} (hg : g.method = m) (hsize : g.locals.size = c.maxLocals) {argsL rest : List Value} (hlen : ∀ sig, parseMethodDescriptor y.desc = some sig → argsL.length = sig.parameters.length)
    (hstack : g.stack = argsL.reverse ++ rest) (hW : 2 * g.monitorRoom + (rest.map fun v => v.category).sum ≤ W9) (hdg : decode c.code g.pc = .ok (.invokestatic index, 3))
    (hpre : ∀ vm₁, s.WarmedH vm₁ → Pre ⟨T.setVm vm₁, locs, cells, slots⟩ argsL.toArray) :
    ∃ (v : Option Value) (vm₁ : Vm) (B : Pt), s.WarmedH vm₁ ∧ Stand p l e R s m args below meth c B.U B.locs B.cells B.slots ∧ Post ⟨T.setVm vm₁, locs, cells, slots⟩ argsL.toArray v B ∧
      ∀ target, Steps p.tables e below (B.U.setTop { g with pc := g.pc + 3, stack := v.toList ++ rest }) target → Steps p.tables e below (T.setTop g) target := by
  obtain ⟨mk, methM, cM, hnamed, hmethM, -, -, -, -, -, -, hsigM⟩ := Cond.codeWith_spec hcode
  have hstatic : methM.isStatic = true := Cond.static_spec hnamed hmethM hstat
  obtain ⟨kP, hkP, -⟩ := className_of_methodNamed hnamed
  have hinitP : kP.init = .initialized := Cond.initialized_spec (findClass_of_methodNamed hnamed) hkP hinit
  obtain ⟨vm₁, X₁, hstep₁⟩ := X.invokestatic hexec hown hlink hnamed hmethM hstatic hkP hinitP hy (g := g) hg (argsL := argsL) (rest := rest) (hlen _ hsigM) hstack hdg
  obtain ⟨v, B, X', hpost, hsteps⟩ := hK m meth c ⟨T.setVm vm₁, locs, cells, slots⟩ { g with stack := rest } (.invokestatic index) mk argsL.toArray X₁ hg hsize hdg hW (X₁.named hnamed) (hpre vm₁ X₁.warmed)
  exact ⟨v, vm₁, B, X₁.warmed, X', hpost, fun target h => hstep₁ _ fun acts => by rw [doInvoke_state]; exact hsteps.trans h⟩
theorem vx_runSW {y : MethodName} {bytes cc : ByteArray} {maxL nL mc ms n index : Nat} {ret : Option FieldType} {hh : List (Nat × Nat × Nat × Nat)} {ws : List Cond} {rm : Room} {Pc : Array Value → State → Prop} {Qc : Array Value → State → Outcome → State → Prop} {free : Addr → Prop} {Ts : List Cond} {own : String} {As rest : List Value} {g : JFrame}
    (S : CallFix p m c cc nL s args Ts own) (hM : Met l y ws rm Pc Qc mc ms free) (cw : vx_CSW R s args own index y bytes maxL ret hh ws rm mc ms n) (hp : PreS s H Pc As)
    (hg : g.method = m) (hn : As.length = n) (hsize : g.locals.size = nL) (hstack : g.stack = As.reverse ++ rest) (hW : 2 * g.monitorRoom + (rest.map fun v => v.category).sum ≤ 8) (hdg : decode cc g.pc = .ok (.invokestatic index, 3)) (hf : cells + mc ≤ R.cells ∧ slots + ms ≤ R.slots) :
    va_Run p l e R s m args below meth c H locs cells slots mc ms g rest (Qc As.toArray) (free) := by
  obtain ⟨⟨hrc, hrs, hfr, hlo, hws, hcw⟩, hcode, hini, hy, hlen, hl, hstt⟩ := cw
  have hK : Back l R p e below s args y 3 8 (PreOf R mc ms Pc) (PostOf Qc mc ms free) := va_backW (hh := hh) (bytes := bytes) (maxL := maxL) (ret := ret) hM hp.1 hrc hrs hfr hlo hws hcw (fun a' U hW => word_at hW (Or.inl (by first | rfl | simp [Cond.onTables, Cond.keeps, Cond.steady])) hini)
  obtain ⟨hx, hb, hml, ho, -⟩ := S
  intro T hT X
  obtain ⟨v, vm₁, ⟨U', l2, c2, s2⟩, hW₁, X', ⟨g', mk, t, L, e1, e2, hq, h1, hL, h2, h3⟩, st⟩ := vx_callSW X hx (hh := hh) (bytes := bytes) (maxL := maxL) (ret := ret) ho hl hstt hini hcode hy hK hg (hsize.trans hml.symm) (argsL := As) (rest := rest) (fun sig h => hn.trans (hlen sig h)) hstack hW (by rw [hb]; exact hdg)
    (fun vm₁ hW₁ => ⟨hf.1, hf.2, hp.2 (T.setVm vm₁) hT hW₁⟩)
  dsimp only [Pt.U, Pt.locs, Pt.cells, Pt.slots] at X' e1 e2 h1 h2 h3 st
  subst h1; subst h2; subst h3
  exact ⟨v, (T.setVm vm₁).calling g' mk As.toArray, t, U', L, hT, X', hL, e1, e2, hq, st⟩
/-- not caught here, past rows that name other classes: it goes on to the caller -/
theorem vx_outP {p : Program} {l : Launch} {e : Env} {R : Room} {s : State} {m : MethodId} {args : Array Value} {below : List Frame} {meth : Method} {c : Code} {H : Heap} {locs : List Loc} {cells slots : Nat} {free : Addr → Prop} {ls : Array Slot} {rest : List Value} {Qc : Array Value → State → Outcome → State → Prop} {XC : String → State → State → Prop}
    {pc : Nat} {own E : String} {ce : Cell} {q : Addr} {mc ms : Nat} (hown : s.vm.findClass own = some m.cls) (hlocks : meth.locks = false)
    (hpass : ∀ z ∈ c.exceptionTable.toList, covers z pc = false ∨ (z.catchType ≠ 0 ∧ ∃ nm : String, (Cond.classLink own z.catchType nm).before args s = true ∧ va_Nc E nm s)) (hcell : H[q]? = some ce) (hv : ce.vm = .none) (hcl : s.vm.findClass E = some ce.cls)
    (hx : ∀ t : State, t.heap = H → s.vm.Alike t.vm → XC E s t) (hf : ∀ z ∈ locs, free z.base) (hc : cells ≤ mc) (hs : slots ≤ ms) :
    vx_W p l e R s m args below meth c H locs cells slots (vx_MQ below Qc XC args s mc ms free) (F0 m pc ls rest) q := by
  intro T hT X
  have hpl : e.platform.magicAccessors = ({} : Platform).magicAccessors := by rw [X.admits.platform]
  obtain ⟨vm', hW', X', st⟩ := X.outThrough hlocks q (g := F0 m pc ls rest) rfl rfl rfl (cell := ce) (by rw [hT]; exact hcell) (by rw [hv]; rfl)
    (by obtain ⟨k9, h9, -⟩ := Vm.findClass_spec hcl; exact ⟨k9, h9⟩) (fun z hz => by
      rcases hpass z hz with h | ⟨hz0, nm, hl1, hn1⟩
      · exact Or.inl h
      · obtain ⟨c6, hc6, hcl6⟩ := Cond.classLink_spec hown hl1 e.platform hpl
        obtain ⟨a8, b8, h1, h2, h3⟩ := hn1
        cases Option.some.inj (h1.symm.trans hcl)
        cases Option.some.inj (h2.symm.trans hc6)
        exact Or.inr ⟨hz0, _, hcl6, h3⟩)
  obtain ⟨g₀, hfr⟩ := X'.frames_eq
  have hcell9 : ((T.setVm vm').setFrames (.throwing q :: below)).heap[q]? = some ce := by
    show T.heap[q]? = some ce
    rw [hT]; exact hcell
  have hend : Ended ((T.setVm vm').setFrames (.throwing q :: below)) below (.threw q) := State.frames_setFrames _ (State.cur_lt_of_frames hfr)
  refine ⟨(T.setVm vm').setFrames (.throwing q :: below), ?_, .threw q, X'.here.running, hend, Or.inr ⟨q, rfl, E, ce, locs, hx _ hT (X'.ends _).1.alike, hcell9, hv, hcl, (X'.ends _).1, (X'.ends _).2.mono hc hs, hf⟩⟩
  rw [X.pushThrowing_eq]
  exact st
/-- a thing of a world lies in the heap -/
theorem vx_lt {D : va_G} {cl : List vw_C} {ws : va_W} {H1 : Heap} (h : va_P D cl ws H1) {k : Nat} {q : Nat × va_E} (hk : ws[k]? = some q) : q.1 < H1.size := (h k q hk).lt
end VXS
/-! ===== END ===== -/
/-! ===== BEGIN methods with a table of their own: called by a name, returning or throwing ===== -/
section VXH
/-! vx_backW, vx_callVX, vx_callSX, vx_callVW, vx_runVW, vx_runVX, vx_runSX, vx_ofWH follow the same proofs as their sisters above (Free/Laws.lean, Shelf42/LK1.lean); vx_outP calls Shelf42/NT130.lean (outThrough). -/
section
variable {l : Launch} {R : Room} {p : Program} {e : Env} {below : List Frame} {s : State} {sargs : Array Value} {y : MethodName} {len W9 : Nat}
theorem vx_backW {ws : List Cond} {rm : Room} {Pc : Array Value → State → Prop} {Qc : Array Value → State → Outcome → State → Prop} {XC : String → State → State → Prop} {mc ms : Nat} {free : Addr → Prop} {bytes : ByteArray} {maxL : Nat} {ret : Option FieldType} {hh : List (Nat × Nat × Nat × Nat)}
    (hM : vx_Met l y ws rm Pc Qc XC mc ms free) (hblind : FrameBlind Pc) (hrc : rm.cells = mc) (hrs : rm.slots = ms)
    (hframes : rm.frames + 1 ≤ R.frames) (hlocals : W9 + (maxL + 11) + rm.locals ≤ R.locals)
    (hws : ∀ w ∈ ws, ∀ a' U, s.WarmedH U.vm → w.before a' U = true) (hcode : Cond.codeWith y bytes maxL ret hh ∈ ws) (hinit : ∀ a' U, s.WarmedH U.vm → (Cond.initialized y.cls).before a' U = true) :
    vx_Back l R p e below s sargs y len W9 (PreOf R mc ms Pc) (PostOf Qc mc ms free) (vx_Post XC mc ms free) := by
  intro m meth c A g ig mk a X hg hsize hdg hW hn hp
  have h1 : (headSpec ws rm).pre.before a A.U = true := atoms_intro fun w hw => hws w hw _ _ X.warmed
  have h2 : (Cond.codeWith y bytes maxL ret hh).before a A.U = true := hws _ hcode _ _ X.warmed
  have h3 : (Cond.initialized y.cls).before a A.U = true := hinit _ _ X.warmed
  have h4 : A.cells + (headSpec ws rm).room.cells ≤ R.cells := by rw [show (headSpec ws rm).room.cells = mc from hrc]; exact hp.1
  have h5 : A.slots + (headSpec ws rm).room.slots ≤ R.slots := by rw [show (headSpec ws rm).room.slots = ms from hrs]; exact hp.2.1
  have hPc : Pc a (A.U.calling g mk a) := hblind _ _ _ _ hp.2.2
  obtain ⟨U, Ls, c0, s0⟩ := A
  dsimp only [Pt.U, Pt.locs, Pt.cells, Pt.slots] at h1 h2 h3 h4 h5 X hn hPc ⊢
  obtain ⟨m9, methY, cY, hn9, hmY, hcY, -, hlY, -⟩ := Cond.codeWith_spec h2
  cases Option.some.inj (hn9.symm.trans hn)
  obtain ⟨kY, hkY, -⟩ := className_of_methodNamed hn
  have hinitY : kY.init = .initialized := Cond.initialized_spec (findClass_of_methodNamed hn) hkY h3
  have h : At U g.method c below := by rw [hg]; exact X.here
  have hlocals9 : W9 + (maxL + 11) + (headSpec ws rm).room.locals ≤ R.locals := hlocals
  have happ : (headSpec ws rm).appliesLoose y e.platform (U.calling g mk a) = true :=
    Spec.appliesLoose_calling (g := g) h hdg hn hkY hinitY
      (X.room_calling (g := g) (R' := (headSpec ws rm).room) hsize hmY hcY hframes (by rw [hlY]; omega) h4 h5) h1
  obtain ⟨mid, hmid⟩ := h.above
  have hfr : (U.setTop g).frames = (.java g :: mid) ++ below := by rw [State.frames_setTop' g h.top, hmid]; rfl
  obtain ⟨o, s₂, hsteps, -, hend, hq⟩ := Steps.callFree hM p X.admits X.cas X.clock (acts := []) hfr happ hPc trivial
  have hq' : vx_Q Qc XC mc ms free a (U.calling g mk a) o s₂ := hq
  rw [State.frames_setTop' g h.top] at hend
  obtain ⟨g₀, hg0⟩ := Option.isSome_iff_exists.mp h.top
  obtain ⟨r, hr⟩ := State.topJava?_eq_some.mp hg0
  have hr' : (({ U with heap := s₂.heap, slotsUsed := s₂.slotsUsed } : State).setVm s₂.vm).frames = .java g₀ :: r := hr
  rcases hq' with ⟨hqc, L, hfe, hL⟩ | ⟨q, rfl, E, ce, L, hx, hce, hcv, hcl, hW₂, hsm, hL⟩
  · obtain ⟨⟨v, rfl⟩, hW₂, e2, q2, q3, q4, q5, q6⟩ := id hfe
    have e3 : s₂ = ({ (U.calling g mk a).setFrames s₂.frames with heap := s₂.heap, slotsUsed := s₂.slotsUsed } : State).setVm s₂.vm := by
      have : s₂ = ({ s₂ with vm := (U.calling g mk a).vm } : State).setVm s₂.vm := rfl
      rw [e2] at this
      exact this
    obtain ⟨c₂, i₂, len₂, hc₂, hd₂, hf₂⟩ := hend
    have hW' : U.WarmedH s₂.vm := hW₂
    have hcc : c₂ = c := by
      have h1 : s₂.code? g.method = U.code? g.method := by
        rw [State.code?_eq, State.code?_eq, hW'.alike.method?]
      exact Option.some.inj (hc₂.symm.trans (h1.trans h.code))
    subst hcc
    have hlen : len₂ = len := by rw [hdg] at hd₂; cases hd₂; rfl
    subst hlen
    have hs₂ : s₂ = (({ U with heap := s₂.heap, slotsUsed := s₂.slotsUsed } : State).setVm s₂.vm).setTop { g with pc := g.pc + len₂, stack := v.toList ++ g.stack } := by
      refine e3.trans ?_
      rw [hf₂, State.calling_eq h.top, State.setFrames_setFrames, State.setTop_of_frames _ hr', hr]
      rfl
    have hsame : U.sameButNew ({ U with heap := s₂.heap, slotsUsed := s₂.slotsUsed } : State) L mc ms := by
      refine ⟨?_, q2, q3, q4, q5, q6⟩
      obtain ⟨t, ht, -⟩ := State.frames_cons hr
      show ({ U with heap := s₂.heap, slotsUsed := s₂.slotsUsed } : State) = { U.setFrames U.frames with heap := s₂.heap, slotsUsed := s₂.slotsUsed }
      rw [State.setFrames_self ht]
    subst hg
    refine Or.inl ⟨v, ⟨(({ U with heap := s₂.heap, slotsUsed := s₂.slotsUsed } : State).setVm s₂.vm), Ls ++ L, c0 + mc, s0 + ms⟩,
      ⟨X.admits, X.cas, X.clock, X.frames, X.room, X.hears, X.method, X.code, (X.here.setHeapUsed s₂.heap s₂.slotsUsed).setVm hW'.alike, X.tail, State.WarmedH.trans X.warmed hW', X.limits, X.bytes, X.same.trans (hsame.setVm s.vm)⟩,
      ⟨g, mk, s₂, L, rfl, rfl, hqc, rfl, hL, rfl, rfl⟩, ?_⟩
    show Steps p.tables e below _ ((({ U with heap := s₂.heap, slotsUsed := s₂.slotsUsed } : State).setVm s₂.vm).setTop { g with pc := g.pc + len₂, stack := v.toList ++ g.stack })
    rw [← hs₂]
    exact hsteps
  · obtain ⟨e2, q2, q3, q4, q5, q6⟩ := id hsm
    have e3 : s₂ = ({ (U.calling g mk a).setFrames s₂.frames with heap := s₂.heap, slotsUsed := s₂.slotsUsed } : State).setVm s₂.vm := by
      have : s₂ = ({ s₂ with vm := (U.calling g mk a).vm } : State).setVm s₂.vm := rfl
      rw [e2] at this
      exact this
    have hf₂ : s₂.frames = .throwing q :: .java g :: U.frames.tail := hend
    have hW' : U.WarmedH s₂.vm := hW₂
    have hs₂ : s₂ = ((({ U with heap := s₂.heap, slotsUsed := s₂.slotsUsed } : State).setVm s₂.vm).setTop g).pushFrame (.throwing q) := by
      refine e3.trans ?_
      rw [hf₂, State.calling_eq h.top, State.setFrames_setFrames, State.pushFrame, State.frames_setTop _ hr', State.setTop_of_frames _ hr', State.setFrames_setFrames, hr]
      rfl
    have hsame : U.sameButNew ({ U with heap := s₂.heap, slotsUsed := s₂.slotsUsed } : State) L mc ms := by
      refine ⟨?_, q2, q3, q4, q5, q6⟩
      obtain ⟨t, ht, -⟩ := State.frames_cons hr
      show ({ U with heap := s₂.heap, slotsUsed := s₂.slotsUsed } : State) = { U.setFrames U.frames with heap := s₂.heap, slotsUsed := s₂.slotsUsed }
      rw [State.setFrames_self ht]
    subst hg
    refine Or.inr ⟨q, ⟨(({ U with heap := s₂.heap, slotsUsed := s₂.slotsUsed } : State).setVm s₂.vm), Ls ++ L, c0 + mc, s0 + ms⟩,
      ⟨X.admits, X.cas, X.clock, X.frames, X.room, X.hears, X.method, X.code, (X.here.setHeapUsed s₂.heap s₂.slotsUsed).setVm hW'.alike, X.tail, State.WarmedH.trans X.warmed hW', X.limits, X.bytes, X.same.trans (hsame.setVm s.vm)⟩,
      ⟨g, mk, s₂, L, E, ce, rfl, rfl, hx, hce, hcv, hcl, rfl, hL, rfl, rfl⟩, ?_⟩
    show Steps p.tables e below _ (((({ U with heap := s₂.heap, slotsUsed := s₂.slotsUsed } : State).setVm s₂.vm).setTop g).pushFrame (.throwing q))
    rw [← hs₂]
    exact hsteps
end
variable {p : Program} {l : Launch} {e : Env} {R : Room} {s : State} {m : MethodId} {args : Array Value} {below : List Frame} {meth : Method} {c : Code} {T : State} {H : Heap} {locs : List Loc} {cells slots : Nat}
theorem vx_callVX (X : Stand p l e R s m args below meth c T locs cells slots) (hexec : p.tables.exec = Jvm.exec) {own C : String} {index : Nat} {y : MethodName} {bytes : ByteArray} {maxL : Nat} {ret : Option FieldType} {hh : List (Nat × Nat × Nat × Nat)}
    (hown : s.vm.findClass own = some m.cls) (hlink : (Cond.methodLink own index y).before args s = true) (hinst : (Cond.instanceMethod y).before args s = true) (hsel : (Cond.selects C y y).before args s = true)
    (hcode : (Cond.codeWith y bytes maxL ret hh).before args s = true) (hy : y.cls ≠ "java/lang/invoke/MethodHandle" ∧ y.cls ≠ "java/lang/invoke/VarHandle")
    {W9 : Nat} {Pre : Pt → Array Value → Prop} {Post : Pt → Array Value → Option Value → Pt → Prop} {PostX : Pt → Array Value → Addr → Pt → Prop} (hK : vx_Back l R p e below s args y 3 W9 Pre Post PostX)
    {b : Addr} {cellB : Cell} (hcell : T.heap[b]? = some cellB) (hobj : cellB.vm.isStatics = false) (hcls : s.vm.findClass C = some cellB.cls)
    {g : JFrame} (hg : g.method = m) (hsize : g.locals.size = c.maxLocals) {argsL rest : List Value} (hlen : ∀ sig, parseMethodDescriptor y.desc = some sig → argsL.length = sig.parameters.length)
    (hstack : g.stack = argsL.reverse ++ .ref b :: rest) (hW : 2 * g.monitorRoom + (rest.map fun v => v.category).sum ≤ W9) (hdg : decode c.code g.pc = .ok (.invokevirtual index, 3))
    (hpre : ∀ vm₁, s.WarmedH vm₁ → Pre ⟨T.setVm vm₁, locs, cells, slots⟩ (Value.ref b :: argsL).toArray) :
    (∃ (v : Option Value) (vm₁ : Vm) (B : Pt), s.WarmedH vm₁ ∧ Stand p l e R s m args below meth c B.U B.locs B.cells B.slots ∧ Post ⟨T.setVm vm₁, locs, cells, slots⟩ (Value.ref b :: argsL).toArray v B ∧
      ∀ target, Steps p.tables e below (B.U.setTop { g with pc := g.pc + 3, stack := v.toList ++ rest }) target → Steps p.tables e below (T.setTop g) target) ∨
    (∃ (q : Addr) (vm₁ : Vm) (B : Pt), s.WarmedH vm₁ ∧ Stand p l e R s m args below meth c B.U B.locs B.cells B.slots ∧ PostX ⟨T.setVm vm₁, locs, cells, slots⟩ (Value.ref b :: argsL).toArray q B ∧
      Steps p.tables e below (T.setTop g) ((B.U.setTop { g with stack := rest }).pushFrame (.throwing q))) := by
  obtain ⟨mk, methM, hnamed, hmethM, hstM, habM⟩ := Cond.instanceMethod_spec hinst
  obtain ⟨m8, methM', cM, hn8, hmethM', -, -, -, -, -, -, hsigM⟩ := Cond.codeWith_spec hcode
  cases Option.some.inj (hn8.symm.trans hnamed)
  cases hmethM.symm.trans hmethM'
  obtain ⟨c2, r2, m2, q1, q2, q3, q4, kP, hkP, hkPi⟩ := Cond.selects_spec hsel
  cases hcls.symm.trans q1
  cases (State.methodFound?_of_named hnamed hy).symm.trans q2
  cases hnamed.symm.trans q3
  have hselP : selectMethod e.platform s.vm cellB.cls mk = .method mk := by rw [Launch.admits_selectMethod X.admits]; exact q4
  obtain ⟨vm₁, X₁, hstep₁⟩ := X.invokevirtual hexec hown hlink hnamed hmethM hstM hkP hkPi hy (a := b) (cell := cellB) hcell
    (fun z h => by rw [h] at hobj; cases hobj) hselP hmethM habM hkP hkPi (g := g) hg (argsL := argsL) (rest := rest) (hlen _ hsigM) hstack hdg
  rcases hK m meth c ⟨T.setVm vm₁, locs, cells, slots⟩ { g with stack := rest } (.invokevirtual index) mk (Value.ref b :: argsL).toArray X₁ hg hsize hdg hW (X₁.named hnamed) (hpre vm₁ X₁.warmed) with ⟨v, B, X', hpost, hsteps⟩ | ⟨q, B, X', hpost, hsteps⟩
  · exact Or.inl ⟨v, vm₁, B, X₁.warmed, X', hpost, fun target h => hstep₁ _ fun acts => by rw [doInvoke_state]; exact hsteps.trans h⟩
  · exact Or.inr ⟨q, vm₁, B, X₁.warmed, X', hpost, hstep₁ _ fun acts => by rw [doInvoke_state]; exact hsteps⟩
theorem vx_callSX (X : Stand p l e R s m args below meth c T locs cells slots) (hexec : p.tables.exec = Jvm.exec) {own : String} {index : Nat} {y : MethodName} {bytes : ByteArray} {maxL : Nat} {ret : Option FieldType} {hh : List (Nat × Nat × Nat × Nat)}
    (hown : s.vm.findClass own = some m.cls) (hlink : (Cond.methodLink own index y).before args s = true) (hstat : (Cond.static y).before args s = true) (hinit : (Cond.initialized y.cls).before args s = true)
    (hcode : (Cond.codeWith y bytes maxL ret hh).before args s = true) (hy : y.cls ≠ "java/lang/invoke/MethodHandle" ∧ y.cls ≠ "java/lang/invoke/VarHandle")
    {W9 : Nat} {Pre : Pt → Array Value → Prop} {Post : Pt → Array Value → Option Value → Pt → Prop} {PostX : Pt → Array Value → Addr → Pt → Prop} (hK : vx_Back l R p e below s args y 3 W9 Pre Post PostX)
    {g : JFrame} (hg : g.method = m) (hsize : g.locals.size = c.maxLocals) {argsL rest : List Value} (hlen : ∀ sig, parseMethodDescriptor y.desc = some sig → argsL.length = sig.parameters.length)
    (hstack : g.stack = argsL.reverse ++ rest) (hW : 2 * g.monitorRoom + (rest.map fun v => v.category).sum ≤ W9) (hdg : decode c.code g.pc = .ok (.invokestatic index, 3))
    (hpre : ∀ vm₁, s.WarmedH vm₁ → Pre ⟨T.setVm vm₁, locs, cells, slots⟩ argsL.toArray) :
    (∃ (v : Option Value) (vm₁ : Vm) (B : Pt), s.WarmedH vm₁ ∧ Stand p l e R s m args below meth c B.U B.locs B.cells B.slots ∧ Post ⟨T.setVm vm₁, locs, cells, slots⟩ argsL.toArray v B ∧
      ∀ target, Steps p.tables e below (B.U.setTop { g with pc := g.pc + 3, stack := v.toList ++ rest }) target → Steps p.tables e below (T.setTop g) target) ∨
    (∃ (q : Addr) (vm₁ : Vm) (B : Pt), s.WarmedH vm₁ ∧ Stand p l e R s m args below meth c B.U B.locs B.cells B.slots ∧ PostX ⟨T.setVm vm₁, locs, cells, slots⟩ argsL.toArray q B ∧
      Steps p.tables e below (T.setTop g) ((B.U.setTop { g with stack := rest }).pushFrame (.throwing q))) := by
  obtain ⟨mk, methM, cM, hnamed, hmethM, -, -, -, -, -, -, hsigM⟩ := Cond.codeWith_spec hcode
  have hstatic : methM.isStatic = true := Cond.static_spec hnamed hmethM hstat
  obtain ⟨kP, hkP, -⟩ := className_of_methodNamed hnamed
  have hinitP : kP.init = .initialized := Cond.initialized_spec (findClass_of_methodNamed hnamed) hkP hinit
  obtain ⟨vm₁, X₁, hstep₁⟩ := X.invokestatic hexec hown hlink hnamed hmethM hstatic hkP hinitP hy (g := g) hg (argsL := argsL) (rest := rest) (hlen _ hsigM) hstack hdg
  rcases hK m meth c ⟨T.setVm vm₁, locs, cells, slots⟩ { g with stack := rest } (.invokestatic index) mk argsL.toArray X₁ hg hsize hdg hW (X₁.named hnamed) (hpre vm₁ X₁.warmed) with ⟨v, B, X', hpost, hsteps⟩ | ⟨q, B, X', hpost, hsteps⟩
  · exact Or.inl ⟨v, vm₁, B, X₁.warmed, X', hpost, fun target h => hstep₁ _ fun acts => by rw [doInvoke_state]; exact hsteps.trans h⟩
  · exact Or.inr ⟨q, vm₁, B, X₁.warmed, X', hpost, hstep₁ _ fun acts => by rw [doInvoke_state]; exact hsteps⟩
theorem vx_callVW (X : Stand p l e R s m args below meth c T locs cells slots) (hexec : p.tables.exec = Jvm.exec) {own C : String} {index : Nat} {y : MethodName} {bytes : ByteArray} {maxL : Nat} {ret : Option FieldType} {hh : List (Nat × Nat × Nat × Nat)}
    (hown : s.vm.findClass own = some m.cls) (hlink : (Cond.methodLink own index y).before args s = true) (hinst : (Cond.instanceMethod y).before args s = true) (hsel : (Cond.selects C y y).before args s = true)
    (hcode : (Cond.codeWith y bytes maxL ret hh).before args s = true) (hy : y.cls ≠ "java/lang/invoke/MethodHandle" ∧ y.cls ≠ "java/lang/invoke/VarHandle")
    {W9 : Nat} {Pre : Pt → Array Value → Prop} {Post : Pt → Array Value → Option Value → Pt → Prop} (hK : Back l R p e below s args y 3 W9 Pre Post)
    {b : Addr} {cellB : Cell} (hcell : T.heap[b]? = some cellB) (hobj : cellB.vm.isStatics = false) (hcls : s.vm.findClass C = some cellB.cls)
    {g : JFrame} (hg : g.method = m) (hsize : g.locals.size = c.maxLocals) {argsL rest : List Value} (hlen : ∀ sig, parseMethodDescriptor y.desc = some sig → argsL.length = sig.parameters.length)
    (hstack : g.stack = argsL.reverse ++ .ref b :: rest) (hW : 2 * g.monitorRoom + (rest.map fun v => v.category).sum ≤ W9) (hdg : decode c.code g.pc = .ok (.invokevirtual index, 3))
    (hpre : ∀ vm₁, s.WarmedH vm₁ → Pre ⟨T.setVm vm₁, locs, cells, slots⟩ (Value.ref b :: argsL).toArray) :
    ∃ (v : Option Value) (vm₁ : Vm) (B : Pt), s.WarmedH vm₁ ∧ Stand p l e R s m args below meth c B.U B.locs B.cells B.slots ∧ Post ⟨T.setVm vm₁, locs, cells, slots⟩ (Value.ref b :: argsL).toArray v B ∧
      ∀ target, Steps p.tables e below (B.U.setTop { g with pc := g.pc + 3, stack := v.toList ++ rest }) target → Steps p.tables e below (T.setTop g) target := by
  obtain ⟨mk, methM, hnamed, hmethM, hstM, habM⟩ := Cond.instanceMethod_spec hinst
  obtain ⟨m8, methM', cM, hn8, hmethM', -, -, -, -, -, -, hsigM⟩ := Cond.codeWith_spec hcode
  cases Option.some.inj (hn8.symm.trans hnamed)
  cases hmethM.symm.trans hmethM'
  obtain ⟨c2, r2, m2, q1, q2, q3, q4, kP, hkP, hkPi⟩ := Cond.selects_spec hsel
  cases hcls.symm.trans q1
  cases (State.methodFound?_of_named hnamed hy).symm.trans q2
  cases hnamed.symm.trans q3
  have hselP : selectMethod e.platform s.vm cellB.cls mk = .method mk := by rw [Launch.admits_selectMethod X.admits]; exact q4
  obtain ⟨vm₁, X₁, hstep₁⟩ := X.invokevirtual hexec hown hlink hnamed hmethM hstM hkP hkPi hy (a := b) (cell := cellB) hcell
    (fun z h => by rw [h] at hobj; cases hobj) hselP hmethM habM hkP hkPi (g := g) hg (argsL := argsL) (rest := rest) (hlen _ hsigM) hstack hdg
  obtain ⟨v, B, X', hpost, hsteps⟩ := hK m meth c ⟨T.setVm vm₁, locs, cells, slots⟩ { g with stack := rest } (.invokevirtual index) mk (Value.ref b :: argsL).toArray X₁ hg hsize hdg hW (X₁.named hnamed) (hpre vm₁ X₁.warmed)
  exact ⟨v, vm₁, B, X₁.warmed, X', hpost, fun target h => hstep₁ _ fun acts => by rw [doInvoke_state]; exact hsteps.trans h⟩
abbrev vx_CVW (R : Room) (s : State) (args : Array Value) (own C : String) (index : Nat) (y : MethodName) (bytes : ByteArray) (maxL : Nat) (ret : Option FieldType) (hh : List (Nat × Nat × Nat × Nat)) (ws : List Cond) (rm : Room) (mc ms n : Nat) : Prop :=
  (rm.cells = mc ∧ rm.slots = ms ∧ rm.frames + 1 ≤ R.frames ∧ 8 + (maxL + 11) + rm.locals ≤ R.locals ∧ (∀ w ∈ ws, ∀ (a' : Array Value) (U : State), s.WarmedH U.vm → w.before a' U = true) ∧ Cond.codeWith y bytes maxL ret hh ∈ ws) ∧
  (Cond.codeWith y bytes maxL ret hh).before args s = true ∧ (Cond.initialized y.cls).before args s = true ∧ (y.cls ≠ "java/lang/invoke/MethodHandle" ∧ y.cls ≠ "java/lang/invoke/VarHandle") ∧
  (∀ sig, parseMethodDescriptor y.desc = some sig → n = sig.parameters.length) ∧ (Cond.methodLink own index y).before args s = true ∧ (Cond.instanceMethod y).before args s = true ∧ (Cond.selects C y y).before args s = true
theorem vx_cwVW {own C : String} {index maxL mc ms : Nat} {y : MethodName} {bytes : ByteArray} {ret : Option FieldType} {hh : List (Nat × Nat × Nat × Nat)} {Ts ws ws' : List Cond} {rm : Room} (n : Nat) (ht : ∀ w ∈ Ts, w.before args s = true) (hT : GoodIn Ts (wsV own index C y ws)) (hw : ws = Cond.codeWith y bytes maxL ret hh :: ws') (hrc : rm.cells = mc) (hrs : rm.slots = ms)
    (hd : y.cls = C ∧ y.cls ≠ "java/lang/invoke/MethodHandle" ∧ y.cls ≠ "java/lang/invoke/VarHandle" ∧ (parseMethodDescriptor y.desc).map (fun d => d.parameters.length) = some n) (hR : rm.frames + 1 ≤ R.frames ∧ 8 + (maxL + 11) + rm.locals ≤ R.locals) :
    vx_CVW R s args own C index y bytes maxL ret hh ws rm mc ms n := by
  obtain ⟨hC, hd⟩ := hd
  subst hC
  have ok : ∀ w ∈ wsV own index y.cls y ws, w.before args s = true := fun w h => ht w (hT w h).1
  have hG : GoodIn Ts ws := fun w h => hT w (by unfold wsV; exact List.mem_append_right _ h)
  have hc : Cond.codeWith y bytes maxL ret hh ∈ ws := by rw [hw]; exact List.mem_cons_self
  refine ⟨⟨hrc, hrs, hR.1, hR.2, pay_in ht hG, hc⟩, ht _ (hG _ hc).1, ok _ (by simp [wsV]), ⟨hd.1, hd.2.1⟩, fun sig h => ?_, ok _ (by simp [wsV]), ok _ (by simp [wsV]), ok _ (by simp [wsV])⟩
  have h2 := hd.2.2
  rw [h] at h2
  exact (Option.some.inj h2).symm
theorem vx_runVW {y : MethodName} {bytes cc : ByteArray} {maxL nL mc ms n index : Nat} {ret : Option FieldType} {hh : List (Nat × Nat × Nat × Nat)} {ws : List Cond} {rm : Room} {Pc : Array Value → State → Prop} {Qc : Array Value → State → Outcome → State → Prop} {free : Addr → Prop} {Ts : List Cond} {own C : String} {b : Addr} {As rest : List Value} {g : JFrame}
    (S : CallFix p m c cc nL s args Ts own) (hM : Met l y ws rm Pc Qc mc ms free) (cw : vx_CVW R s args own C index y bytes maxL ret hh ws rm mc ms n) (hp : PreV s H C b Pc As)
    (hg : g.method = m) (hn : As.length = n) (hsize : g.locals.size = nL) (hstack : g.stack = As.reverse ++ .ref b :: rest) (hW : 2 * g.monitorRoom + (rest.map fun v => v.category).sum ≤ 8) (hdg : decode cc g.pc = .ok (.invokevirtual index, 3)) (hf : cells + mc ≤ R.cells ∧ slots + ms ≤ R.slots) :
    va_Run p l e R s m args below meth c H locs cells slots mc ms g rest (Qc (Value.ref b :: As).toArray) free := by
  obtain ⟨⟨hrc, hrs, hfr, hlo, hws, hcw⟩, hcode, hini, hy, hlen, hl, hin, hse⟩ := cw
  have hK : Back l R p e below s args y 3 8 (PreOf R mc ms Pc) (PostOf Qc mc ms free) := va_backW (hh := hh) (bytes := bytes) (maxL := maxL) (ret := ret) hM hp.1 hrc hrs hfr hlo hws hcw (fun a' U hW => word_at hW (Or.inl (by first | rfl | simp [Cond.onTables, Cond.keeps, Cond.steady])) hini)
  obtain ⟨hx, hb, hml, ho, -⟩ := S
  obtain ⟨-, ⟨cellB, hcB, hoB, hclB⟩, hPc⟩ := hp
  intro T hT X
  obtain ⟨v, vm₁, ⟨U', l2, c2, s2⟩, hW₁, X', ⟨g', mk, t, L, e1, e2, hq, h1, hL, h2, h3⟩, st⟩ := vx_callVW X hx (C := C) (hh := hh) (bytes := bytes) (maxL := maxL) (ret := ret) ho hl hin hse hcode hy hK (by rw [hT]; exact hcB) hoB hclB hg (hsize.trans hml.symm) (argsL := As) (rest := rest) (fun sig h => hn.trans (hlen sig h)) hstack hW (by rw [hb]; exact hdg)
    (fun vm₁ hW₁ => ⟨hf.1, hf.2, hPc (T.setVm vm₁) hT hW₁⟩)
  dsimp only [Pt.U, Pt.locs, Pt.cells, Pt.slots] at X' e1 e2 h1 h2 h3 st
  subst h1; subst h2; subst h3
  exact ⟨v, (T.setVm vm₁).calling g' mk (Value.ref b :: As).toArray, t, U', L, hT, X', hL, e1, e2, hq, st⟩
section
variable {y : MethodName} {bytes cc : ByteArray} {maxL nL mc ms n index : Nat} {ret : Option FieldType} {ws : List Cond} {rm : Room} {Pc : Array Value → State → Prop} {Qc : Array Value → State → Outcome → State → Prop} {XC : String → State → State → Prop} {free : Addr → Prop} {Ts : List Cond} {own C : String} {b : Addr} {As rest : List Value} {g : JFrame}
theorem vx_runVX {hh : List (Nat × Nat × Nat × Nat)} (S : CallFix p m c cc nL s args Ts own) (hM : vx_Met l y ws rm Pc Qc XC mc ms free) (cw : vx_CVW R s args own C index y bytes maxL ret hh ws rm mc ms n) (hp : PreV s H C b Pc As)
    (hg : g.method = m) (hn : As.length = n) (hsize : g.locals.size = nL) (hstack : g.stack = As.reverse ++ .ref b :: rest) (hW : 2 * g.monitorRoom + (rest.map fun v => v.category).sum ≤ 8) (hdg : decode cc g.pc = .ok (.invokevirtual index, 3)) (hf : cells + mc ≤ R.cells ∧ slots + ms ≤ R.slots) :
    vx_Run p l e R s m args below meth c H locs cells slots mc ms g rest (Qc (Value.ref b :: As).toArray) XC free := by
  obtain ⟨⟨hrc, hrs, hfr, hlo, hws, hcw⟩, hcode, hini, hy, hlen, hl, hin, hse⟩ := cw
  have hK : vx_Back l R p e below s args y 3 8 (PreOf R mc ms Pc) (PostOf Qc mc ms free) (vx_Post XC mc ms free) := vx_backW (hh := hh) (bytes := bytes) (maxL := maxL) (ret := ret) hM hp.1 hrc hrs hfr hlo hws hcw (fun a' U hW => word_at hW (Or.inl (by first | rfl | simp [Cond.onTables, Cond.keeps, Cond.steady])) hini)
  obtain ⟨hx, hb, hml, ho, -⟩ := S
  obtain ⟨-, ⟨cellB, hcB, hoB, hclB⟩, hPc⟩ := hp
  intro T hT X
  rcases vx_callVX X hx (C := C) (hh := hh) (bytes := bytes) (maxL := maxL) (ret := ret) ho hl hin hse hcode hy hK (by rw [hT]; exact hcB) hoB hclB hg (hsize.trans hml.symm) (argsL := As) (rest := rest) (fun sig h => hn.trans (hlen sig h)) hstack hW (by rw [hb]; exact hdg)
    (fun vm₁ hW₁ => ⟨hf.1, hf.2, hPc (T.setVm vm₁) hT hW₁⟩) with ⟨v, vm₁, ⟨U', l2, c2, s2⟩, hW₁, X', ⟨g', mk, t, L, e1, e2, hq, h1, hL, h2, h3⟩, st⟩ | ⟨q, vm₁, ⟨U', l2, c2, s2⟩, hW₁, X', ⟨g', mk, t, L, E, ce, e1, e2, hq, hce, hcv, hcl, h1, hL, h2, h3⟩, st⟩
  · dsimp only [Pt.U, Pt.locs, Pt.cells, Pt.slots] at X' e1 e2 h1 h2 h3 st
    subst h1; subst h2; subst h3
    exact Or.inl ⟨v, (T.setVm vm₁).calling g' mk (Value.ref b :: As).toArray, t, U', L, hT, X', hL, e1, e2, hq, st⟩
  · dsimp only [Pt.U, Pt.locs, Pt.cells, Pt.slots] at X' e1 e2 h1 h2 h3 st hcl
    subst h1; subst h2; subst h3
    exact Or.inr ⟨q, (T.setVm vm₁).calling g' mk (Value.ref b :: As).toArray, t, U', L, E, ce, hT, X', hL, e1, e2, hq, hce, hcv, vx_cls hW₁ hcl, st⟩
theorem vx_runSX {hh : List (Nat × Nat × Nat × Nat)} (S : CallFix p m c cc nL s args Ts own) (hM : vx_Met l y ws rm Pc Qc XC mc ms free) (cw : vx_CSW R s args own index y bytes maxL ret hh ws rm mc ms n) (hp : PreS s H Pc As)
    (hg : g.method = m) (hn : As.length = n) (hsize : g.locals.size = nL) (hstack : g.stack = As.reverse ++ rest) (hW : 2 * g.monitorRoom + (rest.map fun v => v.category).sum ≤ 8) (hdg : decode cc g.pc = .ok (.invokestatic index, 3)) (hf : cells + mc ≤ R.cells ∧ slots + ms ≤ R.slots) :
    vx_Run p l e R s m args below meth c H locs cells slots mc ms g rest (Qc As.toArray) XC free := by
  obtain ⟨⟨hrc, hrs, hfr, hlo, hws, hcw⟩, hcode, hini, hy, hlen, hl, hstt⟩ := cw
  have hK : vx_Back l R p e below s args y 3 8 (PreOf R mc ms Pc) (PostOf Qc mc ms free) (vx_Post XC mc ms free) := vx_backW (hh := hh) (bytes := bytes) (maxL := maxL) (ret := ret) hM hp.1 hrc hrs hfr hlo hws hcw (fun a' U hW => word_at hW (Or.inl (by first | rfl | simp [Cond.onTables, Cond.keeps, Cond.steady])) hini)
  obtain ⟨hx, hb, hml, ho, -⟩ := S
  intro T hT X
  rcases vx_callSX X hx (hh := hh) (bytes := bytes) (maxL := maxL) (ret := ret) ho hl hstt hini hcode hy hK hg (hsize.trans hml.symm) (argsL := As) (rest := rest) (fun sig h => hn.trans (hlen sig h)) hstack hW (by rw [hb]; exact hdg)
    (fun vm₁ hW₁ => ⟨hf.1, hf.2, hp.2 (T.setVm vm₁) hT hW₁⟩) with ⟨v, vm₁, ⟨U', l2, c2, s2⟩, hW₁, X', ⟨g', mk, t, L, e1, e2, hq, h1, hL, h2, h3⟩, st⟩ | ⟨q, vm₁, ⟨U', l2, c2, s2⟩, hW₁, X', ⟨g', mk, t, L, E, ce, e1, e2, hq, hce, hcv, hcl, h1, hL, h2, h3⟩, st⟩
  · dsimp only [Pt.U, Pt.locs, Pt.cells, Pt.slots] at X' e1 e2 h1 h2 h3 st
    subst h1; subst h2; subst h3
    exact Or.inl ⟨v, (T.setVm vm₁).calling g' mk As.toArray, t, U', L, hT, X', hL, e1, e2, hq, st⟩
  · dsimp only [Pt.U, Pt.locs, Pt.cells, Pt.slots] at X' e1 e2 h1 h2 h3 st hcl
    subst h1; subst h2; subst h3
    exact Or.inr ⟨q, (T.setVm vm₁).calling g' mk As.toArray, t, U', L, E, ce, hT, X', hL, e1, e2, hq, hce, hcv, vx_cls hW₁ hcl, st⟩
end
end VXH
theorem vx_ofWH {l : Launch} {y : MethodName} {ws ws' : List Cond} {rm : Room} {Pc : Array Value → State → Prop} {Qc : Array Value → State → Outcome → State → Prop} {XC : String → State → State → Prop} {mc ms : Nat} {free : Addr → Prop} {cc : ByteArray} {maxL : Nat} {ret : Option FieldType} {hh : List (Nat × Nat × Nat × Nat)}
    (hy : plainName y.cls = true) (hw : ws = Cond.codeWith y cc maxL ret hh :: ws')
    (body : ∀ p e s m args below meth c s₁, BodyLoose p l y (headSpec ws rm) cc maxL ret e s m args below meth c s₁ → c.maxLocals = maxL → Pc args s →
      W p l e (headSpec ws rm).room s m args below meth c s.heap [] 0 0 (vx_MQ below Qc XC args s mc ms free) (entryFrame m args maxL)) : vx_Met l y ws rm Pc Qc XC mc ms free := by
  refine MetFree.of_bodyS (code := cc) (maxLocals := maxL) (ret := ret) hy ?_ ?_
  · intro args s m h hn
    obtain ⟨m9, meth, c, hn9, h1, h2, h3, h4, -, h5, h6, -⟩ := Cond.codeWith_spec (atoms_spec (ws := ws) h _ (by rw [hw]; exact List.mem_cons_self))
    cases hn.symm.trans hn9
    exact ⟨meth, c, h1, h2, h3, h4, h5, h6⟩
  · intro p e s m args below meth c s₁ B hml hP _
    have hh0 : s₁.heap = s.heap := by rw [B.state]; rfl
    obtain ⟨t, a1, o, b1, b2, b3⟩ := body p e s m args below meth c s₁ B hml hP s₁ hh0 (Stand.of_body B)
    exact ⟨t, o, a1, b1, b2, b3⟩
/-! ===== END ===== -/
/-! ===== BEGIN a constructor that throws (launches without stack traces) ===== -/
section VXIA
variable {p : Program} {l : Launch} {e : Env} {R : Room} {s : State} {m : MethodId} {args : Array Value} {below : List Frame} {meth : Method} {c : Code} {T : State} {locs : List Loc} {cells slots : Nat}
theorem vx_callI (X : Stand p l e R s m args below meth c T locs cells slots) (hexec : p.tables.exec = Jvm.exec) {own : String} {index : Nat} {y : MethodName} {bytes : ByteArray} {maxL : Nat}
    (hown : s.vm.findClass own = some m.cls) (hy1 : y.name = "<init>") (hlink : (Cond.methodLink own index y).before args s = true) (hinst : (Cond.instanceMethod y).before args s = true)
    (hcode : (Cond.code y bytes maxL none).before args s = true) (hy : y.cls ≠ "java/lang/invoke/MethodHandle" ∧ y.cls ≠ "java/lang/invoke/VarHandle")
    {W9 : Nat} {Pre : Pt → Array Value → Prop} {Post : Pt → Array Value → Option Value → Pt → Prop} {PostX : Pt → Array Value → Addr → Pt → Prop} (hK : vx_Back l R p e below s args y 3 W9 Pre Post PostX)
    {g : JFrame} (hg : g.method = m) (hsize : g.locals.size = c.maxLocals) {a : Addr} {argsL rest : List Value} (hlen : ∀ sig, parseMethodDescriptor y.desc = some sig → argsL.length = sig.parameters.length)
    (hstack : g.stack = argsL.reverse ++ .ref a :: rest) (hW : 2 * g.monitorRoom + (rest.map fun v => v.category).sum ≤ W9) (hdg : decode c.code g.pc = .ok (.invokespecial index, 3))
    (hpre : ∀ vm₁, s.WarmedH vm₁ → Pre ⟨T.setVm vm₁, locs, cells, slots⟩ (Value.ref a :: argsL).toArray) :
    (∃ (v : Option Value) (vm₁ : Vm) (B : Pt), s.WarmedH vm₁ ∧ Stand p l e R s m args below meth c B.U B.locs B.cells B.slots ∧ Post ⟨T.setVm vm₁, locs, cells, slots⟩ (Value.ref a :: argsL).toArray v B ∧
      ∀ target, Steps p.tables e below (B.U.setTop { g with pc := g.pc + 3, stack := v.toList ++ rest }) target → Steps p.tables e below (T.setTop g) target) ∨
    (∃ (q : Addr) (vm₁ : Vm) (B : Pt), s.WarmedH vm₁ ∧ Stand p l e R s m args below meth c B.U B.locs B.cells B.slots ∧ PostX ⟨T.setVm vm₁, locs, cells, slots⟩ (Value.ref a :: argsL).toArray q B ∧
      Steps p.tables e below (T.setTop g) ((B.U.setTop { g with stack := rest }).pushFrame (.throwing q))) := by
  subst hg
  have hpl : e.platform.magicAccessors = ({} : Platform).magicAccessors := by rw [X.admits.platform]
  obtain ⟨mk, methM, cM, kP, vm₁, hnamed, hmethM, hcodeM, -, hlocalsM, -, hkP, -, hW₁, hstep₁⟩ := Steps.initColdArgs (e := e) X.here hexec X.warmed hpl hown hy1 hy hlink hinst hcode (f := g) rfl hlen hstack hdg
  have X₁ := X.noted hW₁
  rcases hK g.method meth c ⟨T.setVm vm₁, locs, cells, slots⟩ { g with stack := rest } (.invokespecial index) mk (Value.ref a :: argsL).toArray X₁ rfl hsize hdg hW (X₁.named hnamed) (hpre vm₁ X₁.warmed) with ⟨v, B, X', hpost, hsteps⟩ | ⟨q, B, X', hpost, hsteps⟩
  · exact Or.inl ⟨v, vm₁, B, X₁.warmed, X', hpost, fun target h => hstep₁ _ fun acts => by rw [doInvoke_state]; exact hsteps.trans h⟩
  · exact Or.inr ⟨q, vm₁, B, X₁.warmed, X', hpost, hstep₁ _ fun acts => by rw [doInvoke_state]; exact hsteps⟩
end VXIA
section VXIB
variable {p : Program} {l : Launch} {e : Env} {R : Room} {s : State} {m : MethodId} {args : Array Value} {below : List Frame} {meth : Method} {c : Code} {H : Heap} {locs : List Loc} {cells slots : Nat}
variable {y : MethodName} {bytes cc : ByteArray} {maxL nL mc ms n index : Nat} {ret : Option FieldType} {ws : List Cond} {rm : Room} {Pc : Array Value → State → Prop} {Qc : Array Value → State → Outcome → State → Prop} {XC : String → State → State → Prop} {free : Addr → Prop} {Ts : List Cond} {own C : String} {b : Addr} {As rest : List Value} {g : JFrame}
theorem vx_runI (S : CallFix p m c cc nL s args Ts own) (hM : vx_Met l y ws rm Pc Qc XC mc ms free) (cw : CallB R s args own index y bytes maxL none ws rm mc ms n ∧ y.name = "<init>" ∧ (Cond.instanceMethod y).before args s = true) (hp : PreS s H Pc (.ref b :: As))
    (hg : g.method = m) (hn : As.length = n) (hsize : g.locals.size = nL) (hstack : g.stack = As.reverse ++ .ref b :: rest) (hW : 2 * g.monitorRoom + (rest.map fun v => v.category).sum ≤ 8) (hdg : decode cc g.pc = .ok (.invokespecial index, 3)) (hf : cells + mc ≤ R.cells ∧ slots + ms ≤ R.slots) :
    vx_Run p l e R s m args below meth c H locs cells slots mc ms g rest (Qc (Value.ref b :: As).toArray) XC free := by
  have hK : vx_Back l R p e below s args y 3 8 (PreOf R mc ms Pc) (PostOf Qc mc ms free) (vx_Post XC mc ms free) := vx_callBack cw.1 hM hp.1
  obtain ⟨⟨-, -, -, -, -, -, hcode, -, hy, hlen, hl⟩, hy1, hin⟩ := cw
  obtain ⟨hx, hb, hml, ho, -⟩ := S
  have hPc := hp.2
  intro T hT X
  rcases vx_callI X hx (bytes := bytes) (maxL := maxL) ho hy1 hl hin hcode hy hK hg (hsize.trans hml.symm) (a := b) (argsL := As) (rest := rest) (fun sig h => hn.trans (hlen sig h)) hstack hW (by rw [hb]; exact hdg)
    (fun vm₁ hW₁ => ⟨hf.1, hf.2, hPc (T.setVm vm₁) hT hW₁⟩) with ⟨v, vm₁, ⟨U', l2, c2, s2⟩, hW₁, X', ⟨g', mk, t, L, e1, e2, hq, h1, hL, h2, h3⟩, st⟩ | ⟨q, vm₁, ⟨U', l2, c2, s2⟩, hW₁, X', ⟨g', mk, t, L, E, ce, e1, e2, hq, hce, hcv, hcl, h1, hL, h2, h3⟩, st⟩
  · dsimp only [Pt.U, Pt.locs, Pt.cells, Pt.slots] at X' e1 e2 h1 h2 h3 st
    subst h1; subst h2; subst h3
    exact Or.inl ⟨v, (T.setVm vm₁).calling g' mk (Value.ref b :: As).toArray, t, U', L, hT, X', hL, e1, e2, hq, st⟩
  · dsimp only [Pt.U, Pt.locs, Pt.cells, Pt.slots] at X' e1 e2 h1 h2 h3 st hcl
    subst h1; subst h2; subst h3
    exact Or.inr ⟨q, (T.setVm vm₁).calling g' mk (Value.ref b :: As).toArray, t, U', L, E, ce, hT, X', hL, e1, e2, hq, hce, hcv, vx_cls hW₁ hcl, st⟩
end VXIB
/-! ===== END ===== -/
/-! ===== BEGIN a private constructor of a nest mate that throws ===== -/
section VXIC
variable {p : Program} {l : Launch} {e : Env} {R : Room} {s : State} {m : MethodId} {args : Array Value} {below : List Frame} {meth : Method} {c : Code} {T : State} {locs : List Loc} {cells slots : Nat}
theorem vx_callIN (X : Stand p l e R s m args below meth c T locs cells slots) (hexec : p.tables.exec = Jvm.exec) {own : String} {index : Nat} {host : String} {y : MethodName} {bytes : ByteArray} {maxL : Nat}
    (hown : s.vm.findClass own = some m.cls) (hy1 : y.name = "<init>") (hlink : (Cond.methodLinkNest own index y host).before args s = true) (hinst : (Cond.instanceMethod y).before args s = true)
    (hcode : (Cond.code y bytes maxL none).before args s = true) (hy : y.cls ≠ "java/lang/invoke/MethodHandle" ∧ y.cls ≠ "java/lang/invoke/VarHandle")
    {W9 : Nat} {Pre : Pt → Array Value → Prop} {Post : Pt → Array Value → Option Value → Pt → Prop} {PostX : Pt → Array Value → Addr → Pt → Prop} (hK : vx_Back l R p e below s args y 3 W9 Pre Post PostX)
    {g : JFrame} (hg : g.method = m) (hsize : g.locals.size = c.maxLocals) {a : Addr} {argsL rest : List Value} (hlen : ∀ sig, parseMethodDescriptor y.desc = some sig → argsL.length = sig.parameters.length)
    (hstack : g.stack = argsL.reverse ++ .ref a :: rest) (hW : 2 * g.monitorRoom + (rest.map fun v => v.category).sum ≤ W9) (hdg : decode c.code g.pc = .ok (.invokespecial index, 3))
    (hpre : ∀ vm₁, s.WarmedH vm₁ → Pre ⟨T.setVm vm₁, locs, cells, slots⟩ (Value.ref a :: argsL).toArray) :
    (∃ (v : Option Value) (vm₁ : Vm) (B : Pt), s.WarmedH vm₁ ∧ Stand p l e R s m args below meth c B.U B.locs B.cells B.slots ∧ Post ⟨T.setVm vm₁, locs, cells, slots⟩ (Value.ref a :: argsL).toArray v B ∧
      ∀ target, Steps p.tables e below (B.U.setTop { g with pc := g.pc + 3, stack := v.toList ++ rest }) target → Steps p.tables e below (T.setTop g) target) ∨
    (∃ (q : Addr) (vm₁ : Vm) (B : Pt), s.WarmedH vm₁ ∧ Stand p l e R s m args below meth c B.U B.locs B.cells B.slots ∧ PostX ⟨T.setVm vm₁, locs, cells, slots⟩ (Value.ref a :: argsL).toArray q B ∧
      Steps p.tables e below (T.setTop g) ((B.U.setTop { g with stack := rest }).pushFrame (.throwing q))) := by
  subst hg
  have hpl : e.platform.magicAccessors = ({} : Platform).magicAccessors := by rw [X.admits.platform]
  obtain ⟨mk, methM, cM, kP, vm₁, hnamed, hmethM, hcodeM, -, hlocalsM, -, hkP, -, hW₁, hstep₁⟩ := Steps.initColdArgsNest (e := e) X.here hexec X.warmed hpl hown hy1 hy hlink hinst hcode (f := g) rfl hlen hstack hdg
  have X₁ := X.noted hW₁
  rcases hK g.method meth c ⟨T.setVm vm₁, locs, cells, slots⟩ { g with stack := rest } (.invokespecial index) mk (Value.ref a :: argsL).toArray X₁ rfl hsize hdg hW (X₁.named hnamed) (hpre vm₁ X₁.warmed) with ⟨v, B, X', hpost, hsteps⟩ | ⟨q, B, X', hpost, hsteps⟩
  · exact Or.inl ⟨v, vm₁, B, X₁.warmed, X', hpost, fun target h => hstep₁ _ fun acts => by rw [doInvoke_state]; exact hsteps.trans h⟩
  · exact Or.inr ⟨q, vm₁, B, X₁.warmed, X', hpost, hstep₁ _ fun acts => by rw [doInvoke_state]; exact hsteps⟩
end VXIC
section VXID
variable {p : Program} {l : Launch} {e : Env} {R : Room} {s : State} {m : MethodId} {args : Array Value} {below : List Frame} {meth : Method} {c : Code} {H : Heap} {locs : List Loc} {cells slots : Nat}
theorem vx_runIN {y : MethodName} {bytes cc : ByteArray} {maxL nL mc ms n index : Nat} {ws : List Cond} {rm : Room} {Pc : Array Value → State → Prop} {Qc : Array Value → State → Outcome → State → Prop} {XC : String → State → State → Prop} {free : Addr → Prop} {Ts : List Cond} {own host : String} {b : Addr} {As rest : List Value} {g : JFrame}
    (S : CallFix p m c cc nL s args Ts own) (hM : vx_Met l y ws rm Pc Qc XC mc ms free) (cw : va_CN R s args own index y host bytes maxL none ws rm mc ms n ∧ y.name = "<init>" ∧ (Cond.instanceMethod y).before args s = true) (hp : PreS s H Pc (.ref b :: As))
    (hg : g.method = m) (hn : As.length = n) (hsize : g.locals.size = nL) (hstack : g.stack = As.reverse ++ .ref b :: rest) (hW : 2 * g.monitorRoom + (rest.map fun v => v.category).sum ≤ 8) (hdg : decode cc g.pc = .ok (.invokespecial index, 3)) (hf : cells + mc ≤ R.cells ∧ slots + ms ≤ R.slots) :
    vx_Run p l e R s m args below meth c H locs cells slots mc ms g rest (Qc (Value.ref b :: As).toArray) XC free := by
  obtain ⟨⟨⟨hrc, hrs, hfr, hlo, hws, hcw⟩, hcode, hini, hy, hlen, hl⟩, hx1, hx2⟩ := cw
  have hK : vx_Back l R p e below s args y 3 8 (PreOf R mc ms Pc) (PostOf Qc mc ms free) (vx_Post XC mc ms free) := vx_back (bytes := bytes) (maxL := maxL) (ret := none) hM hp.1 hrc hrs hfr hlo hws hcw (fun a' U hW => word_at hW (Or.inl (by first | rfl | simp [Cond.onTables, Cond.keeps, Cond.steady])) hini)
  obtain ⟨hx, hb, hml, ho, -⟩ := S
  have hPc := hp.2
  intro T hT X
  rcases vx_callIN X hx (bytes := bytes) (maxL := maxL) ho hx1 hl hx2 hcode hy hK hg (hsize.trans hml.symm) (a := b) (argsL := As) (rest := rest) (fun sig h => hn.trans (hlen sig h)) hstack hW (by rw [hb]; exact hdg)
    (fun vm₁ hW₁ => ⟨hf.1, hf.2, hPc (T.setVm vm₁) hT hW₁⟩) with ⟨v, vm₁, ⟨U', l2, c2, s2⟩, hW₁, X', ⟨g', mk, t, L, e1, e2, hq, h1, hL, h2, h3⟩, st⟩ | ⟨q, vm₁, ⟨U', l2, c2, s2⟩, hW₁, X', ⟨g', mk, t, L, E, ce, e1, e2, hq, hce, hcv, hcl, h1, hL, h2, h3⟩, st⟩
  · dsimp only [Pt.U, Pt.locs, Pt.cells, Pt.slots] at X' e1 e2 h1 h2 h3 st
    subst h1; subst h2; subst h3
    exact Or.inl ⟨v, (T.setVm vm₁).calling g' mk (Value.ref b :: As).toArray, t, U', L, hT, X', hL, e1, e2, hq, st⟩
  · dsimp only [Pt.U, Pt.locs, Pt.cells, Pt.slots] at X' e1 e2 h1 h2 h3 st hcl
    subst h1; subst h2; subst h3
    exact Or.inr ⟨q, (T.setVm vm₁).calling g' mk (Value.ref b :: As).toArray, t, U', L, E, ce, hT, X', hL, e1, e2, hq, hce, hcv, vx_cls hW₁ hcl, st⟩
end VXID
/-! ===== END ===== -/
/-! ===== BEGIN a method of a class above, found by the receiver, that may throw (follows va_callVU, va_runU of this kit) ===== -/
section
variable {p : Program} {l : Launch} {e : Env} {R : Room} {s : State} {m : MethodId} {args : Array Value} {below : List Frame} {meth : Method} {c : Code} {H : Heap} {locs : List Loc} {cells slots : Nat}
theorem vx_callVU {T : State} {locs : List Loc} {cells slots : Nat} (X : Stand p l e R s m args below meth c T locs cells slots) (hexec : p.tables.exec = Jvm.exec) {own C owner : String} {index : Nat} {x y : MethodName} {bytes : ByteArray} {maxL : Nat} {ret : Option FieldType}
    (hown : s.vm.findClass own = some m.cls) (hlink : (Cond.methodLink own index x).before args s = true) (hsame : (Cond.sameMethod x.cls owner x.name x.desc).before args s = true)
    (hd0 : va_Decl s ⟨owner, x.name, x.desc⟩) (howner : owner ≠ "java/lang/invoke/MethodHandle" ∧ owner ≠ "java/lang/invoke/VarHandle")
    (hsel : (Cond.selects C x y).before args s = true) (hinst : (Cond.instanceMethod y).before args s = true) (hcode : (Cond.code y bytes maxL ret).before args s = true)
    {W : Nat} {Pre : Pt → Array Value → Prop} {Post : Pt → Array Value → Option Value → Pt → Prop} {PostX : Pt → Array Value → Addr → Pt → Prop} (hK : vx_Back l R p e below s args y 3 W Pre Post PostX)
    {b : Addr} {cellB : Cell} (hcell : T.heap[b]? = some cellB) (hobj : cellB.vm.isStatics = false) (hcls : s.vm.findClass C = some cellB.cls)
    {g : JFrame} (hg : g.method = m) (hsize : g.locals.size = c.maxLocals) {argsL rest : List Value} (hlen : ∀ sig, parseMethodDescriptor x.desc = some sig → argsL.length = sig.parameters.length)
    (hstack : g.stack = argsL.reverse ++ .ref b :: rest) (hW : 2 * g.monitorRoom + (rest.map fun v => v.category).sum ≤ W) (hdg : decode c.code g.pc = .ok (.invokevirtual index, 3))
    (hpre : ∀ vm₁, s.WarmedH vm₁ → Pre ⟨T.setVm vm₁, locs, cells, slots⟩ (Value.ref b :: argsL).toArray) :
    (∃ (v : Option Value) (vm₁ : Vm) (B : Pt), s.WarmedH vm₁ ∧ Stand p l e R s m args below meth c B.U B.locs B.cells B.slots ∧ Post ⟨T.setVm vm₁, locs, cells, slots⟩ (Value.ref b :: argsL).toArray v B ∧
      ∀ target, Steps p.tables e below (B.U.setTop { g with pc := g.pc + 3, stack := v.toList ++ rest }) target → Steps p.tables e below (T.setTop g) target) ∨
    (∃ (q : Addr) (vm₁ : Vm) (B : Pt), s.WarmedH vm₁ ∧ Stand p l e R s m args below meth c B.U B.locs B.cells B.slots ∧ PostX ⟨T.setVm vm₁, locs, cells, slots⟩ (Value.ref b :: argsL).toArray q B ∧
      Steps p.tables e below (T.setTop g) ((B.U.setTop { g with stack := rest }).pushFrame (.throwing q))) := by
  obtain ⟨r0, r, hn, hrm, hstR, hsigR⟩ := hd0
  obtain ⟨cn, ck, r1, hcn, hck, hni, hf, hn1⟩ := Cond.sameMethod_found hsame
  cases hn.symm.trans hn1
  obtain ⟨mk, methM, hnamed, hmethM, -, habM⟩ := Cond.instanceMethod_spec hinst
  obtain ⟨c2, r2, m2, q1, q2, q3, q4, kP, hkP, hkPi⟩ := Cond.selects_spec hsel
  cases hcls.symm.trans q1
  cases hf.symm.trans q2
  cases hnamed.symm.trans q3
  have hselP : selectMethod e.platform s.vm cellB.cls r0 = .method mk := by rw [Launch.admits_selectMethod X.admits]; exact q4
  obtain ⟨vm₁, X₁, hstep₁⟩ := X.invokevirtualUp hexec hown hlink hsame howner hn hrm hstR (a := b) (cell := cellB) hcell
    (fun z h => by rw [h] at hobj; cases hobj) hselP hmethM habM hkP hkPi (g := g) hg (argsL := argsL) (rest := rest) (hlen _ hsigR) hstack hdg
  rcases hK m meth c ⟨T.setVm vm₁, locs, cells, slots⟩ { g with stack := rest } (.invokevirtual index) mk (Value.ref b :: argsL).toArray X₁ hg hsize hdg hW (X₁.named hnamed) (hpre vm₁ X₁.warmed) with ⟨v, B, X', hpost, hsteps⟩ | ⟨q, B, X', hpost, hsteps⟩
  · exact Or.inl ⟨v, vm₁, B, X₁.warmed, X', hpost, fun target h => hstep₁ _ fun acts => by rw [doInvoke_state]; exact hsteps.trans h⟩
  · exact Or.inr ⟨q, vm₁, B, X₁.warmed, X', hpost, hstep₁ _ fun acts => by rw [doInvoke_state]; exact hsteps⟩
theorem vx_runU {x y : MethodName} {bytes cc : ByteArray} {maxL nL mc ms n index : Nat} {ret : Option FieldType} {ws : List Cond} {rm : Room} {Pc : Array Value → State → Prop} {Qc : Array Value → State → Outcome → State → Prop} {XC : String → State → State → Prop} {free : Addr → Prop} {Ts : List Cond} {own C owner : String} {b : Addr} {As rest : List Value} {g : JFrame}
    (S : CallFix p m c cc nL s args Ts own) (hM : vx_Met l y ws rm Pc Qc XC mc ms free) (cw : va_CU R s args own C owner index x y bytes maxL ret ws rm mc ms n) (hp : PreV s H C b Pc As)
    (hg : g.method = m) (hn : As.length = n) (hsize : g.locals.size = nL) (hstack : g.stack = As.reverse ++ .ref b :: rest) (hW : 2 * g.monitorRoom + (rest.map fun v => v.category).sum ≤ 8) (hdg : decode cc g.pc = .ok (.invokevirtual index, 3)) (hf : cells + mc ≤ R.cells ∧ slots + ms ≤ R.slots) :
    vx_Run p l e R s m args below meth c H locs cells slots mc ms g rest (Qc (Value.ref b :: As).toArray) XC free := by
  obtain ⟨hrc, hrs, hfr, hlo, hws, hcw⟩ := cw.back
  have hini := cw.init
  have hK : vx_Back l R p e below s args y 3 8 (PreOf R mc ms Pc) (PostOf Qc mc ms free) (vx_Post XC mc ms free) := vx_back (bytes := bytes) (maxL := maxL) (ret := ret) hM hp.1 hrc hrs hfr hlo hws hcw (fun a' U hW => word_at hW (Or.inl (by first | rfl | simp [Cond.onTables, Cond.keeps, Cond.steady])) hini)
  obtain ⟨hx, hb, hml, ho, -⟩ := S
  obtain ⟨-, ⟨cellB, hcB, hoB, hclB⟩, hPc⟩ := hp
  intro T hT X
  rcases vx_callVU X hx (C := C) (owner := owner) (bytes := bytes) (maxL := maxL) (ret := ret) ho cw.link cw.same cw.decl cw.notMH cw.sel cw.inst cw.code hK (by rw [hT]; exact hcB) hoB hclB hg (hsize.trans hml.symm) (argsL := As) (rest := rest) (fun sig h => hn.trans (cw.len sig h)) hstack hW (by rw [hb]; exact hdg)
    (fun vm₁ hW₁ => ⟨hf.1, hf.2, hPc (T.setVm vm₁) hT hW₁⟩) with ⟨v, vm₁, ⟨U', l2, c2, s2⟩, hW₁, X', ⟨g', mk, t, L, e1, e2, hq, h1, hL, h2, h3⟩, st⟩ | ⟨q, vm₁, ⟨U', l2, c2, s2⟩, hW₁, X', ⟨g', mk, t, L, E, ce, e1, e2, hq, hce, hcv, hcl, h1, hL, h2, h3⟩, st⟩
  · dsimp only [Pt.U, Pt.locs, Pt.cells, Pt.slots] at X' e1 e2 h1 h2 h3 st
    subst h1; subst h2; subst h3
    exact Or.inl ⟨v, (T.setVm vm₁).calling g' mk (Value.ref b :: As).toArray, t, U', L, hT, X', hL, e1, e2, hq, st⟩
  · dsimp only [Pt.U, Pt.locs, Pt.cells, Pt.slots] at X' e1 e2 h1 h2 h3 st hcl
    subst h1; subst h2; subst h3
    exact Or.inr ⟨q, (T.setVm vm₁).calling g' mk (Value.ref b :: As).toArray, t, U', L, E, ce, hT, X', hL, e1, e2, hq, hce, hcv, vx_cls hW₁ hcl, st⟩
end
/-! ===== END ===== -/
/-! ===== BEGIN super.m(..) that may throw (follows va_callSU, va_runSU) ===== -/
section
variable {p : Program} {l : Launch} {e : Env} {R : Room} {s : State} {m : MethodId} {args : Array Value} {below : List Frame} {meth : Method} {c : Code} {H : Heap} {locs : List Loc} {cells slots : Nat}
theorem vx_callSU {T : State} {locs : List Loc} {cells slots : Nat} (X : Stand p l e R s m args below meth c T locs cells slots) (hexec : p.tables.exec = Jvm.exec) {own : String} {index : Nat} {y : MethodName} {bytes : ByteArray} {maxL : Nat} {ret : Option FieldType}
    (hown : s.vm.findClass own = some m.cls) (hlink : (Cond.methodLink own index y).before args s = true) (hsame : (Cond.sameMethod y.cls y.cls y.name y.desc).before args s = true) (hsup : (Cond.superclass own y.cls).before args s = true)
    (hinst : (Cond.instanceMethod y).before args s = true) (hcode : (Cond.code y bytes maxL ret).before args s = true) (hno : y.name ≠ "<init>")
    {W : Nat} {Pre : Pt → Array Value → Prop} {Post : Pt → Array Value → Option Value → Pt → Prop} {PostX : Pt → Array Value → Addr → Pt → Prop} (hK : vx_Back l R p e below s args y 3 W Pre Post PostX)
    {b : Addr} {cellB : Cell} {kB : Class} (hcell : T.heap[b]? = some cellB) (hobj : cellB.vm.isStatics = false) (hkB : s.vm.classes[cellB.cls]? = some kB)
    {g : JFrame} (hg : g.method = m) (hsize : g.locals.size = c.maxLocals) {argsL rest : List Value} (hlen : ∀ sig, parseMethodDescriptor y.desc = some sig → argsL.length = sig.parameters.length)
    (hstack : g.stack = argsL.reverse ++ .ref b :: rest) (hW : 2 * g.monitorRoom + (rest.map fun v => v.category).sum ≤ W) (hdg : decode c.code g.pc = .ok (.invokespecial index, 3))
    (hpre : ∀ vm₁, s.WarmedH vm₁ → Pre ⟨T.setVm vm₁, locs, cells, slots⟩ (Value.ref b :: argsL).toArray) :
    (∃ (v : Option Value) (vm₁ : Vm) (B : Pt), s.WarmedH vm₁ ∧ Stand p l e R s m args below meth c B.U B.locs B.cells B.slots ∧ Post ⟨T.setVm vm₁, locs, cells, slots⟩ (Value.ref b :: argsL).toArray v B ∧
      ∀ target, Steps p.tables e below (B.U.setTop { g with pc := g.pc + 3, stack := v.toList ++ rest }) target → Steps p.tables e below (T.setTop g) target) ∨
    (∃ (q : Addr) (vm₁ : Vm) (B : Pt), s.WarmedH vm₁ ∧ Stand p l e R s m args below meth c B.U B.locs B.cells B.slots ∧ PostX ⟨T.setVm vm₁, locs, cells, slots⟩ (Value.ref b :: argsL).toArray q B ∧
      Steps p.tables e below (T.setTop g) ((B.U.setTop { g with stack := rest }).pushFrame (.throwing q))) := by
  obtain ⟨mk, methM, hnamed, hmethM, hstM, habM⟩ := Cond.instanceMethod_spec hinst
  obtain ⟨methM', cM, hmethM', -, -, -, -, -, -, hsigM⟩ := Cond.code_spec hnamed hcode
  cases hmethM.symm.trans hmethM'
  obtain ⟨ps, dk, kp, hps, hdk, hkp, hsuper, -, -, hnid⟩ := Cond.superclass_spec hown hsup
  have hn : s.methodNamed? ⟨y.cls, y.name, y.desc⟩ = some mk := hnamed
  have hpm : ps = mk.cls := Option.some.inj (hps.symm.trans (findClass_of_methodNamed hnamed))
  have hsub : s.vm.isSubclass ps mk.cls = true := by rw [hpm]; simp [Vm.isSubclass, Vm.isSubclassAux]
  obtain ⟨vm₁, X₁, hstep₁⟩ := X.invokespecialUp hexec hown hlink hsame hn hmethM hstM habM hno hdk hnid hps hsuper hsub (a := b) (cell := cellB) hcell
    (fun z h => by rw [h] at hobj; cases hobj) hkB (g := g) hg (argsL := argsL) (rest := rest) (hlen _ hsigM) hstack hdg
  rcases hK m meth c ⟨T.setVm vm₁, locs, cells, slots⟩ { g with stack := rest } (.invokespecial index) mk (Value.ref b :: argsL).toArray X₁ hg hsize hdg hW (X₁.named hnamed) (hpre vm₁ X₁.warmed) with ⟨v, B, X', hpost, hsteps⟩ | ⟨q, B, X', hpost, hsteps⟩
  · exact Or.inl ⟨v, vm₁, B, X₁.warmed, X', hpost, fun target h => hstep₁ _ (by rw [doInvoke_state]; exact hsteps.trans h)⟩
  · exact Or.inr ⟨q, vm₁, B, X₁.warmed, X', hpost, hstep₁ _ (by rw [doInvoke_state]; exact hsteps)⟩
theorem vx_runSU {y : MethodName} {bytes cc : ByteArray} {maxL nL mc ms n index : Nat} {ret : Option FieldType} {ws : List Cond} {rm : Room} {Pc : Array Value → State → Prop} {Qc : Array Value → State → Outcome → State → Prop} {XC : String → State → State → Prop} {free : Addr → Prop} {Ts : List Cond} {own C : String} {cC : ClassId} {b : Addr} {As rest : List Value} {g : JFrame}
    (hat : ClassAt s C cC) (S : CallFix p m c cc nL s args Ts own) (hM : vx_Met l y ws rm Pc Qc XC mc ms free) (cw : va_CS R s args own index y bytes maxL ret ws rm mc ms n) (hp : PreV s H C b Pc As)
    (hg : g.method = m) (hn : As.length = n) (hsize : g.locals.size = nL) (hstack : g.stack = As.reverse ++ .ref b :: rest) (hW : 2 * g.monitorRoom + (rest.map fun v => v.category).sum ≤ 8) (hdg : decode cc g.pc = .ok (.invokespecial index, 3)) (hf : cells + mc ≤ R.cells ∧ slots + ms ≤ R.slots) :
    vx_Run p l e R s m args below meth c H locs cells slots mc ms g rest (Qc (Value.ref b :: As).toArray) XC free := by
  obtain ⟨⟨hrc, hrs, hfr, hlo, hws, hcw⟩, hl1, hl2, hl3, hl4, hini, hcode, hno, hlen⟩ := cw
  have hK : vx_Back l R p e below s args y 3 8 (PreOf R mc ms Pc) (PostOf Qc mc ms free) (vx_Post XC mc ms free) := vx_back (bytes := bytes) (maxL := maxL) (ret := ret) hM hp.1 hrc hrs hfr hlo hws hcw (fun a' U hW => word_at hW (Or.inl (by first | rfl | simp [Cond.onTables, Cond.keeps, Cond.steady])) hini)
  obtain ⟨hx, hb, hml, ho, -⟩ := S
  obtain ⟨-, ⟨cellB, hcB, hoB, hclB⟩, hPc⟩ := hp
  obtain ⟨hfc, kB, hkB, -⟩ := hat
  cases hfc.symm.trans hclB
  intro T hT X
  rcases vx_callSU X hx (bytes := bytes) (maxL := maxL) (ret := ret) ho hl1 hl2 hl3 hl4 hcode hno hK (by rw [hT]; exact hcB) hoB hkB hg (hsize.trans hml.symm) (argsL := As) (rest := rest) (fun sig h => hn.trans (hlen sig h)) hstack hW (by rw [hb]; exact hdg)
    (fun vm₁ hW₁ => ⟨hf.1, hf.2, hPc (T.setVm vm₁) hT hW₁⟩) with ⟨v, vm₁, ⟨U', l2, c2, s2⟩, hW₁, X', ⟨g', mk, t, L, e1, e2, hq, h1, hL, h2, h3⟩, st⟩ | ⟨q, vm₁, ⟨U', l2, c2, s2⟩, hW₁, X', ⟨g', mk, t, L, E, ce, e1, e2, hq, hce, hcv, hcl, h1, hL, h2, h3⟩, st⟩
  · dsimp only [Pt.U, Pt.locs, Pt.cells, Pt.slots] at X' e1 e2 h1 h2 h3 st
    subst h1; subst h2; subst h3
    exact Or.inl ⟨v, (T.setVm vm₁).calling g' mk (Value.ref b :: As).toArray, t, U', L, hT, X', hL, e1, e2, hq, st⟩
  · dsimp only [Pt.U, Pt.locs, Pt.cells, Pt.slots] at X' e1 e2 h1 h2 h3 st hcl
    subst h1; subst h2; subst h3
    exact Or.inr ⟨q, (T.setVm vm₁).calling g' mk (Value.ref b :: As).toArray, t, U', L, E, ce, hT, X', hL, e1, e2, hq, hce, hcv, vx_cls hW₁ hcl, st⟩
end
/-! ===== END ===== -/
/-! ===== BEGIN a private method of a nest mate that may throw (follows va_callVN, va_callSN, va_runVN, va_runSN) ===== -/
section
variable {p : Program} {l : Launch} {e : Env} {R : Room} {s : State} {m : MethodId} {args : Array Value} {below : List Frame} {meth : Method} {c : Code} {H : Heap} {locs : List Loc} {cells slots : Nat}
variable {T : State}
theorem vx_callVN (X : Stand p l e R s m args below meth c T locs cells slots) (hexec : p.tables.exec = Jvm.exec) {own C : String} {index : Nat} {host : String} {y : MethodName} {bytes : ByteArray} {maxL : Nat} {ret : Option FieldType}
    (hown : s.vm.findClass own = some m.cls) (hlink : (Cond.methodLinkNest own index y host).before args s = true) (hinst : (Cond.instanceMethod y).before args s = true) (hsel : (Cond.selects C y y).before args s = true)
    (hcode : (Cond.code y bytes maxL ret).before args s = true) (hy : y.cls ≠ "java/lang/invoke/MethodHandle" ∧ y.cls ≠ "java/lang/invoke/VarHandle")
    {W : Nat} {Pre : Pt → Array Value → Prop} {Post : Pt → Array Value → Option Value → Pt → Prop} {PostX : Pt → Array Value → Addr → Pt → Prop} (hK : vx_Back l R p e below s args y 3 W Pre Post PostX)
    {b : Addr} {cellB : Cell} (hcell : T.heap[b]? = some cellB) (hobj : cellB.vm.isStatics = false) (hcls : s.vm.findClass C = some cellB.cls)
    {g : JFrame} (hg : g.method = m) (hsize : g.locals.size = c.maxLocals) {argsL rest : List Value} (hlen : ∀ sig, parseMethodDescriptor y.desc = some sig → argsL.length = sig.parameters.length)
    (hstack : g.stack = argsL.reverse ++ .ref b :: rest) (hW : 2 * g.monitorRoom + (rest.map fun v => v.category).sum ≤ W) (hdg : decode c.code g.pc = .ok (.invokevirtual index, 3))
    (hpre : ∀ vm₁, s.WarmedH vm₁ → Pre ⟨T.setVm vm₁, locs, cells, slots⟩ (Value.ref b :: argsL).toArray) :
    (∃ (v : Option Value) (vm₁ : Vm) (B : Pt), s.WarmedH vm₁ ∧ Stand p l e R s m args below meth c B.U B.locs B.cells B.slots ∧ Post ⟨T.setVm vm₁, locs, cells, slots⟩ (Value.ref b :: argsL).toArray v B ∧
      ∀ target, Steps p.tables e below (B.U.setTop { g with pc := g.pc + 3, stack := v.toList ++ rest }) target → Steps p.tables e below (T.setTop g) target) ∨
    (∃ (q : Addr) (vm₁ : Vm) (B : Pt), s.WarmedH vm₁ ∧ Stand p l e R s m args below meth c B.U B.locs B.cells B.slots ∧ PostX ⟨T.setVm vm₁, locs, cells, slots⟩ (Value.ref b :: argsL).toArray q B ∧
      Steps p.tables e below (T.setTop g) ((B.U.setTop { g with stack := rest }).pushFrame (.throwing q))) := by
  obtain ⟨mk, methM, hnamed, hmethM, hstM, habM⟩ := Cond.instanceMethod_spec hinst
  obtain ⟨methM', cM, hmethM', -, -, -, -, -, -, hsigM⟩ := Cond.code_spec hnamed hcode
  cases hmethM.symm.trans hmethM'
  obtain ⟨c2, r2, m2, q1, q2, q3, q4, kP, hkP, hkPi⟩ := Cond.selects_spec hsel
  cases hcls.symm.trans q1
  cases (State.methodFound?_of_named hnamed hy).symm.trans q2
  cases hnamed.symm.trans q3
  have hselP : selectMethod e.platform s.vm cellB.cls mk = .method mk := by rw [Launch.admits_selectMethod X.admits]; exact q4
  obtain ⟨vm₁, X₁, hstep₁⟩ := X.invokevirtualNest hexec hown hlink hnamed hmethM hstM hkP hkPi hy (a := b) (cell := cellB) hcell
    (fun z h => by rw [h] at hobj; cases hobj) hselP hmethM habM hkP hkPi (g := g) hg (argsL := argsL) (rest := rest) (hlen _ hsigM) hstack hdg
  rcases hK m meth c ⟨T.setVm vm₁, locs, cells, slots⟩ { g with stack := rest } (.invokevirtual index) mk (Value.ref b :: argsL).toArray X₁ hg hsize hdg hW (X₁.named hnamed) (hpre vm₁ X₁.warmed) with ⟨v, B, X', hpost, hsteps⟩ | ⟨q, B, X', hpost, hsteps⟩
  · exact Or.inl ⟨v, vm₁, B, X₁.warmed, X', hpost, fun target h => hstep₁ _ fun acts => by rw [doInvoke_state]; exact hsteps.trans h⟩
  · exact Or.inr ⟨q, vm₁, B, X₁.warmed, X', hpost, hstep₁ _ fun acts => by rw [doInvoke_state]; exact hsteps⟩
theorem vx_callSN (X : Stand p l e R s m args below meth c T locs cells slots) (hexec : p.tables.exec = Jvm.exec) {own : String} {index : Nat} {host : String} {y : MethodName} {bytes : ByteArray} {maxL : Nat} {ret : Option FieldType}
    (hown : s.vm.findClass own = some m.cls) (hlink : (Cond.methodLinkNest own index y host).before args s = true) (hstat : (Cond.static y).before args s = true) (hinit : (Cond.initialized y.cls).before args s = true)
    (hcode : (Cond.code y bytes maxL ret).before args s = true) (hy : y.cls ≠ "java/lang/invoke/MethodHandle" ∧ y.cls ≠ "java/lang/invoke/VarHandle")
    {W : Nat} {Pre : Pt → Array Value → Prop} {Post : Pt → Array Value → Option Value → Pt → Prop} {PostX : Pt → Array Value → Addr → Pt → Prop} (hK : vx_Back l R p e below s args y 3 W Pre Post PostX)
    {g : JFrame} (hg : g.method = m) (hsize : g.locals.size = c.maxLocals) {argsL rest : List Value} (hlen : ∀ sig, parseMethodDescriptor y.desc = some sig → argsL.length = sig.parameters.length)
    (hstack : g.stack = argsL.reverse ++ rest) (hW : 2 * g.monitorRoom + (rest.map fun v => v.category).sum ≤ W) (hdg : decode c.code g.pc = .ok (.invokestatic index, 3))
    (hpre : ∀ vm₁, s.WarmedH vm₁ → Pre ⟨T.setVm vm₁, locs, cells, slots⟩ argsL.toArray) :
    (∃ (v : Option Value) (vm₁ : Vm) (B : Pt), s.WarmedH vm₁ ∧ Stand p l e R s m args below meth c B.U B.locs B.cells B.slots ∧ Post ⟨T.setVm vm₁, locs, cells, slots⟩ argsL.toArray v B ∧
      ∀ target, Steps p.tables e below (B.U.setTop { g with pc := g.pc + 3, stack := v.toList ++ rest }) target → Steps p.tables e below (T.setTop g) target) ∨
    (∃ (q : Addr) (vm₁ : Vm) (B : Pt), s.WarmedH vm₁ ∧ Stand p l e R s m args below meth c B.U B.locs B.cells B.slots ∧ PostX ⟨T.setVm vm₁, locs, cells, slots⟩ argsL.toArray q B ∧
      Steps p.tables e below (T.setTop g) ((B.U.setTop { g with stack := rest }).pushFrame (.throwing q))) := by
  obtain ⟨mk, hnamed⟩ := Cond.code_named hcode
  obtain ⟨methM, cM, hmethM, -, -, -, -, -, -, hsigM⟩ := Cond.code_spec hnamed hcode
  have hstatic : methM.isStatic = true := Cond.static_spec hnamed hmethM hstat
  obtain ⟨kP, hkP, -⟩ := className_of_methodNamed hnamed
  have hinitP : kP.init = .initialized := Cond.initialized_spec (findClass_of_methodNamed hnamed) hkP hinit
  obtain ⟨vm₁, X₁, hstep₁⟩ := X.invokestaticNest hexec hown hlink hnamed hmethM hstatic hkP hinitP hy (g := g) hg (argsL := argsL) (rest := rest) (hlen _ hsigM) hstack hdg
  rcases hK m meth c ⟨T.setVm vm₁, locs, cells, slots⟩ { g with stack := rest } (.invokestatic index) mk argsL.toArray X₁ hg hsize hdg hW (X₁.named hnamed) (hpre vm₁ X₁.warmed) with ⟨v, B, X', hpost, hsteps⟩ | ⟨q, B, X', hpost, hsteps⟩
  · exact Or.inl ⟨v, vm₁, B, X₁.warmed, X', hpost, fun target h => hstep₁ _ fun acts => by rw [doInvoke_state]; exact hsteps.trans h⟩
  · exact Or.inr ⟨q, vm₁, B, X₁.warmed, X', hpost, hstep₁ _ fun acts => by rw [doInvoke_state]; exact hsteps⟩
theorem vx_runVN {y : MethodName} {bytes cc : ByteArray} {maxL nL mc ms n index : Nat} {ret : Option FieldType} {ws : List Cond} {rm : Room} {Pc : Array Value → State → Prop} {Qc : Array Value → State → Outcome → State → Prop} {XC : String → State → State → Prop} {free : Addr → Prop} {Ts : List Cond} {own C host : String} {b : Addr} {As rest : List Value} {g : JFrame}
    (S : CallFix p m c cc nL s args Ts own) (hM : vx_Met l y ws rm Pc Qc XC mc ms free) (cw : va_CN R s args own index y host bytes maxL ret ws rm mc ms n ∧ (Cond.instanceMethod y).before args s = true ∧ (Cond.selects C y y).before args s = true) (hp : PreV s H C b Pc As)
    (hg : g.method = m) (hn : As.length = n) (hsize : g.locals.size = nL) (hstack : g.stack = As.reverse ++ .ref b :: rest) (hW : 2 * g.monitorRoom + (rest.map fun v => v.category).sum ≤ 8) (hdg : decode cc g.pc = .ok (.invokevirtual index, 3)) (hf : cells + mc ≤ R.cells ∧ slots + ms ≤ R.slots) :
    vx_Run p l e R s m args below meth c H locs cells slots mc ms g rest (Qc (Value.ref b :: As).toArray) XC free := by
  obtain ⟨⟨⟨hrc, hrs, hfr, hlo, hws, hcw⟩, hcode, hini, hy, hlen, hl⟩, hx1, hx2⟩ := cw
  have hK : vx_Back l R p e below s args y 3 8 (PreOf R mc ms Pc) (PostOf Qc mc ms free) (vx_Post XC mc ms free) := vx_back (bytes := bytes) (maxL := maxL) (ret := ret) hM hp.1 hrc hrs hfr hlo hws hcw (fun a' U hW => word_at hW (Or.inl (by first | rfl | simp [Cond.onTables, Cond.keeps, Cond.steady])) hini)
  obtain ⟨hx, hb, hml, ho, -⟩ := S
  obtain ⟨-, ⟨cellB, hcB, hoB, hclB⟩, hPc⟩ := hp
  intro T hT X
  rcases vx_callVN X hx (C := C) (bytes := bytes) (maxL := maxL) (ret := ret) ho hl hx1 hx2 hcode hy hK (by rw [hT]; exact hcB) hoB hclB hg (hsize.trans hml.symm) (argsL := As) (rest := rest) (fun sig h => hn.trans (hlen sig h)) hstack hW (by rw [hb]; exact hdg)
    (fun vm₁ hW₁ => ⟨hf.1, hf.2, hPc (T.setVm vm₁) hT hW₁⟩) with ⟨v, vm₁, ⟨U', l2, c2, s2⟩, hW₁, X', ⟨g', mk, t, L, e1, e2, hq, h1, hL, h2, h3⟩, st⟩ | ⟨q, vm₁, ⟨U', l2, c2, s2⟩, hW₁, X', ⟨g', mk, t, L, E, ce, e1, e2, hq, hce, hcv, hcl, h1, hL, h2, h3⟩, st⟩
  · dsimp only [Pt.U, Pt.locs, Pt.cells, Pt.slots] at X' e1 e2 h1 h2 h3 st
    subst h1; subst h2; subst h3
    exact Or.inl ⟨v, (T.setVm vm₁).calling g' mk (Value.ref b :: As).toArray, t, U', L, hT, X', hL, e1, e2, hq, st⟩
  · dsimp only [Pt.U, Pt.locs, Pt.cells, Pt.slots] at X' e1 e2 h1 h2 h3 st hcl
    subst h1; subst h2; subst h3
    exact Or.inr ⟨q, (T.setVm vm₁).calling g' mk (Value.ref b :: As).toArray, t, U', L, E, ce, hT, X', hL, e1, e2, hq, hce, hcv, vx_cls hW₁ hcl, st⟩
theorem vx_runSN {y : MethodName} {bytes cc : ByteArray} {maxL nL mc ms n index : Nat} {ret : Option FieldType} {ws : List Cond} {rm : Room} {Pc : Array Value → State → Prop} {Qc : Array Value → State → Outcome → State → Prop} {XC : String → State → State → Prop} {free : Addr → Prop} {Ts : List Cond} {own host : String} {As rest : List Value} {g : JFrame}
    (S : CallFix p m c cc nL s args Ts own) (hM : vx_Met l y ws rm Pc Qc XC mc ms free) (cw : va_CN R s args own index y host bytes maxL ret ws rm mc ms n ∧ (Cond.static y).before args s = true ∧ True) (hp : PreS s H Pc As)
    (hg : g.method = m) (hn : As.length = n) (hsize : g.locals.size = nL) (hstack : g.stack = As.reverse ++ rest) (hW : 2 * g.monitorRoom + (rest.map fun v => v.category).sum ≤ 8) (hdg : decode cc g.pc = .ok (.invokestatic index, 3)) (hf : cells + mc ≤ R.cells ∧ slots + ms ≤ R.slots) :
    vx_Run p l e R s m args below meth c H locs cells slots mc ms g rest (Qc As.toArray) XC free := by
  obtain ⟨⟨⟨hrc, hrs, hfr, hlo, hws, hcw⟩, hcode, hini, hy, hlen, hl⟩, hx1, hx2⟩ := cw
  have hK : vx_Back l R p e below s args y 3 8 (PreOf R mc ms Pc) (PostOf Qc mc ms free) (vx_Post XC mc ms free) := vx_back (bytes := bytes) (maxL := maxL) (ret := ret) hM hp.1 hrc hrs hfr hlo hws hcw (fun a' U hW => word_at hW (Or.inl (by first | rfl | simp [Cond.onTables, Cond.keeps, Cond.steady])) hini)
  obtain ⟨hx, hb, hml, ho, -⟩ := S
  have hPc := hp.2
  intro T hT X
  rcases vx_callSN X hx (bytes := bytes) (maxL := maxL) (ret := ret) ho hl hx1 hini hcode hy hK hg (hsize.trans hml.symm) (argsL := As) (rest := rest) (fun sig h => hn.trans (hlen sig h)) hstack hW (by rw [hb]; exact hdg)
    (fun vm₁ hW₁ => ⟨hf.1, hf.2, hPc (T.setVm vm₁) hT hW₁⟩) with ⟨v, vm₁, ⟨U', l2, c2, s2⟩, hW₁, X', ⟨g', mk, t, L, e1, e2, hq, h1, hL, h2, h3⟩, st⟩ | ⟨q, vm₁, ⟨U', l2, c2, s2⟩, hW₁, X', ⟨g', mk, t, L, E, ce, e1, e2, hq, hce, hcv, hcl, h1, hL, h2, h3⟩, st⟩
  · dsimp only [Pt.U, Pt.locs, Pt.cells, Pt.slots] at X' e1 e2 h1 h2 h3 st
    subst h1; subst h2; subst h3
    exact Or.inl ⟨v, (T.setVm vm₁).calling g' mk As.toArray, t, U', L, hT, X', hL, e1, e2, hq, st⟩
  · dsimp only [Pt.U, Pt.locs, Pt.cells, Pt.slots] at X' e1 e2 h1 h2 h3 st hcl
    subst h1; subst h2; subst h3
    exact Or.inr ⟨q, (T.setVm vm₁).calling g' mk As.toArray, t, U', L, E, ce, hT, X', hL, e1, e2, hq, hce, hcv, vx_cls hW₁ hcl, st⟩
end
/-! ===== END ===== -/
end
section
/-! ===== THE MINI MACHINE: decoded instructions with resolved links, a heap that is a list of cells, references that are places ===== -/
/-- a cell: an array of whole numbers (kind of type, length, contents as one number), an array of references, an object -/
abbrev mm_C : Type := (Nat × Nat × Nat) ⊕ ((Nat × List (Option Nat)) ⊕ (Nat × List Value))
abbrev mm_H : Type := List mm_C
abbrev mm_L : Type := List (Option Value)
/-- an instruction: its place, itself, the place behind it, what its links say -/
abbrev mm_I : Type := Nat × Instr × Nat × List Nat
/-- a step: on with a change of the heap, a call, a return, a throw -/
abbrev mm_A : Type := (Nat × mm_L × List Value × Option ((Nat × mm_C) ⊕ mm_C)) ⊕ ((Nat × List Value × List Value) ⊕ (Unit ⊕ Nat))
/-- how many fields or elements a cell has -/
def mm_sl (c : mm_C) : Nat := match c with
  | .inl (_, n, _) => n
  | .inr (.inl (_, rs)) => rs.length
  | .inr (.inr (ci, fs)) => match Nat.ble 15 ci with
    | true => 6
    | false => fs.length
def mm_sum (h : mm_H) : Nat := match h with
  | [] => 0
  | c :: r => mm_sl c + mm_sum r
abbrev mm_R : Type := (Nat × mm_L × List Value) ⊕ Nat
abbrev mm_V : Type := Option Value ⊕ Nat
def mm_fN {α : Type} (n : Nat) (k : Nat → α) : α := match n with
  | 0 => k 0
  | m + 1 => k (m + 1)
def mm_fI {α : Type} (x : Int32) (k : Int32 → α) : α := mm_fN x.toUInt32.toNat (fun n => k (Int32.ofNat n))
def mm_fL {α : Type} (x : Int64) (k : Int64 → α) : α := mm_fN x.toUInt64.toNat (fun n => k (Int64.ofNat n))
/-- contents of arrays: w bits a place -/
def mm_ag (w N i : Nat) : Nat := (N >>> (w * i)) % 2 ^ w
def mm_as (w N i v : Nat) : Nat := N ^^^ ((mm_ag w N i ^^^ (v % 2 ^ w)) <<< (w * i))
def mm_cat2 (v : Value) : Bool := match v with
  | .long _ => true
  | .double _ => true
  | _ => false
def mm_get (L : mm_L) (i : Nat) : Option Value := match L[i]? with
  | some o => o
  | none => none
def mm_kill (L : mm_L) (i : Nat) : mm_L := match i with
  | 0 => L
  | k + 1 => match mm_get L k with
    | some v => if mm_cat2 v = true then L.set k none else L
    | none => L
def mm_set1 (L : mm_L) (i : Nat) (v : Value) : Option mm_L := if i < L.length then some ((mm_kill L i).set i (some v)) else none
def mm_set2 (L : mm_L) (i : Nat) (v : Value) : Option mm_L := if i + 1 < L.length then some (((mm_kill L i).set i (some v)).set (i + 1) none) else none
def mm_go (nx : Nat) (L : mm_L) (st : List Value) : Option mm_A := some (.inl (nx, L, st, none))
def mm_ld (nx : Nat) (L : mm_L) (st : List Value) (i : Nat) (ok : Value → Bool) : Option mm_A := match mm_get L i with
  | some v => if ok v = true then mm_go nx L (v :: st) else none
  | none => none
def mm_isI (v : Value) : Bool := match v with
  | .int _ => true
  | _ => false
def mm_isL (v : Value) : Bool := match v with
  | .long _ => true
  | _ => false
def mm_isD (v : Value) : Bool := match v with
  | .double _ => true
  | _ => false
def mm_isA (v : Value) : Bool := match v with
  | .ref _ => true
  | .null => true
  | _ => false
def mm_s1 (nx : Nat) (L : mm_L) (st : List Value) (i : Nat) (ok : Value → Bool) : Option mm_A := match st with
  | v :: r => if ok v = true then (match mm_set1 L i v with
    | some L' => mm_go nx L' r
    | none => none) else none
  | _ => none
def mm_s2 (nx : Nat) (L : mm_L) (st : List Value) (i : Nat) (ok : Value → Bool) : Option mm_A := match st with
  | v :: r => if ok v = true then (match mm_set2 L i v with
    | some L' => mm_go nx L' r
    | none => none) else none
  | _ => none
def mm_i2 (nx : Nat) (L : mm_L) (st : List Value) (f : Int32 → Int32 → Int32) : Option mm_A := match st with
  | .int y :: .int x :: r => mm_fI (f x y) fun z => mm_go nx L (.int z :: r)
  | _ => none
def mm_i1 (nx : Nat) (L : mm_L) (st : List Value) (f : Int32 → Int32) : Option mm_A := match st with
  | .int x :: r => mm_fI (f x) fun z => mm_go nx L (.int z :: r)
  | _ => none
def mm_br (nx : Nat) (L : mm_L) (ax : List Nat) (r : List Value) (b : Bool) : Option mm_A := match ax with
  | [t] => match b with
    | true => mm_go t L r
    | false => mm_go nx L r
  | _ => none
def mm_un (x : Int32) : Nat := x.toUInt32.toNat
def mm_sn (x : Int32) : Nat := (mm_un x + 2147483648) % 4294967296
def mm_lt (x y : Int32) : Bool := Nat.ble (mm_sn x + 1) (mm_sn y)
def mm_eq (x y : Int32) : Bool := Nat.beq (mm_un x) (mm_un y)
def mm_cnd (c : ClassFile.Cond) (x y : Int32) : Bool := match c with
  | .eq => mm_eq x y
  | .ne => !(mm_eq x y)
  | .lt => mm_lt x y
  | .ge => !(mm_lt x y)
  | .gt => mm_lt y x
  | .le => !(mm_lt y x)
def mm_lsn (x : Int64) : Nat := match Nat.ble 9223372036854775808 x.toUInt64.toNat with
  | true => x.toUInt64.toNat - 9223372036854775808
  | false => x.toUInt64.toNat + 9223372036854775808
def mm_lcmp (x y : Int64) : Int32 := match Nat.ble (mm_lsn x + 1) (mm_lsn y) with
  | true => -1
  | false => match Nat.beq (mm_lsn x) (mm_lsn y) with
    | true => 0
    | false => 1
def mm_rd (ext : Nat → Option mm_C) (h : mm_H) (a : Nat) : Option mm_C := match Nat.ble 64 a with
  | true => h[a - 64]?
  | false => ext a
def mm_prim (c : Option mm_C) (t : Nat) : Option (Nat × Nat) := match c with
  | some (.inl (t', n, N)) => match Nat.beq t t' with
    | true => some (n, N)
    | false => none
  | _ => none
def mm_in (i : Int32) (n : Nat) : Bool := Nat.ble (mm_un i + 1) n && Nat.ble n 2147483647
/-- a write: own cells alone -/
def mm_wr (nx : Nat) (L : mm_L) (st : List Value) (a : Nat) (c : mm_C) : Option mm_A := match Nat.ble 64 a with
  | true => some (.inl (nx, L, st, some (.inl (a - 64, c))))
  | false => none
/-- k places of N from p on, into M from q on -/
def mm_cpy (w N p : Nat) : Nat → Nat → Nat → Nat
  | M, _, 0 => M
  | M, q, k + 1 => mm_fN (mm_as w M q (mm_ag w N p)) fun M' => mm_cpy w N (p + 1) M' (q + 1) k
def mm_obj (c : Option mm_C) (ci : Nat) : Option (List Value) := match c with
  | some (.inr (.inr (ci', fs))) => match Nat.beq ci ci' with
    | true => some fs
    | false => none
  | _ => none
/-- the value's kind by the field's descriptor: what a store keeps -/
def mm_fit (ty : FieldType) (v : Value) : Bool := match ty, v with
  | .int, .int _ => true
  | .boolean, .int x => Nat.ble (mm_un x) 1
  | .byte, .int x => mm_eq x.toInt8.toInt32 x
  | .object _, .ref _ => true
  | .object _, .null => true
  | .array _, .ref _ => true
  | .array _, .null => true
  | _, _ => false
def mm_dflt (ty : FieldType) : Value := match ty with
  | .object _ => .null
  | .array _ => .null
  | .long => .long 0
  | .float => .float 0
  | .double => .double 0
  | _ => .int 0
/-- what there is apart from the heap: externals' cells, the script, statics, the classes' field types, the methods' class -/
abbrev mm_X : Type := (Nat → Option mm_C) × (Nat × (Nat → Option Int32)) × (Nat → Option Value) × (Nat → List FieldType)
def mm_recv (X : mm_X) (h : mm_H) (v : Option Value) (ci : Nat) : Bool := match v with
  | some (.ref a) => match mm_obj (mm_rd X.1 h a) ci with
    | some _ => true
    | none => false
  | _ => false
def mm_recv0 (v : Option Value) : Bool := match v with
  | some (.ref a) => Nat.ble 64 a
  | _ => false
def mm_call (X : mm_X) (h : mm_H) (nx : Nat) (L : mm_L) (st : List Value) (ax : List Nat) : Option mm_A := match ax with
  | kd :: j :: n :: r => match Nat.ble n st.length && Nat.ble st.length (n + 4) with
    | false => none
    | true => match kd, r with
      | 9, _ => none
      | 0, ci :: _ => match mm_recv X h (st[n - 1]?) ci with
        | true => some (.inr (.inl (j, (st.take n).reverse, st.drop n)))
        | false => none
      | 5, ci :: _ => match mm_recv X h (st[n - 1]?) ci with
        | true => some (.inr (.inl (j, (st.take n).reverse, st.drop n)))
        | false => none
      | 3, ci :: _ => match mm_recv X h (st[n - 1]?) ci with
        | true => some (.inr (.inl (j, (st.take n).reverse, st.drop n)))
        | false => none
      | 4, ci :: _ => match mm_recv X h (st[n - 1]?) ci with
        | true => some (.inr (.inl (j, (st.take n).reverse, st.drop n)))
        | false => none
      | 2, _ => match mm_recv0 (st[n - 1]?) with
        | true => some (.inr (.inl (j, (st.take n).reverse, st.drop n)))
        | false => none
      | 7, _ => match mm_recv0 (st[n - 1]?) with
        | true => some (.inr (.inl (j, (st.take n).reverse, st.drop n)))
        | false => none
      | 1, _ => some (.inr (.inl (j, (st.take n).reverse, st.drop n)))
      | 6, _ => some (.inr (.inl (j, (st.take n).reverse, st.drop n)))
      | 8, _ => some (.inr (.inl (j, (st.take n).reverse, st.drop n)))
      | _, _ => none
  | _ => none
def mm_copy (X : mm_X) (h : mm_H) (nx : Nat) (L : mm_L) (st : List Value) : Option mm_A := match st with
  | .int n :: .int dp :: .ref a :: .int sp :: .ref a0 :: r => match mm_prim (mm_rd X.1 h a0) 0, mm_prim (mm_rd X.1 h a) 0 with
    | some (n0, N0), some (n1, N1) => match Nat.ble r.length 4 && (Nat.ble (mm_un n) 2147483647 && (Nat.ble (mm_un dp) 2147483647 && (Nat.ble (mm_un sp) 2147483647 && (Nat.ble 64 a0 && (Nat.ble (mm_un sp + mm_un n) n0 && Nat.ble (mm_un dp + mm_un n) n1))))) with
      | true => mm_fN (mm_cpy 32 N0 (mm_un sp) N1 (mm_un dp) (mm_un n)) fun M => mm_wr nx L r a (.inl (0, n1, M))
      | false => none
    | _, _ => none
  | _ => none
/-- Math.max (true), Math.min (false) of ints -/
def mm_math (nx : Nat) (L : mm_L) (st : List Value) (mx : Bool) : Option mm_A := match st with
  | .int y :: .int x :: r => match Nat.ble r.length 4 with
    | true => match mx with
      | true => mm_fI (match mm_lt x y with
        | true => y
        | false => x) fun z => mm_go nx L (.int z :: r)
      | false => mm_fI (match mm_lt y x with
        | true => y
        | false => x) fun z => mm_go nx L (.int z :: r)
    | false => none
  | _ => none
/-- the step of one instruction -/
def mm_stp (X : mm_X) (h : mm_H) (L : mm_L) (st : List Value) (mi : mm_I) : Option mm_A := match mi with
  | (pc, i, nx, ax) => match i with
    | .aload k => mm_ld nx L st k mm_isA
    | .aload_n k => mm_ld nx L st k.val mm_isA
    | .iload k => mm_ld nx L st k mm_isI
    | .iload_n k => mm_ld nx L st k.val mm_isI
    | .lload k => mm_ld nx L st k mm_isL
    | .lload_n k => mm_ld nx L st k.val mm_isL
    | .dload k => mm_ld nx L st k mm_isD
    | .dload_n k => mm_ld nx L st k.val mm_isD
    | .istore k => mm_s1 nx L st k mm_isI
    | .istore_n k => mm_s1 nx L st k.val mm_isI
    | .astore k => mm_s1 nx L st k mm_isA
    | .astore_n k => mm_s1 nx L st k.val mm_isA
    | .lstore k => mm_s2 nx L st k mm_isL
    | .dstore k => mm_s2 nx L st k mm_isD
    | .iconst n => mm_fI (Int32.ofInt n) fun z => mm_go nx L (.int z :: st)
    | .bipush n => mm_fI (Int8.ofInt n).toInt32 fun z => mm_go nx L (.int z :: st)
    | .sipush n => mm_fI (Int16.ofInt n).toInt32 fun z => mm_go nx L (.int z :: st)
    | .lconst n => mm_go nx L (.long (Int64.ofNat n.val) :: st)
    | .aconst_null => mm_go nx L (.null :: st)
    | .ldc _ => match ax with
      | 0 :: c :: _ => mm_go nx L (.int (Int32.ofNat c) :: st)
      | 1 :: c :: _ => mm_go nx L (.ref c :: st)
      | _ => none
    | .ldc_w _ => match ax with
      | 0 :: c :: _ => mm_go nx L (.int (Int32.ofNat c) :: st)
      | 1 :: c :: _ => mm_go nx L (.ref c :: st)
      | _ => none
    | .ldc2_w _ => match ax with
      | c :: _ => mm_go nx L (.long (Int64.ofNat c) :: st)
      | _ => none
    | .iadd => mm_i2 nx L st (fun x y => x + y)
    | .isub => mm_i2 nx L st (fun x y => x - y)
    | .imul => mm_i2 nx L st (fun x y => x * y)
    | .iand => mm_i2 nx L st (fun x y => x &&& y)
    | .ior => mm_i2 nx L st (fun x y => x ||| y)
    | .ixor => mm_i2 nx L st (fun x y => x ^^^ y)
    | .ishl => mm_i2 nx L st (fun x y => x <<< (y &&& 31))
    | .ishr => mm_i2 nx L st (fun x y => x >>> (y &&& 31))
    | .iushr => mm_i2 nx L st (fun x y => (x.toUInt32 >>> (y.toUInt32 &&& Int32.toUInt32 31)).toInt32)
    | .idiv => match st with
      | .int y :: _ => match mm_eq y 0 with
        | true => none
        | false => mm_i2 nx L st (fun x y => x / y)
      | _ => none
    | .irem => match st with
      | .int y :: _ => match mm_eq y 0 with
        | true => none
        | false => mm_i2 nx L st (fun x y => x - x / y * y)
      | _ => none
    | .ineg => mm_i1 nx L st (fun x => -x)
    | .i2b => mm_i1 nx L st (fun x => x.toInt8.toInt32)
    | .i2c => mm_i1 nx L st (fun x => (x.toUInt32 % 65536).toInt32)
    | .i2l => match st with
      | .int x :: r => mm_fL x.toInt64 fun z => mm_go nx L (.long z :: r)
      | _ => none
    | .lcmp => match st with
      | .long y :: .long x :: r => mm_fI (mm_lcmp x y) fun z => mm_go nx L (.int z :: r)
      | _ => none
    | .i2f => match st with
      | .int x :: r => mm_go nx L (.float (FP.i2f x) :: r)
      | _ => none
    | .i2d => match st with
      | .int x :: r => mm_go nx L (.double (FP.i2d x) :: r)
      | _ => none
    | .fconst 0 => mm_go nx L (.float FP.fconst0 :: st)
    | .dconst 0 => mm_go nx L (.double FP.dconst0 :: st)
    | .fdiv => match st with
      | .float y :: .float x :: r => if FP.fdiv x y &&& 0x7fffffff ≤ 0x7f800000 then mm_go nx L (.float (FP.fdiv x y) :: r) else none
      | _ => none
    | .ddiv => match st with
      | .double y :: .double x :: r => if FP.ddiv x y &&& 0x7fffffffffffffff ≤ 0x7ff0000000000000 then mm_go nx L (.double (FP.ddiv x y) :: r) else none
      | _ => none
    | .f2d => match st with
      | .float x :: r => if FP.f2d x &&& 0x7fffffffffffffff ≤ 0x7ff0000000000000 then mm_go nx L (.double (FP.f2d x) :: r) else none
      | _ => none
    | .dcmp op => match st with
      | .double y :: .double x :: r => mm_go nx L (.int (Op.cmpValue (FP.dcmp x y) op) :: r)
      | _ => none
    | .dup => match st with
      | v :: r => if mm_cat2 v = true then none else mm_go nx L (v :: v :: r)
      | _ => none
    | .pop => match st with
      | v :: r => if mm_cat2 v = true then none else mm_go nx L r
      | _ => none
    | .dup_x1 => match st with
      | v :: w :: r => if mm_cat2 v = true ∨ mm_cat2 w = true then none else mm_go nx L (v :: w :: v :: r)
      | _ => none
    | .dup2 => match st with
      | v :: w :: r => if mm_cat2 v = true ∨ mm_cat2 w = true then none else mm_go nx L (v :: w :: v :: w :: r)
      | _ => none
    | .iinc k n => match mm_get L k with
      | some (.int x) => mm_fI (x + Int32.ofInt n) fun z => match mm_set1 L k (.int z) with
        | some L' => mm_go nx L' st
        | none => none
      | _ => none
    | .ifCond c _ => match st with
      | .int x :: r => mm_br nx L ax r (mm_cnd c x 0)
      | _ => none
    | .if_icmp c _ => match st with
      | .int y :: .int x :: r => mm_br nx L ax r (mm_cnd c x y)
      | _ => none
    | .goto _ => match ax with
      | [t] => mm_go t L st
      | _ => none
    | .ifnull _ => match st with
      | .null :: r => mm_br nx L ax r true
      | .ref a :: r => match Nat.beq a 63 with
        | true => none
        | false => mm_br nx L ax r false
      | _ => none
    | .ifnonnull _ => match st with
      | .ref a :: r => match Nat.beq a 63 with
        | true => none
        | false => mm_br nx L ax r true
      | _ => none
    | .tableswitch _ lo _ offs => match st, ax with
      | .int x :: r, d :: ts => match lo with
        | .ofNat l0 => match Nat.ble (mm_un x) 2147483647 && (Nat.ble l0 (mm_un x) && Nat.ble (mm_un x - l0 + 1) ts.length) with
          | true => match ts[mm_un x - l0]? with
            | some t => mm_go t L r
            | none => none
          | false => mm_go d L r
        | .negSucc _ => none
      | _, _ => none
    | .iaload => match st with
      | .int i :: .ref a :: r => match Nat.beq a 0 with
        | true => match mm_in i X.2.1.1 with
          | true => match X.2.1.2 (mm_un i) with
            | some x => mm_go nx L (.int x :: r)
            | none => none
          | false => none
        | false => match mm_prim (mm_rd X.1 h a) 0 with
          | some (n, N) => match mm_in i n with
            | true => mm_fI (Int32.ofNat (mm_ag 32 N (mm_un i))) fun z => mm_go nx L (.int z :: r)
            | false => none
          | none => none
      | _ => none
    | .baload => match st with
      | .int i :: .ref a :: r => match mm_prim (mm_rd X.1 h a) 2 with
        | some (n, N) => match mm_in i n with
          | true => mm_fI (Int32.ofNat (mm_ag 32 N (mm_un i))) fun z => mm_go nx L (.int z :: r)
          | false => none
        | none => none
      | _ => none
    | .laload => match st with
      | .int i :: .ref a :: r => match mm_prim (mm_rd X.1 h a) 1 with
        | some (n, N) => match mm_in i n && Nat.ble 64 a with
          | true => mm_fL (Int64.ofNat (mm_ag 64 N (mm_un i))) fun z => mm_go nx L (.long z :: r)
          | false => none
        | none => none
      | _ => none
    | .aaload => match st with
      | .int i :: .ref a :: r => match Nat.ble 64 a with
        | true => match mm_rd X.1 h a with
          | some (.inr (.inl (t, rs))) => match mm_in i rs.length && (Nat.ble 3 t && Nat.ble t 4) with
            | true => match rs[mm_un i]? with
              | some (some q) => mm_go nx L (.ref q :: r)
              | some none => mm_go nx L (.null :: r)
              | none => none
            | false => none
          | _ => none
        | false => none
      | _ => none
    | .arraylength => match st with
      | .ref a :: r => match Nat.beq a 0 with
        | true => mm_go nx L (.int (Int32.ofNat X.2.1.1) :: r)
        | false => match mm_rd X.1 h a with
          | some (.inl (t, n, _)) => match Nat.ble t 4 with
            | true => mm_go nx L (.int (Int32.ofNat n) :: r)
            | false => none
          | some (.inr (.inl (t, rs))) => match Nat.ble t 4 && Nat.ble 64 a with
            | true => mm_go nx L (.int (Int32.ofNat rs.length) :: r)
            | false => none
          | _ => none
      | _ => none
    | .iastore => match st with
      | .int x :: .int i :: .ref a :: r => match mm_prim (mm_rd X.1 h a) 0 with
        | some (n, N) => match mm_in i n with
          | true => mm_fN (mm_as 32 N (mm_un i) (mm_un x)) fun M => mm_wr nx L r a (.inl (0, n, M))
          | false => none
        | none => none
      | _ => none
    | .bastore => match st with
      | .int x :: .int i :: .ref a :: r => match mm_prim (mm_rd X.1 h a) 2 with
        | some (n, N) => match mm_in i n with
          | true => mm_fN (mm_as 32 N (mm_un i) (mm_un x.toInt8.toInt32)) fun M => mm_wr nx L r a (.inl (2, n, M))
          | false => none
        | none => none
      | _ => none
    | .lastore => match st with
      | .long x :: .int i :: .ref a :: r => match mm_prim (mm_rd X.1 h a) 1 with
        | some (n, N) => match mm_in i n with
          | true => mm_fN (mm_as 64 N (mm_un i) x.toUInt64.toNat) fun M => mm_wr nx L r a (.inl (1, n, M))
          | false => none
        | none => none
      | _ => none
    | .aastore => match st with
      | .ref v :: .int i :: .ref a :: r => match mm_rd X.1 h a with
        | some (.inr (.inl (t, rs))) => match mm_in i rs.length && (Nat.ble 64 a && (Nat.ble 64 v && ((Nat.beq t 3 && mm_recv X h (some (.ref v)) 12) || (Nat.beq t 4 && mm_recv X h (some (.ref v)) 8)))) with
          | true => mm_wr nx L r a (.inr (.inl (t, rs.set (mm_un i) (some v))))
          | false => none
        | _ => none
      | _ => none
    | .getfield _ => match st, ax with
      | .ref a :: r, _ :: ci :: k :: _ => match mm_obj (mm_rd X.1 h a) ci with
        | some fs => match fs[k]? with
          | some v => mm_go nx L (v :: r)
          | none => none
        | none => none
      | _, _ => none
    | .putfield _ => match st, ax with
      | v :: .ref a :: r, _ :: ci :: k :: _ => match mm_obj (mm_rd X.1 h a) ci with
        | some fs => match fs[k]? with
          | some _ => match (X.2.2.2 ci)[k]? with
            | some ty => match mm_fit ty v with
              | true => mm_wr nx L r a (.inr (.inr (ci, fs.set k v)))
              | false => none
            | none => none
          | none => none
        | none => none
      | _, _ => none
    | .getstatic _ => match ax with
      | _ :: k :: _ => match X.2.2.1 k with
        | some v => mm_go nx L (v :: st)
        | none => none
      | _ => none
    | .new _ => match ax with
      | 0 :: ci :: _ => some (.inl (nx, L, .ref (64 + h.length) :: st, some (.inr (.inr (.inr (ci, (X.2.2.2 ci).map mm_dflt))))))
      | 1 :: ci :: _ => match Nat.ble st.length 4 with
        | true => some (.inr (.inr (.inr ci)))
        | false => none
      | _ => none
    | .newarray _ => match st, ax with
      | .int n :: r, [t] => match Nat.ble (mm_un n) 1000000 with
        | true => some (.inl (nx, L, .ref (64 + h.length) :: r, some (.inr (.inl (t, mm_un n, 0)))))
        | false => none
      | _, _ => none
    | .anewarray _ => match st, ax with
      | .int n :: r, t :: _ => match Nat.ble (mm_un n) 1000000 with
        | true => some (.inl (nx, L, .ref (64 + h.length) :: r, some (.inr (.inr (.inl (t, List.replicate (mm_un n) none))))))
        | false => none
      | _, _ => none
    | .invokevirtual _ => mm_call X h nx L st ax
    | .invokestatic _ => match ax with
      | 10 :: _ => mm_copy X h nx L st
      | 11 :: _ => mm_math nx L st true
      | 12 :: _ => mm_math nx L st false
      | _ => mm_call X h nx L st ax
    | .invokespecial _ => match ax with
      | 9 :: _ => match st with
        | .ref a :: r => match Nat.ble 64 a && Nat.ble r.length 4 with
          | true => mm_go nx L r
          | false => none
        | _ => none
      | _ => mm_call X h nx L st ax
    | .ireturn => some (.inr (.inr (.inl ())))
    | .areturn => some (.inr (.inr (.inl ())))
    | .freturn => some (.inr (.inr (.inl ())))
    | .dreturn => some (.inr (.inr (.inl ())))
    | .return_ => some (.inr (.inr (.inl ())))
    | _ => none
def mm_lk (c : List mm_I) (pc : Nat) : Option mm_I := match c with
  | [] => none
  | mi :: r => match Nat.beq mi.1 pc with
    | true => some mi
    | false => mm_lk r pc
/-- the handler of a method that catches: the range, and where it ends with 1 -/
abbrev mm_M : Type := List mm_I × Nat × Nat × List (Nat × Nat × Nat × Nat × Nat)
/-- code, length of the locals, kind of answer (0 none, 1 int, 2 boolean, 3 char, 4 byte, 5 reference, 6 float, 7 double), handlers: from, to, the place of the handler's ireturn, the local that it sets -/
def mm_entry (n : Nat) (as : List Value) : mm_L := match as with
  | [] => List.replicate n none
  | v :: r => if mm_cat2 v = true then some v :: none :: mm_entry (n - 2) r else some v :: mm_entry (n - 1) r
/-- a throw at pc of the class ci: out, caught (on at the handler's end, with 1), or not decided -/
def mm_hd (hs : List (Nat × Nat × Nat × Nat × Nat)) (pc ci : Nat) : Option (Option (Nat × Nat)) := match hs with
  | [] => some none
  | [(a, b, t, k, cx)] => match Nat.ble a pc && (Nat.ble (pc + 1) b && Nat.beq ci cx) with
    | true => some (some (t, k))
    | false => none
  | _ => none
def mm_exe (X : mm_X) (P : Nat → Option mm_M) (callee : Nat → List Value → mm_H → Option (mm_V × mm_H)) (M : mm_M) : Nat → Nat → mm_L → List Value → mm_H → Option (mm_R × mm_H)
  | 0, _, _, _, _ => none
  | n + 1, pc, L, st, h => match mm_lk M.1 pc with
    | none => none
    | some mi => match mm_stp X h L st mi with
      | none => none
      | some (.inl (pc', L', st', none)) => mm_exe X P callee M n pc' L' st' h
      | some (.inl (pc', L', st', some (.inl (k, c)))) => match h[k]? with
        | some c0 => match Nat.beq (mm_sl c0) (mm_sl c) with
          | true => mm_exe X P callee M n pc' L' st' (h.set k c)
          | false => none
        | none => none
      | some (.inl (pc', L', st', some (.inr c))) => mm_exe X P callee M n pc' L' st' (h ++ [c])
      | some (.inr (.inl (j, as, r))) => match callee j as h with
        | none => none
        | some (.inl none, h') => mm_exe X P callee M n mi.2.2.1 L r h'
        | some (.inl (some v), h') => mm_exe X P callee M n mi.2.2.1 L (v :: r) h'
        | some (.inr ci, h') => match mm_hd M.2.2.2 pc ci with
          | some (some (t, k)) => some (.inl (t, (mm_kill L k).set k none, [.int 1]), h')
          | some none => some (.inr ci, h')
          | none => none
      | some (.inr (.inr (.inl _))) => some (.inl (pc, L, st), h)
      | some (.inr (.inr (.inr ci))) => match M.2.2.2 with
        | [] => some (.inr ci, h ++ [.inr (.inr (ci, []))])
        | _ => none
def mm_okR (t : Nat) (v : Value) : Bool := match t, v with
  | 1, .int _ => true
  | 2, .int x => Nat.ble (mm_un x) 1
  | 3, .int x => Nat.ble (mm_un x) 65535
  | 4, .int x => mm_eq x.toInt8.toInt32 x
  | 5, .ref _ => true
  | 5, .null => true
  | 6, .float _ => true
  | 7, .double _ => true
  | _, _ => false
def mm_ans (t : Nat) (st : List Value) : Option mm_V := match t with
  | 0 => match st with
    | [] => some (.inl none)
    | _ => none
  | _ => match st with
    | [v] => match mm_okR t v with
      | true => some (.inl (some v))
      | false => none
    | _ => none
def mm_cats (as : List Value) : Nat := match as with
  | [] => 0
  | v :: r => (match mm_cat2 v with
    | true => 2
    | false => 1) + mm_cats r
def mm_run (X : mm_X) (P : Nat → Option mm_M) (fuel : Nat) : Nat → Nat → List Value → mm_H → Option (mm_V × mm_H)
  | 0, _, _, _ => none
  | d + 1, j, as, h => match P j with
    | none => none
    | some M => match Nat.ble (mm_cats as) M.2.1 with
      | false => none
      | true => match mm_exe X P (mm_run X P fuel d) M fuel 0 (mm_entry M.2.1 as) [] h with
        | some (.inl (_, _, st), h') => match mm_ans M.2.2.1 st with
          | some v => some (v, h')
          | none => none
        | some (.inr ci, h') => some (.inr ci, h')
        | none => none
end
section
/-! ===== the program: classes, methods, decoded code (by program, out of what TURN printed) ===== -/
def mm_fty : Nat → List FieldType := fun c => match c with
  | 0 => [.array (.byte), .byte]
  | 1 => [.array (.byte), .byte, .boolean, .int]
  | 2 => [.object "WhoKnows$Source", .object "WhoKnows$FormulaReader", .object "WhoKnows$Formula", .object "WhoKnows$Knowledge"]
  | 3 => [.array (.int), .array (.int), .array (.int), .int]
  | 4 => [.object "WhoKnows$Source", .array (.int), .array (.int), .int, .int, .int]
  | 5 => [.array (.int), .int, .int]
  | 6 => [.array (.int), .array (.int), .array (.int), .array (.int), .int]
  | 7 => [.array (.int), .int]
  | 8 => [.object "WhoKnows$Formula", .int, .int, .int, .int]
  | 9 => [.object "WhoKnows$Source", .object "WhoKnows$FormulaReader", .array (.object "WhoKnows$Order"), .int]
  | 10 => [.object "WhoKnows$Names", .object "WhoKnows$Names", .array (.int), .int, .int, .int]
  | 11 => [.array (.int), .array (.int), .array (.int), .array (.int), .int, .int, .int, .int, .int, .int, .int, .int]
  | 12 => [.object "WhoKnows$Knowledge", .object "WhoKnows$Formula", .object "WhoKnows$Log", .object "WhoKnows$Scene"]
  | 13 => [.object "WhoKnows$Source", .object "WhoKnows$FormulaReader", .object "WhoKnows$DescriptionReader", .object "WhoKnows$OrderReader", .object "WhoKnows$Formula", .object "WhoKnows$Knowledge", .array (.int), .object "java/lang/StringBuilder", .object "WhoKnows$State", .object "WhoKnows$State", .array (.object "WhoKnows$State"), .boolean, .int, .int]
  | 14 => [.array (.int), .array (.int), .array (.int), .array (.int), .array (.int), .int, .int, .boolean, .array (.int), .array (.int), .int, .int, .int, .int, .int, .int, .int, .int, .array (.int), .int, .int, .int, .boolean, .array (.int), .int, .array (.int), .int]
  | _ => []
/-- WhoKnows$DescriptionReader.<init>(LWhoKnows$Source;LWhoKnows$FormulaReader;LWhoKnows$Formula;LWhoKnows$Knowledge;)V -/
def mm_c0 : List mm_I := [(0, .aload_n 0, 1, []), (1, .invokespecial 3, 4, [9, 295]), (4, .aload_n 0, 5, []), (5, .aload_n 1, 6, []), (6, .putfield 9, 9, [0, 2, 0, 296]), (9, .aload_n 0, 10, []), (10, .aload_n 2, 11, []), (11, .putfield 15, 14, [0, 2, 1, 297]), (14, .aload_n 0, 15, []), (15, .aload_n 3, 16, []), (16, .putfield 19, 19, [0, 2, 2, 298]), (19, .aload_n 0, 20, []), (20, .aload 4, 22, []), (22, .putfield 23, 25, [0, 2, 3, 299]), (25, .return_, 26, [])]
/-- WhoKnows$DescriptionReader.read()LWhoKnows$Scene; -/
def mm_c1 : List mm_I := [(0, .new 27, 3, [0, 10, 455, 456, 147]), (3, .dup, 4, []), (4, .invokespecial 29, 7, [7, 61, 1, 457, 458, 147, 0]), (7, .astore_n 1, 8, []), (8, .aload_n 0, 9, []), (9, .getfield 9, 12, [0, 2, 0, 296]), (12, .invokevirtual 30, 15, [0, 65, 1, 11, 520, 521, 522, 133]), (15, .aload_n 0, 16, []), (16, .aload_n 1, 17, []), (17, .invokevirtual 35, 20, [0, 3, 2, 2, 570, 572, 13, 137]), (20, .iconst 0, 21, []), (21, .istore_n 2, 22, []), (22, .iload_n 2, 23, []), (23, .sipush 600, 26, []), (26, .if_icmp .gt 130, 29, [156]), (29, .aload_n 0, 30, []), (30, .aload_n 1, 31, []), (31, .invokevirtual 39, 34, [0, 2, 2, 2, 616, 618, 14, 137]), (34, .ifCond .ne 122, 37, [156]), (37, .aload_n 0, 38, []), (38, .getfield 9, 41, [0, 2, 0, 296]), (41, .bipush 59, 43, []), (43, .invokevirtual 43, 46, [0, 80, 2, 11, 620, 621, 622, 133]), (46, .ifCond .ne 5, 49, [51]), (49, .aload_n 1, 50, []), (50, .areturn, 51, []), (51, .aload_n 1, 52, []), (52, .getfield 47, 55, [1, 10, 1, 489, 0]), (55, .getfield 51, 58, [1, 7, 1, 473, 0]), (58, .ifCond .le 7, 61, [65]), (61, .iconst 1, 62, []), (62, .goto 4, 65, [66]), (65, .iconst 0, 66, []), (66, .istore_n 3, 67, []), (67, .iload_n 3, 68, []), (68, .ifCond .ne 23, 71, [91]), (71, .aload_n 0, 72, []), (72, .getfield 9, 75, [0, 2, 0, 296]), (75, .ldc 57, 77, [1, 24, 624]), (77, .invokevirtual 58, 80, [0, 77, 2, 11, 625, 580, 581, 133]), (80, .ifCond .eq 11, 83, [91]), (83, .aload_n 0, 84, []), (84, .aload_n 1, 85, []), (85, .invokevirtual 62, 88, [0, 4, 2, 2, 626, 628, 15, 137]), (88, .goto 62, 91, [150]), (91, .aload_n 0, 92, []), (92, .getfield 9, 95, [0, 2, 0, 296]), (95, .ldc 65, 97, [1, 26, 736]), (97, .invokevirtual 58, 100, [0, 77, 2, 11, 625, 580, 581, 133]), (100, .ifCond .eq 11, 103, [111]), (103, .aload_n 0, 104, []), (104, .aload_n 1, 105, []), (105, .invokevirtual 67, 108, [0, 5, 2, 2, 737, 739, 24, 137]), (108, .goto 42, 111, [150]), (111, .iload_n 3, 112, []), (112, .ifCond .eq 23, 115, [135]), (115, .aload_n 0, 116, []), (116, .getfield 9, 119, [0, 2, 0, 296]), (119, .ldc 70, 121, [1, 28, 750]), (121, .invokevirtual 58, 124, [0, 77, 2, 11, 625, 580, 581, 133]), (124, .ifCond .eq 11, 127, [135]), (127, .aload_n 0, 128, []), (128, .aload_n 1, 129, []), (129, .invokevirtual 72, 132, [0, 6, 2, 2, 751, 753, 25, 137]), (132, .goto 18, 135, [150]), (135, .aload_n 0, 136, []), (136, .getfield 9, 139, [0, 2, 0, 296]), (139, .iconst 1, 140, []), (140, .aload_n 0, 141, []), (141, .getfield 9, 144, [0, 2, 0, 296]), (144, .getfield 75, 147, [1, 11, 8, 190, 0]), (147, .invokevirtual 78, 150, [0, 75, 3, 11, 630, 584, 585, 133]), (150, .iinc 2 1, 153, []), (153, .goto (-131), 156, [22]), (156, .aload_n 1, 157, []), (157, .getfield 82, 160, [1, 10, 5, 504, 0]), (160, .iconst (-1), 161, []), (161, .if_icmp .ne 14, 164, [175]), (164, .aload_n 1, 165, []), (165, .aload_n 1, 166, []), (166, .getfield 84, 169, [1, 10, 4, 501, 0]), (169, .invokestatic 87, 172, [6, 162, 1, 760, 761, 132, 0]), (172, .putfield 82, 175, [1, 10, 5, 504, 0]), (175, .aload_n 1, 176, []), (176, .areturn, 177, [])]
/-- WhoKnows$DescriptionReader.isAtEnd(LWhoKnows$Scene;)Z -/
def mm_c2 : List mm_I := [(0, .aload_n 0, 1, []), (1, .getfield 9, 4, [0, 2, 0, 296]), (4, .invokevirtual 91, 7, [0, 76, 1, 11, 609, 610, 611, 133]), (7, .ifCond .ne 26, 10, [33]), (10, .aload_n 0, 11, []), (11, .getfield 9, 14, [0, 2, 0, 296]), (14, .getfield 95, 17, [1, 11, 7, 187, 0]), (17, .sipush 267, 20, []), (20, .if_icmp .ne 17, 23, [37]), (23, .aload_n 1, 24, []), (24, .getfield 47, 27, [1, 10, 1, 489, 0]), (27, .getfield 51, 30, [1, 7, 1, 473, 0]), (30, .ifCond .le 7, 33, [37]), (33, .iconst 1, 34, []), (34, .goto 4, 37, [38]), (37, .iconst 0, 38, []), (38, .ireturn, 39, [])]
/-- WhoKnows$DescriptionReader.readFacts(LWhoKnows$Scene;)V -/
def mm_c3 : List mm_I := [(0, .aload_n 0, 1, []), (1, .getfield 9, 4, [0, 2, 0, 296]), (4, .ldc 98, 6, [1, 22, 574]), (6, .invokevirtual 100, 9, [0, 79, 2, 11, 575, 576, 577, 133]), (9, .aload_n 0, 10, []), (10, .getfield 9, 13, [0, 2, 0, 296]), (13, .aload_n 1, 14, []), (14, .getfield 104, 17, [1, 10, 0, 483, 0]), (17, .invokevirtual 106, 20, [0, 82, 2, 11, 587, 588, 589, 133]), (20, .iconst 0, 21, []), (21, .istore_n 2, 22, []), (22, .iload_n 2, 23, []), (23, .iconst 5, 24, []), (24, .if_icmp .gt 40, 27, [64]), (27, .aload_n 0, 28, []), (28, .getfield 9, 31, [0, 2, 0, 296]), (31, .invokevirtual 110, 34, [0, 78, 1, 11, 608, 592, 593, 133]), (34, .ifCond .eq 30, 37, [64]), (37, .aload_n 0, 38, []), (38, .getfield 9, 41, [0, 2, 0, 296]), (41, .invokevirtual 91, 44, [0, 76, 1, 11, 609, 610, 611, 133]), (44, .ifCond .ne 20, 47, [64]), (47, .aload_n 0, 48, []), (48, .getfield 9, 51, [0, 2, 0, 296]), (51, .aload_n 1, 52, []), (52, .getfield 104, 55, [1, 10, 0, 483, 0]), (55, .invokevirtual 106, 58, [0, 82, 2, 11, 587, 588, 589, 133]), (58, .iinc 2 1, 61, []), (61, .goto (-39), 64, [22]), (64, .aload_n 1, 65, []), (65, .iconst 1, 66, []), (66, .aload_n 1, 67, []), (67, .getfield 104, 70, [1, 10, 0, 483, 0]), (70, .getfield 51, 73, [1, 7, 1, 473, 0]), (73, .ishl, 74, []), (74, .invokestatic 113, 77, [6, 161, 1, 613, 614, 132, 0]), (77, .putfield 84, 80, [1, 10, 4, 501, 0]), (80, .return_, 81, [])]
/-- WhoKnows$DescriptionReader.readLaw(LWhoKnows$Scene;)V -/
def mm_c4 : List mm_I := [(0, .aload_n 0, 1, []), (1, .getfield 9, 4, [0, 2, 0, 296]), (4, .getfield 75, 7, [1, 11, 8, 190, 0]), (7, .istore_n 2, 8, []), (8, .aload_n 1, 9, []), (9, .getfield 116, 12, [1, 10, 3, 498, 0]), (12, .bipush 6, 14, []), (14, .if_icmp .lt 19, 17, [33]), (17, .aload_n 0, 18, []), (18, .getfield 9, 21, [0, 2, 0, 296]), (21, .iconst 3, 22, []), (22, .aload_n 0, 23, []), (23, .getfield 9, 26, [0, 2, 0, 296]), (26, .getfield 75, 29, [1, 11, 8, 190, 0]), (29, .invokevirtual 78, 32, [0, 75, 3, 11, 630, 584, 585, 133]), (32, .return_, 33, []), (33, .aload_n 0, 34, []), (34, .getfield 9, 37, [0, 2, 0, 296]), (37, .invokevirtual 119, 40, [0, 74, 1, 11, 631, 564, 565, 133]), (40, .aload_n 0, 41, []), (41, .getfield 15, 44, [0, 2, 1, 297]), (44, .aload_n 1, 45, []), (45, .iconst 1, 46, []), (46, .aload_n 0, 47, []), (47, .getfield 19, 50, [0, 2, 2, 298]), (50, .invokevirtual 122, 53, [0, 17, 4, 4, 632, 633, 634, 136]), (53, .aload_n 0, 54, []), (54, .getfield 9, 57, [0, 2, 0, 296]), (57, .invokevirtual 91, 60, [0, 76, 1, 11, 609, 610, 611, 133]), (60, .ifCond .eq 4, 63, [64]), (63, .return_, 64, []), (64, .aload_n 0, 65, []), (65, .getfield 23, 68, [0, 2, 3, 299]), (68, .aload_n 1, 69, []), (69, .getfield 84, 72, [1, 10, 4, 501, 0]), (72, .putfield 128, 75, [1, 5, 1, 234, 0]), (75, .aload_n 1, 76, []), (76, .aload_n 0, 77, []), (77, .getfield 19, 80, [0, 2, 2, 298]), (80, .aload_n 0, 81, []), (81, .getfield 23, 84, [0, 2, 3, 299]), (84, .invokevirtual 133, 87, [0, 11, 2, 3, 698, 699, 700, 135]), (87, .putfield 84, 90, [1, 10, 4, 501, 0]), (90, .aload_n 1, 91, []), (91, .dup, 92, []), (92, .getfield 116, 95, [1, 10, 3, 498, 0]), (95, .iconst 1, 96, []), (96, .iadd, 97, []), (97, .putfield 116, 100, [1, 10, 3, 498, 0]), (100, .aload_n 1, 101, []), (101, .getfield 84, 104, [1, 10, 4, 501, 0]), (104, .ifCond .ne 12, 107, [116]), (107, .aload_n 0, 108, []), (108, .getfield 9, 111, [0, 2, 0, 296]), (111, .iconst 4, 112, []), (112, .iload_n 2, 113, []), (113, .invokevirtual 78, 116, [0, 75, 3, 11, 630, 584, 585, 133]), (116, .return_, 117, [])]
/-- WhoKnows$DescriptionReader.readPerson(LWhoKnows$Scene;)V -/
def mm_c5 : List mm_I := [(0, .aload_n 1, 1, []), (1, .getfield 47, 4, [1, 10, 1, 489, 0]), (4, .getfield 51, 7, [1, 7, 1, 473, 0]), (7, .istore_n 2, 8, []), (8, .aload_n 1, 9, []), (9, .getfield 47, 12, [1, 10, 1, 489, 0]), (12, .invokevirtual 139, 15, [0, 49, 1, 7, 741, 600, 601, 148]), (15, .ifCond .eq 19, 18, [34]), (18, .aload_n 0, 19, []), (19, .getfield 9, 22, [0, 2, 0, 296]), (22, .iconst 3, 23, []), (23, .aload_n 0, 24, []), (24, .getfield 9, 27, [0, 2, 0, 296]), (27, .getfield 75, 30, [1, 11, 8, 190, 0]), (30, .invokevirtual 78, 33, [0, 75, 3, 11, 630, 584, 585, 133]), (33, .return_, 34, []), (34, .aload_n 0, 35, []), (35, .getfield 9, 38, [0, 2, 0, 296]), (38, .invokevirtual 119, 41, [0, 74, 1, 11, 631, 564, 565, 133]), (41, .aload_n 0, 42, []), (42, .getfield 9, 45, [0, 2, 0, 296]), (45, .aload_n 1, 46, []), (46, .getfield 47, 49, [1, 10, 1, 489, 0]), (49, .invokevirtual 106, 52, [0, 82, 2, 11, 587, 588, 589, 133]), (52, .aload_n 0, 53, []), (53, .getfield 9, 56, [0, 2, 0, 296]), (56, .invokevirtual 91, 59, [0, 76, 1, 11, 609, 610, 611, 133]), (59, .ifCond .ne 22, 62, [81]), (62, .aload_n 1, 63, []), (63, .getfield 142, 66, [1, 10, 2, 496, 0]), (66, .iload_n 2, 67, []), (67, .aload_n 0, 68, []), (68, .getfield 9, 71, [0, 2, 0, 296]), (71, .aload_n 1, 72, []), (72, .getfield 104, 75, [1, 10, 0, 483, 0]), (75, .invokevirtual 146, 78, [0, 85, 2, 11, 742, 743, 744, 133]), (78, .invokestatic 150, 81, [6, 157, 3, 749, 449, 132, 0]), (81, .return_, 82, [])]
/-- WhoKnows$DescriptionReader.readReal(LWhoKnows$Scene;)V -/
def mm_c6 : List mm_I := [(0, .aload_n 0, 1, []), (1, .getfield 9, 4, [0, 2, 0, 296]), (4, .getfield 75, 7, [1, 11, 8, 190, 0]), (7, .istore_n 2, 8, []), (8, .aload_n 0, 9, []), (9, .getfield 9, 12, [0, 2, 0, 296]), (12, .invokevirtual 119, 15, [0, 74, 1, 11, 631, 564, 565, 133]), (15, .aload_n 1, 16, []), (16, .aload_n 0, 17, []), (17, .getfield 9, 20, [0, 2, 0, 296]), (20, .aload_n 1, 21, []), (21, .getfield 104, 24, [1, 10, 0, 483, 0]), (24, .invokevirtual 146, 27, [0, 85, 2, 11, 742, 743, 744, 133]), (27, .putfield 82, 30, [1, 10, 5, 504, 0]), (30, .aload_n 0, 31, []), (31, .getfield 9, 34, [0, 2, 0, 296]), (34, .invokevirtual 91, 37, [0, 76, 1, 11, 609, 610, 611, 133]), (37, .ifCond .ne 26, 40, [63]), (40, .aload_n 1, 41, []), (41, .getfield 84, 44, [1, 10, 4, 501, 0]), (44, .aload_n 1, 45, []), (45, .getfield 82, 48, [1, 10, 5, 504, 0]), (48, .invokestatic 154, 51, [6, 159, 2, 755, 715, 132, 0]), (51, .ifCond .ne 12, 54, [63]), (54, .aload_n 0, 55, []), (55, .getfield 9, 58, [0, 2, 0, 296]), (58, .iconst 4, 59, []), (59, .iload_n 2, 60, []), (60, .invokevirtual 78, 63, [0, 75, 3, 11, 630, 584, 585, 133]), (63, .aload_n 0, 64, []), (64, .getfield 9, 67, [0, 2, 0, 296]), (67, .invokevirtual 158, 70, [0, 81, 1, 11, 756, 757, 758, 133]), (70, .return_, 71, [])]
/-- WhoKnows$Formula.<init>()V -/
def mm_c7 : List mm_I := [(0, .aload_n 0, 1, []), (1, .invokespecial 3, 4, [9, 250]), (4, .aload_n 0, 5, []), (5, .bipush 60, 7, []), (7, .newarray .int, 9, [0]), (9, .putfield 9, 12, [0, 3, 0, 251]), (12, .aload_n 0, 13, []), (13, .bipush 60, 15, []), (15, .newarray .int, 17, [0]), (17, .putfield 15, 20, [0, 3, 1, 252]), (20, .aload_n 0, 21, []), (21, .bipush 60, 23, []), (23, .newarray .int, 25, [0]), (25, .putfield 18, 28, [0, 3, 2, 253]), (28, .return_, 29, [])]
/-- WhoKnows$Formula.clear()V -/
def mm_c8 : List mm_I := [(0, .aload_n 0, 1, []), (1, .iconst 0, 2, []), (2, .putfield 21, 5, [0, 3, 3, 254]), (5, .return_, 6, [])]
/-- WhoKnows$Formula.add(II)V -/
def mm_c9 : List mm_I := [(0, .aload_n 0, 1, []), (1, .getfield 9, 4, [0, 3, 0, 251]), (4, .aload_n 0, 5, []), (5, .getfield 21, 8, [0, 3, 3, 254]), (8, .iload_n 1, 9, []), (9, .invokestatic 25, 12, [6, 157, 3, 679, 449, 132, 0]), (12, .aload_n 0, 13, []), (13, .getfield 15, 16, [0, 3, 1, 252]), (16, .aload_n 0, 17, []), (17, .getfield 21, 20, [0, 3, 3, 254]), (20, .iload_n 2, 21, []), (21, .invokestatic 25, 24, [6, 157, 3, 679, 449, 132, 0]), (24, .aload_n 0, 25, []), (25, .aload_n 0, 26, []), (26, .getfield 21, 29, [0, 3, 3, 254]), (29, .iconst 1, 30, []), (30, .iadd, 31, []), (31, .bipush 60, 33, []), (33, .invokestatic 29, 36, [12, 680]), (36, .putfield 21, 39, [0, 3, 3, 254]), (39, .return_, 40, [])]
/-- WhoKnows$Formula.copyFrom(LWhoKnows$Formula;)V -/
def mm_c10 : List mm_I := [(0, .aload_n 1, 1, []), (1, .getfield 9, 4, [0, 3, 0, 251]), (4, .aload_n 0, 5, []), (5, .getfield 9, 8, [0, 3, 0, 251]), (8, .invokestatic 35, 11, [6, 158, 2, 1029, 1019, 132, 0]), (11, .aload_n 1, 12, []), (12, .getfield 15, 15, [0, 3, 1, 252]), (15, .aload_n 0, 16, []), (16, .getfield 15, 19, [0, 3, 1, 252]), (19, .invokestatic 35, 22, [6, 158, 2, 1029, 1019, 132, 0]), (22, .aload_n 0, 23, []), (23, .aload_n 1, 24, []), (24, .getfield 21, 27, [0, 3, 3, 254]), (27, .putfield 21, 30, [0, 3, 3, 254]), (30, .return_, 31, [])]
/-- WhoKnows$Formula.truthIn(LWhoKnows$Knowledge;)I -/
def mm_c11 : List mm_I := [(0, .iconst (-1), 1, []), (1, .istore_n 2, 2, []), (2, .iconst 0, 3, []), (3, .istore_n 3, 4, []), (4, .iload_n 3, 5, []), (5, .aload_n 0, 6, []), (6, .getfield 21, 9, [0, 3, 3, 254]), (9, .if_icmp .ge 151, 12, [160]), (12, .aload_n 0, 13, []), (13, .getfield 9, 16, [0, 3, 0, 251]), (16, .iload_n 3, 17, []), (17, .invokestatic 39, 20, [6, 156, 2, 702, 568, 132, 0]), (20, .istore 4, 22, []), (22, .iload 4, 24, []), (24, .ifCond .ne 36, 27, [60]), (27, .iinc 2 1, 30, []), (30, .aload_n 0, 31, []), (31, .getfield 18, 34, [0, 3, 2, 253]), (34, .iload_n 2, 35, []), (35, .aload_n 1, 36, []), (36, .getfield 43, 39, [1, 5, 1, 233, 0]), (39, .getstatic 48, 42, [1, 4, 703, 0]), (42, .aload_n 0, 43, []), (43, .getfield 15, 46, [0, 3, 1, 252]), (46, .iload_n 3, 47, []), (47, .invokestatic 39, 50, [6, 156, 2, 702, 568, 132, 0]), (50, .invokestatic 39, 53, [6, 156, 2, 702, 568, 132, 0]), (53, .iand, 54, []), (54, .invokestatic 25, 57, [6, 157, 3, 679, 449, 132, 0]), (57, .goto 97, 60, [154]), (60, .iload 4, 62, []), (62, .invokestatic 51, 65, [6, 165, 1, 705, 682, 132, 0]), (65, .ifCond .eq 59, 68, [124]), (68, .iinc 2 (-1), 71, []), (71, .aload_n 0, 72, []), (72, .getfield 18, 75, [0, 3, 2, 253]), (75, .iload_n 2, 76, []), (76, .invokestatic 39, 79, [6, 156, 2, 702, 568, 132, 0]), (79, .istore 5, 81, []), (81, .aload_n 0, 82, []), (82, .getfield 18, 85, [0, 3, 2, 253]), (85, .iload_n 2, 86, []), (86, .iconst 1, 87, []), (87, .iadd, 88, []), (88, .invokestatic 39, 91, [6, 156, 2, 702, 568, 132, 0]), (91, .istore 6, 93, []), (93, .aload_n 0, 94, []), (94, .getfield 18, 97, [0, 3, 2, 253]), (97, .iload_n 2, 98, []), (98, .iload 4, 100, []), (100, .bipush 6, 102, []), (102, .if_icmp .ne 11, 105, [113]), (105, .iload 5, 107, []), (107, .iload 6, 109, []), (109, .iand, 110, []), (110, .goto 8, 113, [118]), (113, .iload 5, 115, []), (115, .iload 6, 117, []), (117, .ior, 118, []), (118, .invokestatic 25, 121, [6, 157, 3, 679, 449, 132, 0]), (121, .goto 33, 124, [154]), (124, .aload_n 0, 125, []), (125, .getfield 18, 128, [0, 3, 2, 253]), (128, .iload_n 2, 129, []), (129, .aload_n 1, 130, []), (130, .iload 4, 132, []), (132, .aload_n 0, 133, []), (133, .getfield 15, 136, [0, 3, 1, 252]), (136, .iload_n 3, 137, []), (137, .invokestatic 39, 140, [6, 156, 2, 702, 568, 132, 0]), (140, .aload_n 0, 141, []), (141, .getfield 18, 144, [0, 3, 2, 253]), (144, .iload_n 2, 145, []), (145, .invokestatic 39, 148, [6, 156, 2, 702, 568, 132, 0]), (148, .invokevirtual 55, 151, [0, 37, 4, 5, 706, 707, 708, 134]), (151, .invokestatic 25, 154, [6, 157, 3, 679, 449, 132, 0]), (154, .iinc 3 1, 157, []), (157, .goto (-153), 160, [4]), (160, .aload_n 0, 161, []), (161, .getfield 18, 164, [0, 3, 2, 253]), (164, .iconst 0, 165, []), (165, .invokestatic 39, 168, [6, 156, 2, 702, 568, 132, 0]), (168, .ireturn, 169, [])]
/-- WhoKnows$Formula.depth()I -/
def mm_c12 : List mm_I := [(0, .iconst (-1), 1, []), (1, .istore_n 1, 2, []), (2, .iconst 0, 3, []), (3, .istore_n 2, 4, []), (4, .iload_n 2, 5, []), (5, .aload_n 0, 6, []), (6, .getfield 21, 9, [0, 3, 3, 254]), (9, .if_icmp .ge 102, 12, [111]), (12, .aload_n 0, 13, []), (13, .getfield 9, 16, [0, 3, 0, 251]), (16, .iload_n 2, 17, []), (17, .invokestatic 39, 20, [6, 156, 2, 702, 568, 132, 0]), (20, .istore_n 3, 21, []), (21, .iload_n 3, 22, []), (22, .ifCond .ne 18, 25, [40]), (25, .iinc 1 1, 28, []), (28, .aload_n 0, 29, []), (29, .getfield 18, 32, [0, 3, 2, 253]), (32, .iload_n 1, 33, []), (33, .iconst 0, 34, []), (34, .invokestatic 25, 37, [6, 157, 3, 679, 449, 132, 0]), (37, .goto 68, 40, [105]), (40, .iload_n 3, 41, []), (41, .invokestatic 51, 44, [6, 165, 1, 705, 682, 132, 0]), (44, .ifCond .eq 38, 47, [82]), (47, .iinc 1 (-1), 50, []), (50, .aload_n 0, 51, []), (51, .getfield 18, 54, [0, 3, 2, 253]), (54, .iload_n 1, 55, []), (55, .aload_n 0, 56, []), (56, .getfield 18, 59, [0, 3, 2, 253]), (59, .iload_n 1, 60, []), (60, .invokestatic 39, 63, [6, 156, 2, 702, 568, 132, 0]), (63, .aload_n 0, 64, []), (64, .getfield 18, 67, [0, 3, 2, 253]), (67, .iload_n 1, 68, []), (68, .iconst 1, 69, []), (69, .iadd, 70, []), (70, .invokestatic 39, 73, [6, 156, 2, 702, 568, 132, 0]), (73, .invokestatic 59, 76, [11, 1591]), (76, .invokestatic 25, 79, [6, 157, 3, 679, 449, 132, 0]), (79, .goto 26, 82, [105]), (82, .iload_n 3, 83, []), (83, .iconst 1, 84, []), (84, .if_icmp .eq 21, 87, [105]), (87, .aload_n 0, 88, []), (88, .getfield 18, 91, [0, 3, 2, 253]), (91, .iload_n 1, 92, []), (92, .aload_n 0, 93, []), (93, .getfield 18, 96, [0, 3, 2, 253]), (96, .iload_n 1, 97, []), (97, .invokestatic 39, 100, [6, 156, 2, 702, 568, 132, 0]), (100, .iconst 1, 101, []), (101, .iadd, 102, []), (102, .invokestatic 25, 105, [6, 157, 3, 679, 449, 132, 0]), (105, .iinc 2 1, 108, []), (108, .goto (-104), 111, [4]), (111, .aload_n 0, 112, []), (112, .getfield 18, 115, [0, 3, 2, 253]), (115, .iconst 0, 116, []), (116, .invokestatic 39, 119, [6, 156, 2, 702, 568, 132, 0]), (119, .ireturn, 120, [])]
/-- WhoKnows$Formula.writeTo(Ljava/lang/StringBuilder;LWhoKnows$Scene;[I)V -/
def mm_c13 : List mm_I := [(0, .aload_n 0, 1, []), (1, .invokevirtual 62, 4, [0, 15, 1, 3, 1378, 1380, 32, 135]), (4, .aload_n 3, 5, []), (5, .iconst 0, 6, []), (6, .aload_n 0, 7, []), (7, .getfield 21, 10, [0, 3, 3, 254]), (10, .iconst 1, 11, []), (11, .isub, 12, []), (12, .invokestatic 25, 15, [6, 157, 3, 679, 449, 132, 0]), (15, .iconst 1, 16, []), (16, .istore 4, 18, []), (18, .iconst 0, 19, []), (19, .istore 5, 21, []), (21, .iload 5, 23, []), (23, .sipush 240, 26, []), (26, .if_icmp .ge 213, 29, [239]), (29, .iload 4, 31, []), (31, .ifCond .le 208, 34, [239]), (34, .iinc 4 (-1), 37, []), (37, .aload_n 3, 38, []), (38, .iload 4, 40, []), (40, .invokestatic 39, 43, [6, 156, 2, 702, 568, 132, 0]), (43, .istore 6, 45, []), (45, .iload 6, 47, []), (47, .ifCond .ge 36, 50, [83]), (50, .aload_n 1, 51, []), (51, .iload 6, 53, []), (53, .iconst (-1), 54, []), (54, .if_icmp .ne 8, 57, [62]), (57, .ldc 65, 59, [1, 30, 1383]), (59, .goto 17, 62, [76]), (62, .iload 6, 64, []), (64, .bipush (-2), 66, []), (66, .if_icmp .ne 8, 69, [74]), (69, .ldc 67, 71, [1, 32, 1384]), (71, .goto 5, 74, [76]), (74, .ldc 69, 76, [1, 34, 1385]), (76, .invokevirtual 71, 79, [0, 372, 2, 1, 1386, 1074, 1075, 141]), (79, .pop, 80, []), (80, .goto 153, 83, [233]), (83, .aload_n 0, 84, []), (84, .getfield 9, 87, [0, 3, 0, 251]), (87, .iload 6, 89, []), (89, .invokestatic 39, 92, [6, 156, 2, 702, 568, 132, 0]), (92, .ifCond .ne 23, 95, [115]), (95, .aload_n 2, 96, []), (96, .getfield 77, 99, [1, 10, 0, 485, 0]), (99, .aload_n 1, 100, []), (100, .aload_n 0, 101, []), (101, .getfield 15, 104, [0, 3, 1, 252]), (104, .iload 6, 106, []), (106, .invokestatic 39, 109, [6, 156, 2, 702, 568, 132, 0]), (109, .invokevirtual 83, 112, [0, 53, 3, 7, 1387, 1388, 1389, 148]), (112, .goto 121, 115, [233]), (115, .aload_n 0, 116, []), (116, .getfield 9, 119, [0, 3, 0, 251]), (119, .iload 6, 121, []), (121, .invokestatic 39, 124, [6, 156, 2, 702, 568, 132, 0]), (124, .invokestatic 51, 127, [6, 165, 1, 705, 682, 132, 0]), (127, .ifCond .eq 85, 130, [212]), (130, .aload_n 1, 131, []), (131, .bipush 40, 133, []), (133, .invokevirtual 89, 136, [0, 373, 2, 1, 1409, 1397, 1398, 141]), (136, .pop, 137, []), (137, .aload_n 3, 138, []), (138, .iload 4, 140, []), (140, .bipush (-3), 142, []), (142, .invokestatic 25, 145, [6, 157, 3, 679, 449, 132, 0]), (145, .aload_n 3, 146, []), (146, .iload 4, 148, []), (148, .iconst 1, 149, []), (149, .iadd, 150, []), (150, .iload 6, 152, []), (152, .iconst 1, 153, []), (153, .isub, 154, []), (154, .invokestatic 25, 157, [6, 157, 3, 679, 449, 132, 0]), (157, .aload_n 3, 158, []), (158, .iload 4, 160, []), (160, .iconst 2, 161, []), (161, .iadd, 162, []), (162, .aload_n 0, 163, []), (163, .getfield 9, 166, [0, 3, 0, 251]), (166, .iload 6, 168, []), (168, .invokestatic 39, 171, [6, 156, 2, 702, 568, 132, 0]), (171, .bipush 6, 173, []), (173, .if_icmp .ne 7, 176, [180]), (176, .iconst (-1), 177, []), (177, .goto 5, 180, [182]), (180, .bipush (-2), 182, []), (182, .invokestatic 25, 185, [6, 157, 3, 679, 449, 132, 0]), (185, .aload_n 3, 186, []), (186, .iload 4, 188, []), (188, .iconst 3, 189, []), (189, .iadd, 190, []), (190, .aload_n 0, 191, []), (191, .getfield 18, 194, [0, 3, 2, 253]), (194, .iload 6, 196, []), (196, .iconst 1, 197, []), (197, .isub, 198, []), (198, .invokestatic 39, 201, [6, 156, 2, 702, 568, 132, 0]), (201, .iconst 1, 202, []), (202, .isub, 203, []), (203, .invokestatic 25, 206, [6, 157, 3, 679, 449, 132, 0]), (206, .iinc 4 4, 209, []), (209, .goto 24, 212, [233]), (212, .aload_n 0, 213, []), (213, .aload_n 1, 214, []), (214, .aload_n 2, 215, []), (215, .iload 6, 217, []), (217, .invokevirtual 92, 220, [0, 14, 4, 3, 1410, 1412, 33, 135]), (220, .aload_n 3, 221, []), (221, .iload 4, 223, []), (223, .iload 6, 225, []), (225, .iconst 1, 226, []), (226, .isub, 227, []), (227, .invokestatic 25, 230, [6, 157, 3, 679, 449, 132, 0]), (230, .iinc 4 1, 233, []), (233, .iinc 5 1, 236, []), (236, .goto (-215), 239, [21]), (239, .return_, 240, [])]
/-- WhoKnows$Formula.writePrefix(Ljava/lang/StringBuilder;LWhoKnows$Scene;I)V -/
def mm_c14 : List mm_I := [(0, .aload_n 1, 1, []), (1, .aload_n 0, 2, []), (2, .getfield 9, 5, [0, 3, 0, 251]), (5, .iload_n 3, 6, []), (6, .invokestatic 39, 9, [6, 156, 2, 702, 568, 132, 0]), (9, .invokestatic 96, 12, [6, 167, 1, 1414, 545, 132, 0]), (12, .invokevirtual 71, 15, [0, 372, 2, 1, 1386, 1074, 1075, 141]), (15, .pop, 16, []), (16, .aload_n 1, 17, []), (17, .bipush 32, 19, []), (19, .invokevirtual 89, 22, [0, 373, 2, 1, 1409, 1397, 1398, 141]), (22, .pop, 23, []), (23, .aload_n 0, 24, []), (24, .getfield 9, 27, [0, 3, 0, 251]), (27, .iload_n 3, 28, []), (28, .invokestatic 39, 31, [6, 156, 2, 702, 568, 132, 0]), (31, .invokestatic 100, 34, [6, 166, 1, 1415, 664, 132, 0]), (34, .ifCond .eq 26, 37, [60]), (37, .aload_n 2, 38, []), (38, .getfield 103, 41, [1, 10, 1, 492, 0]), (41, .aload_n 1, 42, []), (42, .aload_n 0, 43, []), (43, .getfield 15, 46, [0, 3, 1, 252]), (46, .iload_n 3, 47, []), (47, .invokestatic 39, 50, [6, 156, 2, 702, 568, 132, 0]), (50, .invokevirtual 83, 53, [0, 53, 3, 7, 1387, 1388, 1389, 148]), (53, .aload_n 1, 54, []), (54, .bipush 32, 56, []), (56, .invokevirtual 89, 59, [0, 373, 2, 1, 1409, 1397, 1398, 141]), (59, .pop, 60, []), (60, .return_, 61, [])]
/-- WhoKnows$Formula.findBegins()V -/
def mm_c15 : List mm_I := [(0, .iconst 0, 1, []), (1, .istore_n 1, 2, []), (2, .iload_n 1, 3, []), (3, .aload_n 0, 4, []), (4, .getfield 21, 7, [0, 3, 3, 254]), (7, .if_icmp .ge 82, 10, [89]), (10, .iload_n 1, 11, []), (11, .istore_n 2, 12, []), (12, .aload_n 0, 13, []), (13, .getfield 9, 16, [0, 3, 0, 251]), (16, .iload_n 1, 17, []), (17, .invokestatic 39, 20, [6, 156, 2, 702, 568, 132, 0]), (20, .invokestatic 106, 23, [6, 164, 1, 1382, 657, 132, 0]), (23, .ifCond .eq 17, 26, [40]), (26, .aload_n 0, 27, []), (27, .getfield 18, 30, [0, 3, 2, 253]), (30, .iload_n 1, 31, []), (31, .iconst 1, 32, []), (32, .isub, 33, []), (33, .invokestatic 39, 36, [6, 156, 2, 702, 568, 132, 0]), (36, .istore_n 2, 37, []), (37, .goto 37, 40, [74]), (40, .aload_n 0, 41, []), (41, .getfield 9, 44, [0, 3, 0, 251]), (44, .iload_n 1, 45, []), (45, .invokestatic 39, 48, [6, 156, 2, 702, 568, 132, 0]), (48, .invokestatic 51, 51, [6, 165, 1, 705, 682, 132, 0]), (51, .ifCond .eq 23, 54, [74]), (54, .aload_n 0, 55, []), (55, .getfield 18, 58, [0, 3, 2, 253]), (58, .aload_n 0, 59, []), (59, .getfield 18, 62, [0, 3, 2, 253]), (62, .iload_n 1, 63, []), (63, .iconst 1, 64, []), (64, .isub, 65, []), (65, .invokestatic 39, 68, [6, 156, 2, 702, 568, 132, 0]), (68, .iconst 1, 69, []), (69, .isub, 70, []), (70, .invokestatic 39, 73, [6, 156, 2, 702, 568, 132, 0]), (73, .istore_n 2, 74, []), (74, .aload_n 0, 75, []), (75, .getfield 18, 78, [0, 3, 2, 253]), (78, .iload_n 1, 79, []), (79, .iload_n 2, 80, []), (80, .invokestatic 25, 83, [6, 157, 3, 679, 449, 132, 0]), (83, .iinc 1 1, 86, []), (86, .goto (-84), 89, [2]), (89, .return_, 90, [])]
/-- WhoKnows$FormulaReader.<init>(LWhoKnows$Source;)V -/
def mm_c16 : List mm_I := [(0, .aload_n 0, 1, []), (1, .invokespecial 3, 4, [9, 270]), (4, .aload_n 0, 5, []), (5, .bipush 68, 7, []), (7, .newarray .int, 9, [0]), (9, .putfield 9, 12, [0, 4, 1, 272]), (12, .aload_n 0, 13, []), (13, .bipush 68, 15, []), (15, .newarray .int, 17, [0]), (17, .putfield 15, 20, [0, 4, 2, 273]), (20, .aload_n 0, 21, []), (21, .aload_n 1, 22, []), (22, .putfield 18, 25, [0, 4, 0, 271]), (25, .return_, 26, [])]
/-- WhoKnows$FormulaReader.read(LWhoKnows$Scene;ZLWhoKnows$Formula;)V -/
def mm_c17 : List mm_I := [(0, .aload_n 0, 1, []), (1, .iconst 0, 2, []), (2, .putfield 22, 5, [0, 4, 3, 274]), (5, .aload_n 0, 6, []), (6, .iconst 0, 7, []), (7, .putfield 26, 10, [0, 4, 4, 275]), (10, .aload_n 0, 11, []), (11, .iconst 0, 12, []), (12, .putfield 29, 15, [0, 4, 5, 276]), (15, .aload_n 3, 16, []), (16, .invokevirtual 32, 19, [0, 8, 1, 3, 636, 637, 638, 135]), (19, .iconst 1, 20, []), (20, .istore 4, 22, []), (22, .aload_n 0, 23, []), (23, .getfield 18, 26, [0, 4, 0, 271]), (26, .invokevirtual 37, 29, [0, 76, 1, 11, 640, 610, 611, 133]), (29, .ifCond .ne 7, 32, [36]), (32, .iconst 1, 33, []), (33, .goto 4, 36, [37]), (36, .iconst 0, 37, []), (37, .istore 5, 39, []), (39, .iconst 0, 40, []), (40, .istore 6, 42, []), (42, .iload 6, 44, []), (44, .sipush 600, 47, []), (47, .if_icmp .gt 128, 50, [175]), (50, .iload 5, 52, []), (52, .ifCond .eq 123, 55, [175]), (55, .iload 4, 57, []), (57, .ifCond .eq 32, 60, [89]), (60, .aload_n 0, 61, []), (61, .aload_n 1, 62, []), (62, .iload_n 2, 63, []), (63, .aload_n 3, 64, []), (64, .invokevirtual 43, 67, [0, 18, 4, 4, 641, 643, 16, 136]), (67, .istore 4, 69, []), (69, .aload_n 0, 70, []), (70, .getfield 18, 73, [0, 4, 0, 271]), (73, .invokevirtual 37, 76, [0, 76, 1, 11, 640, 610, 611, 133]), (76, .ifCond .ne 7, 79, [83]), (79, .iconst 1, 80, []), (80, .goto 4, 83, [84]), (83, .iconst 0, 84, []), (84, .istore 5, 86, []), (86, .goto 83, 89, [169]), (89, .aload_n 0, 90, []), (90, .getfield 18, 93, [0, 4, 0, 271]), (93, .getfield 47, 96, [1, 11, 7, 186, 0]), (96, .sipush 256, 99, []), (99, .isub, 100, []), (100, .invokestatic 50, 103, [6, 165, 1, 681, 682, 132, 0]), (103, .ifCond .eq 31, 106, [134]), (106, .aload_n 0, 107, []), (107, .aload_n 3, 108, []), (108, .invokevirtual 54, 111, [0, 20, 2, 4, 684, 686, 20, 136]), (111, .iconst 1, 112, []), (112, .istore 4, 114, []), (114, .aload_n 0, 115, []), (115, .getfield 18, 118, [0, 4, 0, 271]), (118, .invokevirtual 37, 121, [0, 76, 1, 11, 640, 610, 611, 133]), (121, .ifCond .ne 7, 124, [128]), (124, .iconst 1, 125, []), (125, .goto 4, 128, [129]), (128, .iconst 0, 129, []), (129, .istore 5, 131, []), (131, .goto 38, 134, [169]), (134, .aload_n 0, 135, []), (135, .getfield 26, 138, [0, 4, 4, 275]), (138, .ifCond .le 28, 141, [166]), (141, .aload_n 0, 142, []), (142, .aload_n 3, 143, []), (143, .invokevirtual 58, 146, [0, 21, 2, 4, 693, 695, 22, 136]), (146, .aload_n 0, 147, []), (147, .getfield 18, 150, [0, 4, 0, 271]), (150, .invokevirtual 37, 153, [0, 76, 1, 11, 640, 610, 611, 133]), (153, .ifCond .ne 7, 156, [160]), (156, .iconst 1, 157, []), (157, .goto 4, 160, [161]), (160, .iconst 0, 161, []), (161, .istore 5, 163, []), (163, .goto 6, 166, [169]), (166, .iconst 0, 167, []), (167, .istore 5, 169, []), (169, .iinc 6 1, 172, []), (172, .goto (-130), 175, [42]), (175, .aload_n 0, 176, []), (176, .bipush 7, 178, []), (178, .aload_n 3, 179, []), (179, .invokevirtual 61, 182, [0, 24, 3, 4, 688, 690, 21, 136]), (182, .return_, 183, [])]
/-- WhoKnows$FormulaReader.readItem(LWhoKnows$Scene;ZLWhoKnows$Formula;)Z -/
def mm_c18 : List mm_I := [(0, .aload_n 0, 1, []), (1, .getfield 18, 4, [0, 4, 0, 271]), (4, .getfield 47, 7, [1, 11, 7, 186, 0]), (7, .sipush 256, 10, []), (10, .isub, 11, []), (11, .istore 4, 13, []), (13, .aload_n 0, 14, []), (14, .getfield 18, 17, [0, 4, 0, 271]), (17, .getfield 47, 20, [1, 11, 7, 186, 0]), (20, .bipush 40, 22, []), (22, .if_icmp .ne 9, 25, [31]), (25, .aload_n 0, 26, []), (26, .invokevirtual 65, 29, [0, 19, 1, 4, 645, 647, 17, 136]), (29, .iconst 1, 30, []), (30, .ireturn, 31, []), (31, .iload 4, 33, []), (33, .invokestatic 68, 36, [6, 164, 1, 656, 657, 132, 0]), (36, .ifCond .eq 51, 39, [87]), (39, .iload 4, 41, []), (41, .iconst 1, 42, []), (42, .if_icmp .eq 7, 45, [49]), (45, .iload_n 2, 46, []), (46, .ifCond .ne 41, 49, [87]), (49, .aload_n 0, 50, []), (50, .invokevirtual 71, 53, [0, 22, 1, 4, 659, 661, 19, 136]), (53, .ifCond .eq 32, 56, [85]), (56, .aload_n 0, 57, []), (57, .iload 4, 59, []), (59, .iload 4, 61, []), (61, .invokestatic 74, 64, [6, 166, 1, 663, 664, 132, 0]), (64, .ifCond .eq 17, 67, [81]), (67, .aload_n 0, 68, []), (68, .getfield 18, 71, [0, 4, 0, 271]), (71, .aload_n 1, 72, []), (72, .getfield 77, 75, [1, 10, 1, 490, 0]), (75, .invokevirtual 83, 78, [0, 84, 2, 11, 666, 667, 668, 133]), (78, .goto 4, 81, [82]), (81, .iconst 0, 82, []), (82, .invokevirtual 87, 85, [0, 23, 3, 4, 650, 652, 18, 136]), (85, .iconst 1, 86, []), (86, .ireturn, 87, []), (87, .aload_n 0, 88, []), (88, .getfield 18, 91, [0, 4, 0, 271]), (91, .aload_n 1, 92, []), (92, .getfield 91, 95, [1, 10, 0, 482, 0]), (95, .invokevirtual 94, 98, [0, 83, 2, 11, 674, 671, 672, 133]), (98, .istore 5, 100, []), (100, .iload 5, 102, []), (102, .iconst (-1), 103, []), (103, .if_icmp .eq 17, 106, [120]), (106, .aload_n 0, 107, []), (107, .invokevirtual 71, 110, [0, 22, 1, 4, 659, 661, 19, 136]), (110, .ifCond .eq 10, 113, [120]), (113, .aload_n 3, 114, []), (114, .iconst 0, 115, []), (115, .iload 5, 117, []), (117, .invokevirtual 97, 120, [0, 9, 3, 3, 675, 676, 677, 135]), (120, .iconst 0, 121, []), (121, .ireturn, 122, [])]
/-- WhoKnows$FormulaReader.readOpen()V -/
def mm_c19 : List mm_I := [(0, .aload_n 0, 1, []), (1, .getfield 26, 4, [0, 4, 4, 275]), (4, .bipush 8, 6, []), (6, .if_icmp .lt 21, 9, [27]), (9, .aload_n 0, 10, []), (10, .getfield 18, 13, [0, 4, 0, 271]), (13, .iconst 1, 14, []), (14, .aload_n 0, 15, []), (15, .getfield 18, 18, [0, 4, 0, 271]), (18, .getfield 100, 21, [1, 11, 8, 191, 0]), (21, .invokevirtual 103, 24, [0, 75, 3, 11, 649, 584, 585, 133]), (24, .goto 27, 27, [51]), (27, .aload_n 0, 28, []), (28, .dup, 29, []), (29, .getfield 26, 32, [0, 4, 4, 275]), (32, .iconst 1, 33, []), (33, .iadd, 34, []), (34, .putfield 26, 37, [0, 4, 4, 275]), (37, .aload_n 0, 38, []), (38, .bipush 8, 40, []), (40, .iconst 0, 41, []), (41, .invokevirtual 87, 44, [0, 23, 3, 4, 650, 652, 18, 136]), (44, .aload_n 0, 45, []), (45, .getfield 18, 48, [0, 4, 0, 271]), (48, .invokevirtual 106, 51, [0, 74, 1, 11, 655, 564, 565, 133]), (51, .return_, 52, [])]
/-- WhoKnows$FormulaReader.readJoin(LWhoKnows$Formula;)V -/
def mm_c20 : List mm_I := [(0, .aload_n 0, 1, []), (1, .getfield 18, 4, [0, 4, 0, 271]), (4, .getfield 47, 7, [1, 11, 7, 186, 0]), (7, .sipush 256, 10, []), (10, .isub, 11, []), (11, .istore_n 2, 12, []), (12, .aload_n 0, 13, []), (13, .invokevirtual 71, 16, [0, 22, 1, 4, 659, 661, 19, 136]), (16, .ifCond .eq 15, 19, [31]), (19, .aload_n 0, 20, []), (20, .iload_n 2, 21, []), (21, .aload_n 1, 22, []), (22, .invokevirtual 61, 25, [0, 24, 3, 4, 688, 690, 21, 136]), (25, .aload_n 0, 26, []), (26, .iload_n 2, 27, []), (27, .iconst 0, 28, []), (28, .invokevirtual 87, 31, [0, 23, 3, 4, 650, 652, 18, 136]), (31, .return_, 32, [])]
/-- WhoKnows$FormulaReader.readClose(LWhoKnows$Formula;)V -/
def mm_c21 : List mm_I := [(0, .aload_n 0, 1, []), (1, .getfield 18, 4, [0, 4, 0, 271]), (4, .bipush 41, 6, []), (6, .invokevirtual 109, 9, [0, 80, 2, 11, 697, 621, 622, 133]), (9, .ifCond .eq 30, 12, [39]), (12, .aload_n 0, 13, []), (13, .bipush 7, 15, []), (15, .aload_n 1, 16, []), (16, .invokevirtual 61, 19, [0, 24, 3, 4, 688, 690, 21, 136]), (19, .aload_n 0, 20, []), (20, .dup, 21, []), (21, .getfield 22, 24, [0, 4, 3, 274]), (24, .iconst 1, 25, []), (25, .isub, 26, []), (26, .putfield 22, 29, [0, 4, 3, 274]), (29, .aload_n 0, 30, []), (30, .dup, 31, []), (31, .getfield 26, 34, [0, 4, 4, 275]), (34, .iconst 1, 35, []), (35, .isub, 36, []), (36, .putfield 26, 39, [0, 4, 4, 275]), (39, .return_, 40, [])]
/-- WhoKnows$FormulaReader.takeNode()Z -/
def mm_c22 : List mm_I := [(0, .aload_n 0, 1, []), (1, .getfield 29, 4, [0, 4, 5, 276]), (4, .bipush 60, 6, []), (6, .if_icmp .lt 20, 9, [26]), (9, .aload_n 0, 10, []), (10, .getfield 18, 13, [0, 4, 0, 271]), (13, .iconst 3, 14, []), (14, .aload_n 0, 15, []), (15, .getfield 18, 18, [0, 4, 0, 271]), (18, .getfield 100, 21, [1, 11, 8, 191, 0]), (21, .invokevirtual 103, 24, [0, 75, 3, 11, 649, 584, 585, 133]), (24, .iconst 0, 25, []), (25, .ireturn, 26, []), (26, .aload_n 0, 27, []), (27, .dup, 28, []), (28, .getfield 29, 31, [0, 4, 5, 276]), (31, .iconst 1, 32, []), (32, .iadd, 33, []), (33, .putfield 29, 36, [0, 4, 5, 276]), (36, .aload_n 0, 37, []), (37, .getfield 18, 40, [0, 4, 0, 271]), (40, .invokevirtual 106, 43, [0, 74, 1, 11, 655, 564, 565, 133]), (43, .iconst 1, 44, []), (44, .ireturn, 45, [])]
/-- WhoKnows$FormulaReader.hold(II)V -/
def mm_c23 : List mm_I := [(0, .aload_n 0, 1, []), (1, .getfield 9, 4, [0, 4, 1, 272]), (4, .aload_n 0, 5, []), (5, .getfield 22, 8, [0, 4, 3, 274]), (8, .iload_n 1, 9, []), (9, .invokestatic 112, 12, [6, 157, 3, 654, 449, 132, 0]), (12, .aload_n 0, 13, []), (13, .getfield 15, 16, [0, 4, 2, 273]), (16, .aload_n 0, 17, []), (17, .getfield 22, 20, [0, 4, 3, 274]), (20, .iload_n 2, 21, []), (21, .invokestatic 112, 24, [6, 157, 3, 654, 449, 132, 0]), (24, .aload_n 0, 25, []), (25, .dup, 26, []), (26, .getfield 22, 29, [0, 4, 3, 274]), (29, .iconst 1, 30, []), (30, .iadd, 31, []), (31, .putfield 22, 34, [0, 4, 3, 274]), (34, .return_, 35, [])]
/-- WhoKnows$FormulaReader.release(ILWhoKnows$Formula;)V -/
def mm_c24 : List mm_I := [(0, .aload_n 0, 1, []), (1, .getfield 22, 4, [0, 4, 3, 274]), (4, .ifCond .le 59, 7, [63]), (7, .aload_n 0, 8, []), (8, .getfield 9, 11, [0, 4, 1, 272]), (11, .aload_n 0, 12, []), (12, .getfield 22, 15, [0, 4, 3, 274]), (15, .iconst 1, 16, []), (16, .isub, 17, []), (17, .invokestatic 116, 20, [6, 156, 2, 692, 568, 132, 0]), (20, .iload_n 1, 21, []), (21, .if_icmp .gt 42, 24, [63]), (24, .aload_n 0, 25, []), (25, .dup, 26, []), (26, .getfield 22, 29, [0, 4, 3, 274]), (29, .iconst 1, 30, []), (30, .isub, 31, []), (31, .putfield 22, 34, [0, 4, 3, 274]), (34, .aload_n 2, 35, []), (35, .aload_n 0, 36, []), (36, .getfield 9, 39, [0, 4, 1, 272]), (39, .aload_n 0, 40, []), (40, .getfield 22, 43, [0, 4, 3, 274]), (43, .invokestatic 116, 46, [6, 156, 2, 692, 568, 132, 0]), (46, .aload_n 0, 47, []), (47, .getfield 15, 50, [0, 4, 2, 273]), (50, .aload_n 0, 51, []), (51, .getfield 22, 54, [0, 4, 3, 274]), (54, .invokestatic 116, 57, [6, 156, 2, 692, 568, 132, 0]), (57, .invokevirtual 97, 60, [0, 9, 3, 3, 675, 676, 677, 135]), (60, .goto (-60), 63, [0]), (63, .return_, 64, [])]
/-- WhoKnows$Knowledge.<init>()V -/
def mm_c25 : List mm_I := [(0, .aload_n 0, 1, []), (1, .invokespecial 3, 4, [9, 230]), (4, .aload_n 0, 5, []), (5, .sipush 160, 8, []), (8, .newarray .int, 10, [0]), (10, .putfield 9, 13, [0, 5, 0, 231]), (13, .return_, 14, [])]
/-- WhoKnows$Knowledge.begin(LWhoKnows$Scene;)V -/
def mm_c26 : List mm_I := [(0, .aload_n 0, 1, []), (1, .aload_n 1, 2, []), (2, .getfield 15, 5, [1, 10, 4, 500, 0]), (5, .putfield 21, 8, [0, 5, 1, 232]), (8, .aload_n 0, 9, []), (9, .aload_n 1, 10, []), (10, .getfield 24, 13, [1, 10, 1, 488, 0]), (13, .getfield 28, 16, [1, 7, 1, 472, 0]), (16, .putfield 33, 19, [0, 5, 2, 237]), (19, .iconst 0, 20, []), (20, .istore_n 2, 21, []), (21, .iload_n 2, 22, []), (22, .aload_n 0, 23, []), (23, .getfield 33, 26, [0, 5, 2, 237]), (26, .if_icmp .ge 48, 29, [74]), (29, .iconst 0, 30, []), (30, .istore_n 3, 31, []), (31, .iload_n 3, 32, []), (32, .bipush 32, 34, []), (34, .if_icmp .ge 34, 37, [68]), (37, .aload_n 0, 38, []), (38, .getfield 9, 41, [0, 5, 0, 231]), (41, .iload_n 2, 42, []), (42, .bipush 32, 44, []), (44, .imul, 45, []), (45, .iload_n 3, 46, []), (46, .iadd, 47, []), (47, .iload_n 3, 48, []), (48, .aload_n 1, 49, []), (49, .getfield 35, 52, [1, 10, 2, 495, 0]), (52, .iload_n 2, 53, []), (53, .invokestatic 38, 56, [6, 156, 2, 827, 568, 132, 0]), (56, .invokestatic 42, 59, [6, 163, 2, 828, 829, 132, 0]), (59, .invokestatic 46, 62, [6, 157, 3, 832, 449, 132, 0]), (62, .iinc 3 1, 65, []), (65, .goto (-34), 68, [31]), (68, .iinc 2 1, 71, []), (71, .goto (-50), 74, [21]), (74, .return_, 75, [])]
/-- WhoKnows$Knowledge.copyFrom(LWhoKnows$Knowledge;)V -/
def mm_c27 : List mm_I := [(0, .aload_n 1, 1, []), (1, .getfield 9, 4, [0, 5, 0, 231]), (4, .aload_n 0, 5, []), (5, .getfield 9, 8, [0, 5, 0, 231]), (8, .invokestatic 50, 11, [6, 158, 2, 1018, 1019, 132, 0]), (11, .aload_n 0, 12, []), (12, .aload_n 1, 13, []), (13, .getfield 21, 16, [0, 5, 1, 232]), (16, .putfield 21, 19, [0, 5, 1, 232]), (19, .aload_n 0, 20, []), (20, .aload_n 1, 21, []), (21, .getfield 33, 24, [0, 5, 2, 237]), (24, .putfield 33, 27, [0, 5, 2, 237]), (27, .return_, 28, [])]
/-- WhoKnows$Knowledge.leftCount()I -/
def mm_c28 : List mm_I := [(0, .aload_n 0, 1, []), (1, .getfield 21, 4, [0, 5, 1, 232]), (4, .invokestatic 54, 7, [1, 360, 1, 981, 962, 157]), (7, .ireturn, 8, [])]
/-- WhoKnows$Knowledge.likeTo(II)I -/
def mm_c29 : List mm_I := [(0, .iload_n 1, 1, []), (1, .bipush 32, 3, []), (3, .imul, 4, []), (4, .iload_n 2, 5, []), (5, .iadd, 6, []), (6, .istore_n 3, 7, []), (7, .iload_n 2, 8, []), (8, .ifCond .lt 22, 11, [30]), (11, .iload_n 2, 12, []), (12, .bipush 32, 14, []), (14, .if_icmp .ge 16, 17, [30]), (17, .iload_n 3, 18, []), (18, .ifCond .lt 12, 21, [30]), (21, .iload_n 3, 22, []), (22, .aload_n 0, 23, []), (23, .getfield 9, 26, [0, 5, 0, 231]), (26, .arraylength, 27, []), (27, .if_icmp .lt 5, 30, [32]), (30, .iconst 0, 31, []), (31, .ireturn, 32, []), (32, .aload_n 0, 33, []), (33, .getfield 21, 36, [0, 5, 1, 232]), (36, .iload_n 2, 37, []), (37, .iushr, 38, []), (38, .iconst 1, 39, []), (39, .iand, 40, []), (40, .iconst 1, 41, []), (41, .if_icmp .ne 17, 44, [58]), (44, .aload_n 0, 45, []), (45, .getfield 9, 48, [0, 5, 0, 231]), (48, .iload_n 3, 49, []), (49, .iaload, 50, []), (50, .aload_n 0, 51, []), (51, .getfield 21, 54, [0, 5, 1, 232]), (54, .iand, 55, []), (55, .goto 4, 58, [59]), (58, .iconst 0, 59, []), (59, .ireturn, 60, [])]
/-- WhoKnows$Knowledge.isLowest(II)Z -/
def mm_c30 : List mm_I := [(0, .aload_n 0, 1, []), (1, .getfield 21, 4, [0, 5, 1, 232]), (4, .iload_n 2, 5, []), (5, .invokestatic 60, 8, [6, 159, 2, 714, 715, 132, 0]), (8, .ifCond .eq 21, 11, [29]), (11, .aload_n 0, 12, []), (12, .iload_n 1, 13, []), (13, .iload_n 2, 14, []), (14, .invokevirtual 64, 17, [0, 29, 3, 5, 717, 718, 719, 134]), (17, .iload_n 2, 18, []), (18, .invokestatic 67, 21, [6, 161, 1, 1650, 614, 132, 0]), (21, .iand, 22, []), (22, .ifCond .ne 7, 25, [29]), (25, .iconst 1, 26, []), (26, .goto 4, 29, [30]), (29, .iconst 0, 30, []), (30, .ireturn, 31, [])]
/-- WhoKnows$Knowledge.sumOfAlike(I)I -/
def mm_c31 : List mm_I := [(0, .iconst 0, 1, []), (1, .istore_n 2, 2, []), (2, .iconst 0, 3, []), (3, .istore_n 3, 4, []), (4, .iload_n 3, 5, []), (5, .bipush 32, 7, []), (7, .if_icmp .ge 21, 10, [28]), (10, .iload_n 2, 11, []), (11, .aload_n 0, 12, []), (12, .iload_n 1, 13, []), (13, .iload_n 3, 14, []), (14, .invokevirtual 64, 17, [0, 29, 3, 5, 717, 718, 719, 134]), (17, .invokestatic 54, 20, [1, 360, 1, 981, 962, 157]), (20, .iadd, 21, []), (21, .istore_n 2, 22, []), (22, .iinc 3 1, 25, []), (25, .goto (-21), 28, [4]), (28, .iload_n 2, 29, []), (29, .ireturn, 30, [])]
/-- WhoKnows$Knowledge.neighbours(I)I -/
def mm_c32 : List mm_I := [(0, .iconst 0, 1, []), (1, .istore_n 2, 2, []), (2, .iconst 0, 3, []), (3, .istore_n 3, 4, []), (4, .iload_n 3, 5, []), (5, .bipush 32, 7, []), (7, .if_icmp .ge 46, 10, [53]), (10, .iconst 0, 11, []), (11, .istore 4, 13, []), (13, .iload 4, 15, []), (15, .aload_n 0, 16, []), (16, .getfield 33, 19, [0, 5, 2, 237]), (19, .if_icmp .ge 28, 22, [47]), (22, .iload_n 1, 23, []), (23, .iload_n 3, 24, []), (24, .iushr, 25, []), (25, .iconst 1, 26, []), (26, .iand, 27, []), (27, .iconst 1, 28, []), (28, .if_icmp .ne 19, 31, [47]), (31, .iload_n 2, 32, []), (32, .aload_n 0, 33, []), (33, .iload 4, 35, []), (35, .iload_n 3, 36, []), (36, .invokevirtual 64, 39, [0, 29, 3, 5, 717, 718, 719, 134]), (39, .ior, 40, []), (40, .istore_n 2, 41, []), (41, .iinc 4 1, 44, []), (44, .goto (-31), 47, [13]), (47, .iinc 3 1, 50, []), (50, .goto (-46), 53, [4]), (53, .iload_n 2, 54, []), (54, .ireturn, 55, [])]
/-- WhoKnows$Knowledge.reachedFrom(I)I -/
def mm_c33 : List mm_I := [(0, .aload_n 0, 1, []), (1, .getfield 21, 4, [0, 5, 1, 232]), (4, .iload_n 1, 5, []), (5, .iand, 6, []), (6, .istore_n 2, 7, []), (7, .iload_n 2, 8, []), (8, .istore_n 3, 9, []), (9, .iconst 0, 10, []), (10, .istore 4, 12, []), (12, .iload 4, 14, []), (14, .bipush 32, 16, []), (16, .if_icmp .ge 27, 19, [43]), (19, .iload_n 3, 20, []), (20, .ifCond .eq 23, 23, [43]), (23, .aload_n 0, 24, []), (24, .iload_n 3, 25, []), (25, .invokevirtual 70, 28, [0, 32, 2, 5, 732, 734, 23, 134]), (28, .iload_n 2, 29, []), (29, .iconst (-1), 30, []), (30, .ixor, 31, []), (31, .iand, 32, []), (32, .istore_n 3, 33, []), (33, .iload_n 2, 34, []), (34, .iload_n 3, 35, []), (35, .ior, 36, []), (36, .istore_n 2, 37, []), (37, .iinc 4 1, 40, []), (40, .goto (-28), 43, [12]), (43, .iload_n 2, 44, []), (44, .ireturn, 45, [])]
/-- WhoKnows$Knowledge.stepsBetween(II)I -/
def mm_c34 : List mm_I := [(0, .aload_n 0, 1, []), (1, .getfield 21, 4, [0, 5, 1, 232]), (4, .iload_n 1, 5, []), (5, .invokestatic 73, 8, [6, 160, 1, 721, 722, 132, 0]), (8, .iand, 9, []), (9, .istore_n 3, 10, []), (10, .iconst 0, 11, []), (11, .istore 4, 13, []), (13, .iload 4, 15, []), (15, .bipush 32, 17, []), (17, .if_icmp .ge 28, 20, [45]), (20, .iload_n 3, 21, []), (21, .iload_n 2, 22, []), (22, .invokestatic 60, 25, [6, 159, 2, 714, 715, 132, 0]), (25, .ifCond .eq 6, 28, [31]), (28, .iload 4, 30, []), (30, .ireturn, 31, []), (31, .iload_n 3, 32, []), (32, .aload_n 0, 33, []), (33, .iload_n 3, 34, []), (34, .invokevirtual 70, 37, [0, 32, 2, 5, 732, 734, 23, 134]), (37, .ior, 38, []), (38, .istore_n 3, 39, []), (39, .iinc 4 1, 42, []), (42, .goto (-29), 45, [13]), (45, .iconst (-1), 46, []), (46, .ireturn, 47, [])]
/-- WhoKnows$Knowledge.knowing(II)I -/
def mm_c35 : List mm_I := [(0, .iconst 0, 1, []), (1, .istore_n 3, 2, []), (2, .iconst 0, 3, []), (3, .istore 4, 5, []), (5, .iload 4, 7, []), (7, .bipush 32, 9, []), (9, .if_icmp .ge 43, 12, [52]), (12, .aload_n 0, 13, []), (13, .getfield 21, 16, [0, 5, 1, 232]), (16, .iload 4, 18, []), (18, .invokestatic 60, 21, [6, 159, 2, 714, 715, 132, 0]), (21, .ifCond .eq 25, 24, [46]), (24, .aload_n 0, 25, []), (25, .iload_n 1, 26, []), (26, .iload 4, 28, []), (28, .invokevirtual 64, 31, [0, 29, 3, 5, 717, 718, 719, 134]), (31, .iload_n 2, 32, []), (32, .iconst (-1), 33, []), (33, .ixor, 34, []), (34, .iand, 35, []), (35, .ifCond .ne 11, 38, [46]), (38, .iload_n 3, 39, []), (39, .iload 4, 41, []), (41, .invokestatic 73, 44, [6, 160, 1, 721, 722, 132, 0]), (44, .ior, 45, []), (45, .istore_n 3, 46, []), (46, .iinc 4 1, 49, []), (49, .goto (-44), 52, [5]), (52, .iload_n 3, 53, []), (53, .ireturn, 54, [])]
/-- WhoKnows$Knowledge.knownToAll(I)I -/
def mm_c36 : List mm_I := [(0, .aload_n 0, 1, []), (1, .getfield 21, 4, [0, 5, 1, 232]), (4, .istore_n 2, 5, []), (5, .iconst 0, 6, []), (6, .istore_n 3, 7, []), (7, .iload_n 3, 8, []), (8, .aload_n 0, 9, []), (9, .getfield 33, 12, [0, 5, 2, 237]), (12, .if_icmp .ge 18, 15, [30]), (15, .iload_n 2, 16, []), (16, .aload_n 0, 17, []), (17, .iload_n 3, 18, []), (18, .iload_n 1, 19, []), (19, .invokevirtual 76, 22, [0, 35, 3, 5, 710, 711, 712, 134]), (22, .iand, 23, []), (23, .istore_n 2, 24, []), (24, .iinc 3 1, 27, []), (27, .goto (-20), 30, [7]), (30, .iload_n 2, 31, []), (31, .ireturn, 32, [])]
/-- WhoKnows$Knowledge.prefixed(III)I -/
def mm_c37 : List mm_I := [(0, .iload_n 1, 1, []), (1, .tableswitch 69 1 4 #[31, 40, 47, 63], 32, [70, 32, 41, 48, 64]), (32, .aload_n 0, 33, []), (33, .getfield 21, 36, [0, 5, 1, 232]), (36, .iload_n 3, 37, []), (37, .iconst (-1), 38, []), (38, .ixor, 39, []), (39, .iand, 40, []), (40, .ireturn, 41, []), (41, .aload_n 0, 42, []), (42, .iload_n 2, 43, []), (43, .iload_n 3, 44, []), (44, .invokevirtual 76, 47, [0, 35, 3, 5, 710, 711, 712, 134]), (47, .ireturn, 48, []), (48, .aload_n 0, 49, []), (49, .getfield 21, 52, [0, 5, 1, 232]), (52, .aload_n 0, 53, []), (53, .iload_n 2, 54, []), (54, .iload_n 3, 55, []), (55, .iconst (-1), 56, []), (56, .ixor, 57, []), (57, .invokevirtual 76, 60, [0, 35, 3, 5, 710, 711, 712, 134]), (60, .iconst (-1), 61, []), (61, .ixor, 62, []), (62, .iand, 63, []), (63, .ireturn, 64, []), (64, .aload_n 0, 65, []), (65, .iload_n 3, 66, []), (66, .invokevirtual 79, 69, [0, 36, 2, 5, 724, 725, 726, 134]), (69, .ireturn, 70, []), (70, .aload_n 0, 71, []), (71, .getfield 21, 74, [0, 5, 1, 232]), (74, .aload_n 0, 75, []), (75, .iload_n 3, 76, []), (76, .iconst (-1), 77, []), (77, .ixor, 78, []), (78, .invokevirtual 82, 81, [0, 33, 2, 5, 728, 729, 730, 134]), (81, .iconst (-1), 82, []), (82, .ixor, 83, []), (83, .iand, 84, []), (84, .ireturn, 85, [])]
/-- WhoKnows$Knowledge.knowersOf(II)I -/
def mm_c38 : List mm_I := [(0, .iconst 0, 1, []), (1, .istore_n 3, 2, []), (2, .iconst 0, 3, []), (3, .istore 4, 5, []), (5, .iload 4, 7, []), (7, .aload_n 0, 8, []), (8, .getfield 33, 11, [0, 5, 2, 237]), (11, .if_icmp .ge 31, 14, [42]), (14, .aload_n 0, 15, []), (15, .iload 4, 17, []), (17, .iload_n 1, 18, []), (18, .invokevirtual 64, 21, [0, 29, 3, 5, 717, 718, 719, 134]), (21, .iload_n 2, 22, []), (22, .iconst (-1), 23, []), (23, .ixor, 24, []), (24, .iand, 25, []), (25, .ifCond .ne 11, 28, [36]), (28, .iload_n 3, 29, []), (29, .iload 4, 31, []), (31, .invokestatic 73, 34, [6, 160, 1, 721, 722, 132, 0]), (34, .ior, 35, []), (35, .istore_n 3, 36, []), (36, .iinc 4 1, 39, []), (39, .goto (-34), 42, [5]), (42, .iload_n 3, 43, []), (43, .ireturn, 44, [])]
/-- WhoKnows$Knowledge.decidersOf(II)I -/
def mm_c39 : List mm_I := [(0, .aload_n 0, 1, []), (1, .iload_n 1, 2, []), (2, .iload_n 2, 3, []), (3, .invokevirtual 85, 6, [0, 38, 3, 5, 921, 910, 911, 134]), (6, .aload_n 0, 7, []), (7, .iload_n 1, 8, []), (8, .iload_n 2, 9, []), (9, .iconst (-1), 10, []), (10, .ixor, 11, []), (11, .invokevirtual 85, 14, [0, 38, 3, 5, 921, 910, 911, 134]), (14, .ior, 15, []), (15, .ireturn, 16, [])]
/-- WhoKnows$Knowledge.deciding(II)I -/
def mm_c40 : List mm_I := [(0, .iconst 0, 1, []), (1, .istore_n 3, 2, []), (2, .iconst 0, 3, []), (3, .istore 4, 5, []), (5, .iload 4, 7, []), (7, .bipush 32, 9, []), (9, .if_icmp .ge 40, 12, [49]), (12, .aload_n 0, 13, []), (13, .getfield 21, 16, [0, 5, 1, 232]), (16, .iload 4, 18, []), (18, .invokestatic 60, 21, [6, 159, 2, 714, 715, 132, 0]), (21, .ifCond .eq 22, 24, [43]), (24, .aload_n 0, 25, []), (25, .iload 4, 27, []), (27, .iload_n 2, 28, []), (28, .invokevirtual 88, 31, [0, 39, 3, 5, 1558, 918, 919, 134]), (31, .iload_n 1, 32, []), (32, .if_icmp .ne 11, 35, [43]), (35, .iload_n 3, 36, []), (36, .iload 4, 38, []), (38, .invokestatic 73, 41, [6, 160, 1, 721, 722, 132, 0]), (41, .ior, 42, []), (42, .istore_n 3, 43, []), (43, .iinc 4 1, 46, []), (46, .goto (-41), 49, [5]), (49, .iload_n 3, 50, []), (50, .ireturn, 51, [])]
/-- WhoKnows$Knowledge.tellApart(II)I -/
def mm_c41 : List mm_I := [(0, .iconst 0, 1, []), (1, .istore_n 3, 2, []), (2, .iconst 0, 3, []), (3, .istore 4, 5, []), (5, .iload 4, 7, []), (7, .aload_n 0, 8, []), (8, .getfield 33, 11, [0, 5, 2, 237]), (11, .if_icmp .ge 108, 14, [119]), (14, .iconst 0, 15, []), (15, .istore 5, 17, []), (17, .iload 5, 19, []), (19, .bipush 32, 21, []), (21, .if_icmp .ge 92, 24, [113]), (24, .iload_n 1, 25, []), (25, .iload 4, 27, []), (27, .invokestatic 60, 30, [6, 159, 2, 714, 715, 132, 0]), (30, .ifCond .eq 83, 33, [113]), (33, .iload 4, 35, []), (35, .bipush 32, 37, []), (37, .imul, 38, []), (38, .iload 5, 40, []), (40, .iadd, 41, []), (41, .istore 6, 43, []), (43, .aload_n 0, 44, []), (44, .iload 4, 46, []), (46, .iload 5, 48, []), (48, .invokevirtual 64, 51, [0, 29, 3, 5, 717, 718, 719, 134]), (51, .istore 7, 53, []), (53, .aload_n 0, 54, []), (54, .getfield 9, 57, [0, 5, 0, 231]), (57, .iload 6, 59, []), (59, .aload_n 0, 60, []), (60, .getfield 9, 63, [0, 5, 0, 231]), (63, .iload 6, 65, []), (65, .invokestatic 38, 68, [6, 156, 2, 827, 568, 132, 0]), (68, .iload_n 2, 69, []), (69, .iload 5, 71, []), (71, .invokestatic 60, 74, [6, 159, 2, 714, 715, 132, 0]), (74, .ifCond .eq 7, 77, [81]), (77, .iload_n 2, 78, []), (78, .goto 6, 81, [84]), (81, .iload_n 2, 82, []), (82, .iconst (-1), 83, []), (83, .ixor, 84, []), (84, .iand, 85, []), (85, .invokestatic 46, 88, [6, 157, 3, 832, 449, 132, 0]), (88, .iload_n 3, 89, []), (89, .iload 7, 91, []), (91, .aload_n 0, 92, []), (92, .iload 4, 94, []), (94, .iload 5, 96, []), (96, .invokevirtual 64, 99, [0, 29, 3, 5, 717, 718, 719, 134]), (99, .iconst (-1), 100, []), (100, .ixor, 101, []), (101, .iand, 102, []), (102, .invokestatic 54, 105, [1, 360, 1, 981, 962, 157]), (105, .iadd, 106, []), (106, .istore_n 3, 107, []), (107, .iinc 5 1, 110, []), (110, .goto (-93), 113, [17]), (113, .iinc 4 1, 116, []), (116, .goto (-111), 119, [5]), (119, .iload_n 3, 120, []), (120, .iconst 2, 121, []), (121, .idiv, 122, []), (122, .ireturn, 123, [])]
/-- WhoKnows$Log.<init>()V -/
def mm_c42 : List mm_I := [(0, .aload_n 0, 1, []), (1, .invokespecial 3, 4, [9, 783]), (4, .aload_n 0, 5, []), (5, .bipush 20, 7, []), (7, .newarray .int, 9, [0]), (9, .putfield 9, 12, [0, 6, 0, 784]), (12, .aload_n 0, 13, []), (13, .bipush 20, 15, []), (15, .newarray .int, 17, [0]), (17, .putfield 15, 20, [0, 6, 1, 785]), (20, .aload_n 0, 21, []), (21, .bipush 20, 23, []), (23, .newarray .int, 25, [0]), (25, .putfield 18, 28, [0, 6, 2, 786]), (28, .aload_n 0, 29, []), (29, .bipush 7, 31, []), (31, .newarray .int, 33, [0]), (33, .putfield 21, 36, [0, 6, 3, 787]), (36, .return_, 37, [])]
/-- WhoKnows$Log.clear()V -/
def mm_c43 : List mm_I := [(0, .aload_n 0, 1, []), (1, .iconst 0, 2, []), (2, .putfield 24, 5, [0, 6, 4, 789]), (5, .iconst 0, 6, []), (6, .istore_n 1, 7, []), (7, .iload_n 1, 8, []), (8, .bipush 7, 10, []), (10, .if_icmp .ge 18, 13, [28]), (13, .aload_n 0, 14, []), (14, .getfield 21, 17, [0, 6, 3, 787]), (17, .iload_n 1, 18, []), (18, .iconst 0, 19, []), (19, .invokestatic 28, 22, [6, 157, 3, 839, 449, 132, 0]), (22, .iinc 1 1, 25, []), (25, .goto (-18), 28, [7]), (28, .return_, 29, [])]
/-- WhoKnows$Log.copyFrom(LWhoKnows$Log;)V -/
def mm_c44 : List mm_I := [(0, .aload_n 1, 1, []), (1, .getfield 9, 4, [0, 6, 0, 784]), (4, .aload_n 0, 5, []), (5, .getfield 9, 8, [0, 6, 0, 784]), (8, .invokestatic 32, 11, [6, 158, 2, 1034, 1019, 132, 0]), (11, .aload_n 1, 12, []), (12, .getfield 15, 15, [0, 6, 1, 785]), (15, .aload_n 0, 16, []), (16, .getfield 15, 19, [0, 6, 1, 785]), (19, .invokestatic 32, 22, [6, 158, 2, 1034, 1019, 132, 0]), (22, .aload_n 1, 23, []), (23, .getfield 18, 26, [0, 6, 2, 786]), (26, .aload_n 0, 27, []), (27, .getfield 18, 30, [0, 6, 2, 786]), (30, .invokestatic 32, 33, [6, 158, 2, 1034, 1019, 132, 0]), (33, .aload_n 1, 34, []), (34, .getfield 21, 37, [0, 6, 3, 787]), (37, .aload_n 0, 38, []), (38, .getfield 21, 41, [0, 6, 3, 787]), (41, .invokestatic 32, 44, [6, 158, 2, 1034, 1019, 132, 0]), (44, .aload_n 0, 45, []), (45, .aload_n 1, 46, []), (46, .getfield 24, 49, [0, 6, 4, 789]), (49, .putfield 24, 52, [0, 6, 4, 789]), (52, .return_, 53, [])]
/-- WhoKnows$Log.add(IIII)V -/
def mm_c45 : List mm_I := [(0, .aload_n 0, 1, []), (1, .getfield 9, 4, [0, 6, 0, 784]), (4, .iload_n 1, 5, []), (5, .invokestatic 36, 8, [1, 47, 2, 1048, 1049, 150]), (8, .aload_n 0, 9, []), (9, .getfield 15, 12, [0, 6, 1, 785]), (12, .iload_n 2, 13, []), (13, .invokestatic 36, 16, [1, 47, 2, 1048, 1049, 150]), (16, .aload_n 0, 17, []), (17, .getfield 18, 20, [0, 6, 2, 786]), (20, .iload_n 3, 21, []), (21, .invokestatic 36, 24, [1, 47, 2, 1048, 1049, 150]), (24, .aload_n 0, 25, []), (25, .aload_n 0, 26, []), (26, .getfield 24, 29, [0, 6, 4, 789]), (29, .iconst 1, 30, []), (30, .iadd, 31, []), (31, .bipush 20, 33, []), (33, .invokestatic 40, 36, [12, 1051]), (36, .putfield 24, 39, [0, 6, 4, 789]), (39, .aload_n 0, 40, []), (40, .getfield 21, 43, [0, 6, 3, 787]), (43, .iload_n 1, 44, []), (44, .aload_n 0, 45, []), (45, .getfield 21, 48, [0, 6, 3, 787]), (48, .iload_n 1, 49, []), (49, .invokestatic 46, 52, [6, 156, 2, 1052, 568, 132, 0]), (52, .iconst 1, 53, []), (53, .iadd, 54, []), (54, .invokestatic 28, 57, [6, 157, 3, 839, 449, 132, 0]), (57, .aload_n 0, 58, []), (58, .getfield 21, 61, [0, 6, 3, 787]), (61, .iconst 5, 62, []), (62, .aload_n 0, 63, []), (63, .getfield 21, 66, [0, 6, 3, 787]), (66, .iconst 5, 67, []), (67, .invokestatic 46, 70, [6, 156, 2, 1052, 568, 132, 0]), (70, .iload_n 3, 71, []), (71, .invokestatic 50, 74, [1, 360, 1, 1053, 962, 157]), (74, .iadd, 75, []), (75, .invokestatic 28, 78, [6, 157, 3, 839, 449, 132, 0]), (78, .aload_n 0, 79, []), (79, .getfield 21, 82, [0, 6, 3, 787]), (82, .bipush 6, 84, []), (84, .aload_n 0, 85, []), (85, .getfield 21, 88, [0, 6, 3, 787]), (88, .bipush 6, 90, []), (90, .invokestatic 46, 93, [6, 156, 2, 1052, 568, 132, 0]), (93, .iload 4, 95, []), (95, .iadd, 96, []), (96, .invokestatic 28, 99, [6, 157, 3, 839, 449, 132, 0]), (99, .return_, 100, [])]
/-- WhoKnows$Log.numberOf(II)I -/
def mm_c46 : List mm_I := [(0, .iload_n 1, 1, []), (1, .ifCond .lt 11, 4, [12]), (4, .iload_n 1, 5, []), (5, .aload_n 0, 6, []), (6, .getfield 24, 9, [0, 6, 4, 789]), (9, .if_icmp .lt 5, 12, [14]), (12, .iconst (-1), 13, []), (13, .ireturn, 14, []), (14, .iload_n 2, 15, []), (15, .ifCond .ne 10, 18, [25]), (18, .aload_n 0, 19, []), (19, .getfield 9, 22, [0, 6, 0, 784]), (22, .goto 19, 25, [41]), (25, .iload_n 2, 26, []), (26, .iconst 1, 27, []), (27, .if_icmp .ne 10, 30, [37]), (30, .aload_n 0, 31, []), (31, .getfield 15, 34, [0, 6, 1, 785]), (34, .goto 7, 37, [41]), (37, .aload_n 0, 38, []), (38, .getfield 18, 41, [0, 6, 2, 786]), (41, .iload_n 1, 42, []), (42, .invokestatic 46, 45, [6, 156, 2, 1052, 568, 132, 0]), (45, .ireturn, 46, [])]
/-- WhoKnows$Log.pushAhead([II)V -/
def mm_c47 : List mm_I := [(0, .aload_n 0, 1, []), (1, .arraylength, 2, []), (2, .iconst 1, 3, []), (3, .isub, 4, []), (4, .istore_n 2, 5, []), (5, .iload_n 2, 6, []), (6, .ifCond .le 17, 9, [23]), (9, .aload_n 0, 10, []), (10, .iload_n 2, 11, []), (11, .aload_n 0, 12, []), (12, .iload_n 2, 13, []), (13, .iconst 1, 14, []), (14, .isub, 15, []), (15, .iaload, 16, []), (16, .iastore, 17, []), (17, .iinc 2 (-1), 20, []), (20, .goto (-15), 23, [5]), (23, .aload_n 0, 24, []), (24, .iconst 0, 25, []), (25, .iload_n 1, 26, []), (26, .invokestatic 28, 29, [6, 157, 3, 839, 449, 132, 0]), (29, .return_, 30, [])]
/-- WhoKnows$Names.<init>(I)V -/
def mm_c48 : List mm_I := [(0, .aload_n 0, 1, []), (1, .invokespecial 3, 4, [9, 466]), (4, .aload_n 0, 5, []), (5, .iload_n 1, 6, []), (6, .iconst 0, 7, []), (7, .invokestatic 9, 10, [11, 467]), (10, .newarray .int, 12, [0]), (12, .putfield 15, 15, [0, 7, 0, 470]), (15, .return_, 16, [])]
/-- WhoKnows$Names.isFull()Z -/
def mm_c49 : List mm_I := [(0, .aload_n 0, 1, []), (1, .getfield 21, 4, [0, 7, 1, 471]), (4, .aload_n 0, 5, []), (5, .getfield 15, 8, [0, 7, 0, 470]), (8, .arraylength, 9, []), (9, .if_icmp .lt 7, 12, [16]), (12, .iconst 1, 13, []), (13, .goto 4, 16, [17]), (16, .iconst 0, 17, []), (17, .ireturn, 18, [])]
/-- WhoKnows$Names.add(I)V -/
def mm_c50 : List mm_I := [(0, .aload_n 0, 1, []), (1, .getfield 15, 4, [0, 7, 0, 470]), (4, .aload_n 0, 5, []), (5, .getfield 21, 8, [0, 7, 1, 471]), (8, .iload_n 1, 9, []), (9, .invokestatic 25, 12, [6, 157, 3, 607, 449, 132, 0]), (12, .aload_n 0, 13, []), (13, .dup, 14, []), (14, .getfield 21, 17, [0, 7, 1, 471]), (17, .iconst 1, 18, []), (18, .iadd, 19, []), (19, .putfield 21, 22, [0, 7, 1, 471]), (22, .return_, 23, [])]
/-- WhoKnows$Names.find(I)I -/
def mm_c51 : List mm_I := [(0, .iconst 0, 1, []), (1, .istore_n 2, 2, []), (2, .iload_n 2, 3, []), (3, .aload_n 0, 4, []), (4, .getfield 21, 7, [0, 7, 1, 471]), (7, .if_icmp .ge 30, 10, [37]), (10, .iload_n 2, 11, []), (11, .aload_n 0, 12, []), (12, .getfield 15, 15, [0, 7, 0, 470]), (15, .arraylength, 16, []), (16, .if_icmp .ge 21, 19, [37]), (19, .aload_n 0, 20, []), (20, .getfield 15, 23, [0, 7, 0, 470]), (23, .iload_n 2, 24, []), (24, .iaload, 25, []), (25, .iload_n 1, 26, []), (26, .if_icmp .ne 5, 29, [31]), (29, .iload_n 2, 30, []), (30, .ireturn, 31, []), (31, .iinc 2 1, 34, []), (34, .goto (-32), 37, [2]), (37, .iconst (-1), 38, []), (38, .ireturn, 39, [])]
/-- WhoKnows$Names.letterOf(II)I -/
def mm_c52 : List mm_I := [(0, .iload_n 2, 1, []), (1, .ifCond .lt 9, 4, [10]), (4, .iload_n 2, 5, []), (5, .bipush 6, 7, []), (7, .if_icmp .lt 5, 10, [12]), (10, .iconst (-1), 11, []), (11, .ireturn, 12, []), (12, .aload_n 0, 13, []), (13, .getfield 15, 16, [0, 7, 0, 470]), (16, .iload_n 1, 17, []), (17, .invokestatic 29, 20, [6, 156, 2, 1395, 568, 132, 0]), (20, .iconst 5, 21, []), (21, .iload_n 2, 22, []), (22, .imul, 23, []), (23, .iushr, 24, []), (24, .bipush 31, 26, []), (26, .iand, 27, []), (27, .istore_n 3, 28, []), (28, .iload_n 3, 29, []), (29, .ifCond .ne 7, 32, [36]), (32, .iconst (-1), 33, []), (33, .goto 7, 36, [40]), (36, .iload_n 3, 37, []), (37, .bipush 96, 39, []), (39, .iadd, 40, []), (40, .ireturn, 41, [])]
/-- WhoKnows$Names.writeTo(Ljava/lang/StringBuilder;I)V -/
def mm_c53 : List mm_I := [(0, .iconst 0, 1, []), (1, .istore_n 3, 2, []), (2, .iload_n 3, 3, []), (3, .bipush 6, 5, []), (5, .if_icmp .ge 31, 8, [36]), (8, .aload_n 0, 9, []), (9, .iload_n 2, 10, []), (10, .iload_n 3, 11, []), (11, .invokevirtual 33, 14, [0, 52, 3, 7, 1391, 1392, 1393, 148]), (14, .iconst (-1), 15, []), (15, .if_icmp .eq 21, 18, [36]), (18, .aload_n 1, 19, []), (19, .aload_n 0, 20, []), (20, .iload_n 2, 21, []), (21, .iload_n 3, 22, []), (22, .invokevirtual 33, 25, [0, 52, 3, 7, 1391, 1392, 1393, 148]), (25, .i2c, 26, []), (26, .invokevirtual 36, 29, [0, 373, 2, 1, 1396, 1397, 1398, 141]), (29, .pop, 30, []), (30, .iinc 3 1, 33, []), (33, .goto (-31), 36, [2]), (36, .return_, 37, [])]
/-- WhoKnows$Order.<init>()V -/
def mm_c54 : List mm_I := [(0, .aload_n 0, 1, []), (1, .invokespecial 1, 4, [9, 321]), (4, .aload_n 0, 5, []), (5, .new 7, 8, [0, 3, 322, 246, 135]), (8, .dup, 9, []), (9, .invokespecial 9, 12, [7, 7, 1, 323, 248, 135, 0]), (12, .putfield 10, 15, [0, 8, 0, 324]), (15, .return_, 16, [])]
/-- WhoKnows$OrderReader.<init>(LWhoKnows$Source;LWhoKnows$FormulaReader;)V -/
def mm_c55 : List mm_I := [(0, .aload_n 0, 1, []), (1, .invokespecial 3, 4, [9, 314]), (4, .aload_n 0, 5, []), (5, .bipush 20, 7, []), (7, .anewarray 9, 10, [4, 8, 315]), (10, .putfield 11, 13, [0, 9, 2, 348]), (13, .aload_n 0, 14, []), (14, .aload_n 1, 15, []), (15, .putfield 17, 18, [0, 9, 0, 346]), (18, .aload_n 0, 19, []), (19, .aload_n 2, 20, []), (20, .putfield 21, 23, [0, 9, 1, 347]), (23, .iconst 0, 24, []), (24, .istore_n 3, 25, []), (25, .iload_n 3, 26, []), (26, .aload_n 0, 27, []), (27, .getfield 11, 30, [0, 9, 2, 348]), (30, .arraylength, 31, []), (31, .if_icmp .ge 22, 34, [53]), (34, .aload_n 0, 35, []), (35, .getfield 11, 38, [0, 9, 2, 348]), (38, .iload_n 3, 39, []), (39, .new 9, 42, [0, 8, 315, 317, 139]), (42, .dup, 43, []), (43, .invokespecial 25, 46, [7, 54, 1, 318, 319, 139, 0]), (46, .aastore, 47, []), (47, .iinc 3 1, 50, []), (50, .goto (-25), 53, [25]), (53, .return_, 54, [])]
/-- WhoKnows$OrderReader.orderAt(I)LWhoKnows$Order; -/
def mm_c56 : List mm_I := [(0, .iload_n 1, 1, []), (1, .ifCond .lt 29, 4, [30]), (4, .iload_n 1, 5, []), (5, .aload_n 0, 6, []), (6, .getfield 26, 9, [0, 9, 3, 349]), (9, .if_icmp .ge 21, 12, [30]), (12, .iload_n 1, 13, []), (13, .aload_n 0, 14, []), (14, .getfield 11, 17, [0, 9, 2, 348]), (17, .arraylength, 18, []), (18, .if_icmp .ge 12, 21, [30]), (21, .aload_n 0, 22, []), (22, .getfield 11, 25, [0, 9, 2, 348]), (25, .iload_n 1, 26, []), (26, .aaload, 27, []), (27, .goto 4, 30, [31]), (30, .aconst_null, 31, []), (31, .areturn, 32, [])]
/-- WhoKnows$OrderReader.read(LWhoKnows$Scene;)V -/
def mm_c57 : List mm_I := [(0, .aload_n 0, 1, []), (1, .iconst 0, 2, []), (2, .putfield 26, 5, [0, 9, 3, 349]), (5, .aload_n 0, 6, []), (6, .getfield 17, 9, [0, 9, 0, 346]), (9, .invokevirtual 30, 12, [0, 65, 1, 11, 1507, 521, 522, 133]), (12, .iconst 0, 13, []), (13, .istore_n 2, 14, []), (14, .iload_n 2, 15, []), (15, .bipush 20, 17, []), (17, .if_icmp .gt 57, 20, [74]), (20, .aload_n 0, 21, []), (21, .getfield 17, 24, [0, 9, 0, 346]), (24, .getfield 35, 27, [1, 11, 7, 188, 0]), (27, .sipush 267, 30, []), (30, .if_icmp .eq 44, 33, [74]), (33, .aload_n 0, 34, []), (34, .getfield 17, 37, [0, 9, 0, 346]), (37, .invokevirtual 38, 40, [0, 76, 1, 11, 1508, 610, 611, 133]), (40, .ifCond .ne 34, 43, [74]), (43, .aload_n 0, 44, []), (44, .invokevirtual 42, 47, [0, 58, 1, 9, 1509, 1511, 35, 138]), (47, .astore_n 3, 48, []), (48, .aload_n 3, 49, []), (49, .ifnull 19, 52, [68]), (52, .aload_n 0, 53, []), (53, .aload_n 1, 54, []), (54, .aload_n 3, 55, []), (55, .invokevirtual 46, 58, [0, 59, 3, 9, 1528, 1530, 36, 138]), (58, .aload_n 0, 59, []), (59, .getfield 17, 62, [0, 9, 0, 346]), (62, .bipush 59, 64, []), (64, .invokevirtual 50, 67, [0, 80, 2, 11, 1538, 621, 622, 133]), (67, .pop, 68, []), (68, .iinc 2 1, 71, []), (71, .goto (-57), 74, [14]), (74, .return_, 75, [])]
/-- WhoKnows$OrderReader.openOrder()LWhoKnows$Order; -/
def mm_c58 : List mm_I := [(0, .iconst 0, 1, []), (1, .istore_n 1, 2, []), (2, .iload_n 1, 3, []), (3, .iconst 4, 4, []), (4, .if_icmp .gt 23, 7, [27]), (7, .aload_n 0, 8, []), (8, .getfield 17, 11, [0, 9, 0, 346]), (11, .iload_n 1, 12, []), (12, .invokestatic 54, 15, [6, 168, 1, 1513, 1514, 132, 0]), (15, .invokevirtual 58, 18, [0, 77, 2, 11, 1521, 580, 581, 133]), (18, .ifCond .ne 9, 21, [27]), (21, .iinc 1 1, 24, []), (24, .goto (-22), 27, [2]), (27, .iload_n 1, 28, []), (28, .iconst 4, 29, []), (29, .if_icmp .le 20, 32, [49]), (32, .aload_n 0, 33, []), (33, .getfield 17, 36, [0, 9, 0, 346]), (36, .iconst 1, 37, []), (37, .aload_n 0, 38, []), (38, .getfield 17, 41, [0, 9, 0, 346]), (41, .getfield 62, 44, [1, 11, 8, 192, 0]), (44, .invokevirtual 65, 47, [0, 75, 3, 11, 1522, 584, 585, 133]), (47, .aconst_null, 48, []), (48, .areturn, 49, []), (49, .aload_n 0, 50, []), (50, .getfield 26, 53, [0, 9, 3, 349]), (53, .bipush 20, 55, []), (55, .if_icmp .lt 20, 58, [75]), (58, .aload_n 0, 59, []), (59, .getfield 17, 62, [0, 9, 0, 346]), (62, .iconst 3, 63, []), (63, .aload_n 0, 64, []), (64, .getfield 17, 67, [0, 9, 0, 346]), (67, .getfield 62, 70, [1, 11, 8, 192, 0]), (70, .invokevirtual 65, 73, [0, 75, 3, 11, 1522, 584, 585, 133]), (73, .aconst_null, 74, []), (74, .areturn, 75, []), (75, .aload_n 0, 76, []), (76, .getfield 17, 79, [0, 9, 0, 346]), (79, .invokevirtual 69, 82, [0, 74, 1, 11, 1523, 564, 565, 133]), (82, .aload_n 0, 83, []), (83, .dup, 84, []), (84, .getfield 26, 87, [0, 9, 3, 349]), (87, .iconst 1, 88, []), (88, .iadd, 89, []), (89, .putfield 26, 92, [0, 9, 3, 349]), (92, .aload_n 0, 93, []), (93, .aload_n 0, 94, []), (94, .getfield 26, 97, [0, 9, 3, 349]), (97, .iconst 1, 98, []), (98, .isub, 99, []), (99, .invokevirtual 72, 102, [0, 56, 2, 9, 1524, 1525, 1526, 138]), (102, .astore_n 2, 103, []), (103, .aload_n 2, 104, []), (104, .ifnull 8, 107, [112]), (107, .aload_n 2, 108, []), (108, .iload_n 1, 109, []), (109, .putfield 76, 112, [1, 8, 1, 327, 0]), (112, .aload_n 2, 113, []), (113, .areturn, 114, [])]
/-- WhoKnows$OrderReader.readParts(LWhoKnows$Scene;LWhoKnows$Order;)V -/
def mm_c59 : List mm_I := [(0, .aload_n 2, 1, []), (1, .iconst (-1), 2, []), (2, .putfield 79, 5, [1, 8, 2, 329, 0]), (5, .aload_n 2, 6, []), (6, .getfield 76, 9, [1, 8, 1, 327, 0]), (9, .iconst 2, 10, []), (10, .if_icmp .ne 12, 13, [22]), (13, .aload_n 0, 14, []), (14, .aload_n 1, 15, []), (15, .aload_n 2, 16, []), (16, .invokevirtual 82, 19, [0, 60, 3, 9, 1532, 1534, 37, 138]), (19, .goto 45, 22, [64]), (22, .aload_n 2, 23, []), (23, .getfield 76, 26, [1, 8, 1, 327, 0]), (26, .iconst 1, 27, []), (27, .if_icmp .eq 11, 30, [38]), (30, .aload_n 2, 31, []), (31, .getfield 76, 34, [1, 8, 1, 327, 0]), (34, .iconst 3, 35, []), (35, .if_icmp .ne 29, 38, [64]), (38, .aload_n 2, 39, []), (39, .aload_n 0, 40, []), (40, .getfield 17, 43, [0, 9, 0, 346]), (43, .aload_n 1, 44, []), (44, .getfield 85, 47, [1, 10, 1, 491, 0]), (47, .invokevirtual 91, 50, [0, 84, 2, 11, 1539, 667, 668, 133]), (50, .putfield 79, 53, [1, 8, 2, 329, 0]), (53, .aload_n 2, 54, []), (54, .aload_n 2, 55, []), (55, .getfield 79, 58, [1, 8, 2, 329, 0]), (58, .invokestatic 95, 61, [6, 160, 1, 1540, 722, 132, 0]), (61, .putfield 99, 64, [1, 8, 3, 331, 0]), (64, .aload_n 0, 65, []), (65, .getfield 17, 68, [0, 9, 0, 346]), (68, .invokevirtual 38, 71, [0, 76, 1, 11, 1508, 610, 611, 133]), (71, .ifCond .eq 4, 74, [75]), (74, .return_, 75, []), (75, .aload_n 2, 76, []), (76, .getfield 76, 79, [1, 8, 1, 327, 0]), (79, .iconst 3, 80, []), (80, .if_icmp .eq 11, 83, [91]), (83, .aload_n 2, 84, []), (84, .getfield 76, 87, [1, 8, 1, 327, 0]), (87, .iconst 4, 88, []), (88, .if_icmp .ne 21, 91, [109]), (91, .aload_n 2, 92, []), (92, .aload_n 0, 93, []), (93, .getfield 17, 96, [0, 9, 0, 346]), (96, .aload_n 1, 97, []), (97, .getfield 101, 100, [1, 10, 0, 484, 0]), (100, .invokevirtual 91, 103, [0, 84, 2, 11, 1539, 667, 668, 133]), (103, .putfield 104, 106, [1, 8, 4, 333, 0]), (106, .goto 16, 109, [122]), (109, .aload_n 0, 110, []), (110, .getfield 21, 113, [0, 9, 1, 347]), (113, .aload_n 1, 114, []), (114, .iconst 0, 115, []), (115, .aload_n 2, 116, []), (116, .getfield 107, 119, [1, 8, 0, 325, 0]), (119, .invokevirtual 111, 122, [0, 17, 4, 4, 1541, 633, 634, 136]), (122, .return_, 123, [])]
/-- WhoKnows$OrderReader.readHearers(LWhoKnows$Scene;LWhoKnows$Order;)V -/
def mm_c60 : List mm_I := [(0, .aload_n 0, 1, []), (1, .getfield 17, 4, [0, 9, 0, 346]), (4, .invokevirtual 117, 7, [0, 78, 1, 11, 1536, 592, 593, 133]), (7, .ifCond .ne 19, 10, [26]), (10, .aload_n 0, 11, []), (11, .getfield 17, 14, [0, 9, 0, 346]), (14, .iconst 1, 15, []), (15, .aload_n 0, 16, []), (16, .getfield 17, 19, [0, 9, 0, 346]), (19, .getfield 62, 22, [1, 11, 8, 192, 0]), (22, .invokevirtual 65, 25, [0, 75, 3, 11, 1522, 584, 585, 133]), (25, .return_, 26, []), (26, .aload_n 2, 27, []), (27, .aload_n 0, 28, []), (28, .getfield 17, 31, [0, 9, 0, 346]), (31, .aload_n 1, 32, []), (32, .getfield 85, 35, [1, 10, 1, 491, 0]), (35, .invokevirtual 120, 38, [0, 85, 2, 11, 1537, 743, 744, 133]), (38, .putfield 99, 41, [1, 8, 3, 331, 0]), (41, .aload_n 0, 42, []), (42, .getfield 17, 45, [0, 9, 0, 346]), (45, .sipush 265, 48, []), (48, .invokevirtual 50, 51, [0, 80, 2, 11, 1538, 621, 622, 133]), (51, .pop, 52, []), (52, .return_, 53, [])]
/-- WhoKnows$Scene.<init>()V -/
def mm_c61 : List mm_I := [(0, .aload_n 0, 1, []), (1, .invokespecial 3, 4, [9, 460]), (4, .aload_n 0, 5, []), (5, .new 9, 8, [0, 7, 461, 462, 148]), (8, .dup, 9, []), (9, .iconst 5, 10, []), (10, .invokespecial 11, 13, [2, 48, 2, 463, 464, 148]), (13, .putfield 14, 16, [0, 10, 0, 481]), (16, .aload_n 0, 17, []), (17, .new 9, 20, [0, 7, 461, 462, 148]), (20, .dup, 21, []), (21, .iconst 5, 22, []), (22, .invokespecial 11, 25, [2, 48, 2, 463, 464, 148]), (25, .putfield 20, 28, [0, 10, 1, 487]), (28, .aload_n 0, 29, []), (29, .iconst 5, 30, []), (30, .newarray .int, 32, [0]), (32, .putfield 23, 35, [0, 10, 2, 494]), (35, .aload_n 0, 36, []), (36, .iconst (-1), 37, []), (37, .putfield 27, 40, [0, 10, 5, 503]), (40, .return_, 41, [])]
/-- WhoKnows$Source.<init>()V -/
def mm_c62 : List mm_I := [(0, .aload_n 0, 1, []), (1, .invokespecial 3, 4, [9, 177]), (4, .aload_n 0, 5, []), (5, .sipush 600, 8, []), (8, .newarray .int, 10, [0]), (10, .putfield 9, 13, [0, 11, 0, 178]), (13, .aload_n 0, 14, []), (14, .sipush 601, 17, []), (17, .newarray .int, 19, [0]), (19, .putfield 15, 22, [0, 11, 1, 179]), (22, .aload_n 0, 23, []), (23, .sipush 601, 26, []), (26, .newarray .int, 28, [0]), (28, .putfield 18, 31, [0, 11, 2, 180]), (31, .aload_n 0, 32, []), (32, .sipush 601, 35, []), (35, .newarray .int, 37, [0]), (37, .putfield 21, 40, [0, 11, 3, 181]), (40, .aload_n 0, 41, []), (41, .iconst (-1), 42, []), (42, .putfield 24, 45, [0, 11, 11, 197]), (45, .return_, 46, [])]
/-- WhoKnows$Source.fill(Ljava/lang/String;)V -/
def mm_c63 : List mm_I := [(0, .aload_n 0, 1, []), (1, .aload_n 1, 2, []), (2, .invokevirtual 28, 5, [0, 362, 1, 0, 398, 399, 400, 142]), (5, .aload_n 0, 6, []), (6, .getfield 9, 9, [0, 11, 0, 178]), (9, .arraylength, 10, []), (10, .invokestatic 34, 13, [12, 407]), (13, .putfield 40, 16, [0, 11, 4, 183]), (16, .iconst 0, 17, []), (17, .istore_n 2, 18, []), (18, .iload_n 2, 19, []), (19, .aload_n 0, 20, []), (20, .getfield 40, 23, [0, 11, 4, 183]), (23, .if_icmp .ge 22, 26, [45]), (26, .aload_n 0, 27, []), (27, .getfield 9, 30, [0, 11, 0, 178]), (30, .iload_n 2, 31, []), (31, .aload_n 1, 32, []), (32, .iload_n 2, 33, []), (33, .invokevirtual 42, 36, [0, 363, 2, 0, 410, 411, 412, 142]), (36, .invokestatic 46, 39, [6, 157, 3, 448, 449, 132, 0]), (39, .iinc 2 1, 42, []), (42, .goto (-24), 45, [18]), (45, .return_, 46, [])]
/-- WhoKnows$Source.addNumber(I)V -/
def mm_c64 : List mm_I := [(0, .bipush 24, 2, []), (2, .istore_n 2, 3, []), (3, .iload_n 2, 4, []), (4, .ifCond .lt 37, 7, [41]), (7, .aload_n 0, 8, []), (8, .getfield 9, 11, [0, 11, 0, 178]), (11, .aload_n 0, 12, []), (12, .getfield 40, 15, [0, 11, 4, 183]), (15, .iload_n 1, 16, []), (16, .iload_n 2, 17, []), (17, .iushr, 18, []), (18, .sipush 255, 21, []), (21, .iand, 22, []), (22, .invokestatic 46, 25, [6, 157, 3, 448, 449, 132, 0]), (25, .aload_n 0, 26, []), (26, .dup, 27, []), (27, .getfield 40, 30, [0, 11, 4, 183]), (30, .iconst 1, 31, []), (31, .iadd, 32, []), (32, .putfield 40, 35, [0, 11, 4, 183]), (35, .iinc 2 (-8), 38, []), (38, .goto (-35), 41, [3]), (41, .return_, 42, [])]
/-- WhoKnows$Source.begin()V -/
def mm_c65 : List mm_I := [(0, .aload_n 0, 1, []), (1, .iconst 0, 2, []), (2, .putfield 50, 5, [0, 11, 10, 195]), (5, .aload_n 0, 6, []), (6, .iconst (-1), 7, []), (7, .putfield 24, 10, [0, 11, 11, 197]), (10, .aload_n 0, 11, []), (11, .iconst 0, 12, []), (12, .putfield 53, 15, [0, 11, 5, 184]), (15, .iconst 0, 16, []), (16, .istore_n 1, 17, []), (17, .iconst 0, 18, []), (18, .istore_n 2, 19, []), (19, .iload_n 2, 20, []), (20, .sipush 600, 23, []), (23, .if_icmp .ge 23, 26, [46]), (26, .iload_n 1, 27, []), (27, .aload_n 0, 28, []), (28, .getfield 40, 31, [0, 11, 4, 183]), (31, .if_icmp .ge 15, 34, [46]), (34, .aload_n 0, 35, []), (35, .iload_n 1, 36, []), (36, .invokevirtual 56, 39, [0, 67, 2, 11, 524, 526, 6, 133]), (39, .istore_n 1, 40, []), (40, .iinc 2 1, 43, []), (43, .goto (-24), 46, [19]), (46, .aload_n 0, 47, []), (47, .sipush 267, 50, []), (50, .aload_n 0, 51, []), (51, .getfield 40, 54, [0, 11, 4, 183]), (54, .iconst 0, 55, []), (55, .invokevirtual 60, 58, [0, 73, 4, 11, 536, 538, 9, 133]), (58, .aload_n 0, 59, []), (59, .iconst (-1), 60, []), (60, .putfield 64, 63, [0, 11, 6, 185]), (63, .aload_n 0, 64, []), (64, .invokevirtual 67, 67, [0, 74, 1, 11, 563, 564, 565, 133]), (67, .return_, 68, [])]
/-- WhoKnows$Source.finish()Z -/
def mm_c66 : List mm_I := [(0, .aload_n 0, 1, []), (1, .iconst 0, 2, []), (2, .putfield 40, 5, [0, 11, 4, 183]), (5, .aload_n 0, 6, []), (6, .getfield 50, 9, [0, 11, 10, 195]), (9, .ifCond .ne 7, 12, [16]), (12, .iconst 1, 13, []), (13, .goto 4, 16, [17]), (16, .iconst 0, 17, []), (17, .ireturn, 18, [])]
/-- WhoKnows$Source.scan(I)I -/
def mm_c67 : List mm_I := [(0, .aload_n 0, 1, []), (1, .iload_n 1, 2, []), (2, .invokevirtual 70, 5, [0, 72, 2, 11, 528, 530, 7, 133]), (5, .bipush 32, 7, []), (7, .if_icmp .ne 7, 10, [14]), (10, .iload_n 1, 11, []), (11, .iconst 1, 12, []), (12, .iadd, 13, []), (13, .ireturn, 14, []), (14, .iconst 0, 15, []), (15, .istore_n 2, 16, []), (16, .iload_n 1, 17, []), (17, .iload_n 2, 18, []), (18, .iadd, 19, []), (19, .aload_n 0, 20, []), (20, .getfield 40, 23, [0, 11, 4, 183]), (23, .if_icmp .ge 19, 26, [42]), (26, .aload_n 0, 27, []), (27, .iload_n 1, 28, []), (28, .iload_n 2, 29, []), (29, .iadd, 30, []), (30, .invokevirtual 73, 33, [0, 71, 2, 11, 532, 534, 8, 133]), (33, .ifCond .eq 9, 36, [42]), (36, .iinc 2 1, 39, []), (39, .goto (-23), 42, [16]), (42, .iload_n 2, 43, []), (43, .ifCond .ne 18, 46, [61]), (46, .aload_n 0, 47, []), (47, .aload_n 0, 48, []), (48, .iload_n 1, 49, []), (49, .invokevirtual 70, 52, [0, 72, 2, 11, 528, 530, 7, 133]), (52, .iload_n 1, 53, []), (53, .iconst 0, 54, []), (54, .invokevirtual 60, 57, [0, 73, 4, 11, 536, 538, 9, 133]), (57, .iload_n 1, 58, []), (58, .iconst 1, 59, []), (59, .iadd, 60, []), (60, .ireturn, 61, []), (61, .iload_n 2, 62, []), (62, .bipush 6, 64, []), (64, .if_icmp .le 9, 67, [73]), (67, .sipush 266, 70, []), (70, .goto 8, 73, [78]), (73, .aload_n 0, 74, []), (74, .iload_n 1, 75, []), (75, .invokevirtual 77, 78, [0, 68, 2, 11, 540, 542, 10, 133]), (78, .istore_n 3, 79, []), (79, .aload_n 0, 80, []), (80, .iload_n 3, 81, []), (81, .iload_n 1, 82, []), (82, .iload_n 3, 83, []), (83, .sipush 256, 86, []), (86, .if_icmp .ne 11, 89, [97]), (89, .aload_n 0, 90, []), (90, .iload_n 1, 91, []), (91, .invokevirtual 80, 94, [0, 69, 2, 11, 559, 561, 12, 133]), (94, .goto 4, 97, [98]), (97, .iconst 0, 98, []), (98, .invokevirtual 60, 101, [0, 73, 4, 11, 536, 538, 9, 133]), (101, .iload_n 1, 102, []), (102, .iload_n 2, 103, []), (103, .iadd, 104, []), (104, .ireturn, 105, [])]
/-- WhoKnows$Source.kindOfWord(I)I -/
def mm_c68 : List mm_I := [(0, .iconst 1, 1, []), (1, .istore_n 2, 2, []), (2, .iload_n 2, 3, []), (3, .bipush 7, 5, []), (5, .if_icmp .gt 27, 8, [32]), (8, .aload_n 0, 9, []), (9, .iload_n 1, 10, []), (10, .iload_n 2, 11, []), (11, .invokestatic 83, 14, [6, 167, 1, 544, 545, 132, 0]), (14, .invokevirtual 87, 17, [0, 70, 3, 11, 554, 556, 11, 133]), (17, .ifCond .eq 9, 20, [26]), (20, .sipush 256, 23, []), (23, .iload_n 2, 24, []), (24, .iadd, 25, []), (25, .ireturn, 26, []), (26, .iinc 2 1, 29, []), (29, .goto (-27), 32, [2]), (32, .aload_n 0, 33, []), (33, .iload_n 1, 34, []), (34, .ldc 91, 36, [1, 20, 558]), (36, .invokevirtual 87, 39, [0, 70, 3, 11, 554, 556, 11, 133]), (39, .ifCond .eq 9, 42, [48]), (42, .sipush 265, 45, []), (45, .goto 6, 48, [51]), (48, .sipush 256, 51, []), (51, .ireturn, 52, [])]
/-- WhoKnows$Source.nameAt(I)I -/
def mm_c69 : List mm_I := [(0, .iconst 0, 1, []), (1, .istore_n 2, 2, []), (2, .iconst 0, 3, []), (3, .istore_n 3, 4, []), (4, .iload_n 3, 5, []), (5, .bipush 6, 7, []), (7, .if_icmp .ge 36, 10, [43]), (10, .aload_n 0, 11, []), (11, .iload_n 1, 12, []), (12, .iload_n 3, 13, []), (13, .iadd, 14, []), (14, .invokevirtual 73, 17, [0, 71, 2, 11, 532, 534, 8, 133]), (17, .ifCond .eq 26, 20, [43]), (20, .iload_n 2, 21, []), (21, .aload_n 0, 22, []), (22, .iload_n 1, 23, []), (23, .iload_n 3, 24, []), (24, .iadd, 25, []), (25, .invokevirtual 70, 28, [0, 72, 2, 11, 528, 530, 7, 133]), (28, .bipush 96, 30, []), (30, .isub, 31, []), (31, .iconst 5, 32, []), (32, .iload_n 3, 33, []), (33, .imul, 34, []), (34, .ishl, 35, []), (35, .ior, 36, []), (36, .istore_n 2, 37, []), (37, .iinc 3 1, 40, []), (40, .goto (-36), 43, [4]), (43, .iload_n 2, 44, []), (44, .ireturn, 45, [])]
/-- WhoKnows$Source.spells(ILjava/lang/String;)Z -/
def mm_c70 : List mm_I := [(0, .iconst 0, 1, []), (1, .istore_n 3, 2, []), (2, .iload_n 3, 3, []), (3, .aload_n 2, 4, []), (4, .invokevirtual 28, 7, [0, 362, 1, 0, 398, 399, 400, 142]), (7, .if_icmp .ge 26, 10, [33]), (10, .aload_n 0, 11, []), (11, .iload_n 1, 12, []), (12, .iload_n 3, 13, []), (13, .iadd, 14, []), (14, .invokevirtual 70, 17, [0, 72, 2, 11, 528, 530, 7, 133]), (17, .aload_n 2, 18, []), (18, .iload_n 3, 19, []), (19, .invokevirtual 42, 22, [0, 363, 2, 0, 410, 411, 412, 142]), (22, .if_icmp .eq 5, 25, [27]), (25, .iconst 0, 26, []), (26, .ireturn, 27, []), (27, .iinc 3 1, 30, []), (30, .goto (-28), 33, [2]), (33, .aload_n 0, 34, []), (34, .iload_n 1, 35, []), (35, .aload_n 2, 36, []), (36, .invokevirtual 28, 39, [0, 362, 1, 0, 398, 399, 400, 142]), (39, .iadd, 40, []), (40, .invokevirtual 73, 43, [0, 71, 2, 11, 532, 534, 8, 133]), (43, .ifCond .ne 7, 46, [50]), (46, .iconst 1, 47, []), (47, .goto 4, 50, [51]), (50, .iconst 0, 51, []), (51, .ireturn, 52, [])]
/-- WhoKnows$Source.isLetter(I)Z -/
def mm_c71 : List mm_I := [(0, .aload_n 0, 1, []), (1, .iload_n 1, 2, []), (2, .invokevirtual 70, 5, [0, 72, 2, 11, 528, 530, 7, 133]), (5, .bipush 97, 7, []), (7, .if_icmp .lt 17, 10, [24]), (10, .aload_n 0, 11, []), (11, .iload_n 1, 12, []), (12, .invokevirtual 70, 15, [0, 72, 2, 11, 528, 530, 7, 133]), (15, .bipush 122, 17, []), (17, .if_icmp .gt 7, 20, [24]), (20, .iconst 1, 21, []), (21, .goto 4, 24, [25]), (24, .iconst 0, 25, []), (25, .ireturn, 26, [])]
/-- WhoKnows$Source.byteAt(I)I -/
def mm_c72 : List mm_I := [(0, .iload_n 1, 1, []), (1, .ifCond .lt 29, 4, [30]), (4, .iload_n 1, 5, []), (5, .aload_n 0, 6, []), (6, .getfield 40, 9, [0, 11, 4, 183]), (9, .if_icmp .ge 21, 12, [30]), (12, .iload_n 1, 13, []), (13, .aload_n 0, 14, []), (14, .getfield 9, 17, [0, 11, 0, 178]), (17, .arraylength, 18, []), (18, .if_icmp .ge 12, 21, [30]), (21, .aload_n 0, 22, []), (22, .getfield 9, 25, [0, 11, 0, 178]), (25, .iload_n 1, 26, []), (26, .iaload, 27, []), (27, .goto 4, 30, [31]), (30, .iconst (-1), 31, []), (31, .ireturn, 32, [])]
/-- WhoKnows$Source.addToken(III)V -/
def mm_c73 : List mm_I := [(0, .aload_n 0, 1, []), (1, .getfield 15, 4, [0, 11, 1, 179]), (4, .aload_n 0, 5, []), (5, .getfield 53, 8, [0, 11, 5, 184]), (8, .iload_n 1, 9, []), (9, .invokestatic 46, 12, [6, 157, 3, 448, 449, 132, 0]), (12, .aload_n 0, 13, []), (13, .getfield 18, 16, [0, 11, 2, 180]), (16, .aload_n 0, 17, []), (17, .getfield 53, 20, [0, 11, 5, 184]), (20, .iload_n 2, 21, []), (21, .invokestatic 46, 24, [6, 157, 3, 448, 449, 132, 0]), (24, .aload_n 0, 25, []), (25, .getfield 21, 28, [0, 11, 3, 181]), (28, .aload_n 0, 29, []), (29, .getfield 53, 32, [0, 11, 5, 184]), (32, .iload_n 3, 33, []), (33, .invokestatic 46, 36, [6, 157, 3, 448, 449, 132, 0]), (36, .aload_n 0, 37, []), (37, .dup, 38, []), (38, .getfield 53, 41, [0, 11, 5, 184]), (41, .iconst 1, 42, []), (42, .iadd, 43, []), (43, .putfield 53, 46, [0, 11, 5, 184]), (46, .return_, 47, [])]
/-- WhoKnows$Source.advance()V -/
def mm_c74 : List mm_I := [(0, .aload_n 0, 1, []), (1, .aload_n 0, 2, []), (2, .getfield 64, 5, [0, 11, 6, 185]), (5, .iconst 1, 6, []), (6, .iadd, 7, []), (7, .aload_n 0, 8, []), (8, .getfield 53, 11, [0, 11, 5, 184]), (11, .iconst 1, 12, []), (12, .isub, 13, []), (13, .invokestatic 34, 16, [12, 407]), (16, .putfield 64, 19, [0, 11, 6, 185]), (19, .aload_n 0, 20, []), (20, .aload_n 0, 21, []), (21, .getfield 15, 24, [0, 11, 1, 179]), (24, .aload_n 0, 25, []), (25, .getfield 64, 28, [0, 11, 6, 185]), (28, .invokestatic 93, 31, [6, 156, 2, 567, 568, 132, 0]), (31, .putfield 97, 34, [0, 11, 7, 189]), (34, .aload_n 0, 35, []), (35, .aload_n 0, 36, []), (36, .getfield 18, 39, [0, 11, 2, 180]), (39, .aload_n 0, 40, []), (40, .getfield 64, 43, [0, 11, 6, 185]), (43, .invokestatic 93, 46, [6, 156, 2, 567, 568, 132, 0]), (46, .putfield 100, 49, [0, 11, 8, 193]), (49, .aload_n 0, 50, []), (50, .aload_n 0, 51, []), (51, .getfield 21, 54, [0, 11, 3, 181]), (54, .aload_n 0, 55, []), (55, .getfield 64, 58, [0, 11, 6, 185]), (58, .invokestatic 93, 61, [6, 156, 2, 567, 568, 132, 0]), (61, .putfield 103, 64, [0, 11, 9, 194]), (64, .return_, 65, [])]
/-- WhoKnows$Source.fail(II)V -/
def mm_c75 : List mm_I := [(0, .aload_n 0, 1, []), (1, .getfield 50, 4, [0, 11, 10, 195]), (4, .ifCond .ne 13, 7, [17]), (7, .aload_n 0, 8, []), (8, .iload_n 1, 9, []), (9, .putfield 50, 12, [0, 11, 10, 195]), (12, .aload_n 0, 13, []), (13, .iload_n 2, 14, []), (14, .putfield 24, 17, [0, 11, 11, 197]), (17, .return_, 18, [])]
/-- WhoKnows$Source.hasError()Z -/
def mm_c76 : List mm_I := [(0, .aload_n 0, 1, []), (1, .getfield 50, 4, [0, 11, 10, 195]), (4, .ifCond .eq 7, 7, [11]), (7, .iconst 1, 8, []), (8, .goto 4, 11, [12]), (11, .iconst 0, 12, []), (12, .ireturn, 13, [])]
/-- WhoKnows$Source.isWord(Ljava/lang/String;)Z -/
def mm_c77 : List mm_I := [(0, .aload_n 0, 1, []), (1, .aload_n 0, 2, []), (2, .getfield 100, 5, [0, 11, 8, 193]), (5, .aload_n 1, 6, []), (6, .invokevirtual 87, 9, [0, 70, 3, 11, 554, 556, 11, 133]), (9, .ireturn, 10, [])]
/-- WhoKnows$Source.isName()Z -/
def mm_c78 : List mm_I := [(0, .aload_n 0, 1, []), (1, .getfield 97, 4, [0, 11, 7, 189]), (4, .sipush 256, 7, []), (7, .if_icmp .ne 7, 10, [14]), (10, .iconst 1, 11, []), (11, .goto 4, 14, [15]), (14, .iconst 0, 15, []), (15, .ireturn, 16, [])]
/-- WhoKnows$Source.takeWord(Ljava/lang/String;)V -/
def mm_c79 : List mm_I := [(0, .aload_n 0, 1, []), (1, .aload_n 1, 2, []), (2, .invokevirtual 106, 5, [0, 77, 2, 11, 579, 580, 581, 133]), (5, .ifCond .eq 10, 8, [15]), (8, .aload_n 0, 9, []), (9, .invokevirtual 67, 12, [0, 74, 1, 11, 563, 564, 565, 133]), (12, .goto 12, 15, [24]), (15, .aload_n 0, 16, []), (16, .iconst 1, 17, []), (17, .aload_n 0, 18, []), (18, .getfield 100, 21, [0, 11, 8, 193]), (21, .invokevirtual 110, 24, [0, 75, 3, 11, 583, 584, 585, 133]), (24, .return_, 25, [])]
/-- WhoKnows$Source.take(I)Z -/
def mm_c80 : List mm_I := [(0, .aload_n 0, 1, []), (1, .getfield 97, 4, [0, 11, 7, 189]), (4, .iload_n 1, 5, []), (5, .if_icmp .eq 14, 8, [19]), (8, .aload_n 0, 9, []), (9, .iconst 1, 10, []), (10, .aload_n 0, 11, []), (11, .getfield 100, 14, [0, 11, 8, 193]), (14, .invokevirtual 110, 17, [0, 75, 3, 11, 583, 584, 585, 133]), (17, .iconst 0, 18, []), (18, .ireturn, 19, []), (19, .aload_n 0, 20, []), (20, .invokevirtual 67, 23, [0, 74, 1, 11, 563, 564, 565, 133]), (23, .iconst 1, 24, []), (24, .ireturn, 25, [])]
/-- WhoKnows$Source.needEnd()V -/
def mm_c81 : List mm_I := [(0, .aload_n 0, 1, []), (1, .getfield 97, 4, [0, 11, 7, 189]), (4, .sipush 267, 7, []), (7, .if_icmp .eq 12, 10, [19]), (10, .aload_n 0, 11, []), (11, .iconst 1, 12, []), (12, .aload_n 0, 13, []), (13, .getfield 100, 16, [0, 11, 8, 193]), (16, .invokevirtual 110, 19, [0, 75, 3, 11, 583, 584, 585, 133]), (19, .return_, 20, [])]
/-- WhoKnows$Source.takeNew(LWhoKnows$Names;)V -/
def mm_c82 : List mm_I := [(0, .aload_n 0, 1, []), (1, .invokevirtual 114, 4, [0, 78, 1, 11, 591, 592, 593, 133]), (4, .ifCond .ne 15, 7, [19]), (7, .aload_n 0, 8, []), (8, .iconst 1, 9, []), (9, .aload_n 0, 10, []), (10, .getfield 100, 13, [0, 11, 8, 193]), (13, .invokevirtual 110, 16, [0, 75, 3, 11, 583, 584, 585, 133]), (16, .goto 58, 19, [74]), (19, .aload_n 1, 20, []), (20, .aload_n 0, 21, []), (21, .getfield 103, 24, [0, 11, 9, 194]), (24, .invokevirtual 118, 27, [0, 51, 2, 7, 595, 596, 597, 148]), (27, .iconst (-1), 28, []), (28, .if_icmp .eq 15, 31, [43]), (31, .aload_n 0, 32, []), (32, .iconst 2, 33, []), (33, .aload_n 0, 34, []), (34, .getfield 100, 37, [0, 11, 8, 193]), (37, .invokevirtual 110, 40, [0, 75, 3, 11, 583, 584, 585, 133]), (40, .goto 34, 43, [74]), (43, .aload_n 1, 44, []), (44, .invokevirtual 123, 47, [0, 49, 1, 7, 599, 600, 601, 148]), (47, .ifCond .eq 15, 50, [62]), (50, .aload_n 0, 51, []), (51, .iconst 3, 52, []), (52, .aload_n 0, 53, []), (53, .getfield 100, 56, [0, 11, 8, 193]), (56, .invokevirtual 110, 59, [0, 75, 3, 11, 583, 584, 585, 133]), (59, .goto 15, 62, [74]), (62, .aload_n 1, 63, []), (63, .aload_n 0, 64, []), (64, .getfield 103, 67, [0, 11, 9, 194]), (67, .invokevirtual 126, 70, [0, 50, 2, 7, 603, 604, 605, 148]), (70, .aload_n 0, 71, []), (71, .invokevirtual 67, 74, [0, 74, 1, 11, 563, 564, 565, 133]), (74, .return_, 75, [])]
/-- WhoKnows$Source.known(LWhoKnows$Names;)I -/
def mm_c83 : List mm_I := [(0, .aload_n 0, 1, []), (1, .invokevirtual 114, 4, [0, 78, 1, 11, 591, 592, 593, 133]), (4, .ifCond .ne 14, 7, [18]), (7, .aload_n 0, 8, []), (8, .iconst 1, 9, []), (9, .aload_n 0, 10, []), (10, .getfield 100, 13, [0, 11, 8, 193]), (13, .invokevirtual 110, 16, [0, 75, 3, 11, 583, 584, 585, 133]), (16, .iconst (-1), 17, []), (17, .ireturn, 18, []), (18, .aload_n 1, 19, []), (19, .aload_n 0, 20, []), (20, .getfield 103, 23, [0, 11, 9, 194]), (23, .invokevirtual 118, 26, [0, 51, 2, 7, 595, 596, 597, 148]), (26, .istore_n 2, 27, []), (27, .iload_n 2, 28, []), (28, .iconst (-1), 29, []), (29, .if_icmp .ne 12, 32, [41]), (32, .aload_n 0, 33, []), (33, .iconst 2, 34, []), (34, .aload_n 0, 35, []), (35, .getfield 100, 38, [0, 11, 8, 193]), (38, .invokevirtual 110, 41, [0, 75, 3, 11, 583, 584, 585, 133]), (41, .iload_n 2, 42, []), (42, .ireturn, 43, [])]
/-- WhoKnows$Source.takeKnown(LWhoKnows$Names;)I -/
def mm_c84 : List mm_I := [(0, .aload_n 0, 1, []), (1, .aload_n 1, 2, []), (2, .invokevirtual 130, 5, [0, 83, 2, 11, 670, 671, 672, 133]), (5, .istore_n 2, 6, []), (6, .iload_n 2, 7, []), (7, .iconst (-1), 8, []), (8, .if_icmp .eq 7, 11, [15]), (11, .aload_n 0, 12, []), (12, .invokevirtual 67, 15, [0, 74, 1, 11, 563, 564, 565, 133]), (15, .iload_n 2, 16, []), (16, .ireturn, 17, [])]
/-- WhoKnows$Source.takeSet(LWhoKnows$Names;)I -/
def mm_c85 : List mm_I := [(0, .iconst 0, 1, []), (1, .istore_n 2, 2, []), (2, .iconst 0, 3, []), (3, .istore_n 3, 4, []), (4, .iload_n 3, 5, []), (5, .aload_n 1, 6, []), (6, .getfield 134, 9, [1, 7, 1, 475, 0]), (9, .if_icmp .gt 62, 12, [71]), (12, .aload_n 0, 13, []), (13, .invokevirtual 114, 16, [0, 78, 1, 11, 591, 592, 593, 133]), (16, .ifCond .eq 55, 19, [71]), (19, .aload_n 0, 20, []), (20, .aload_n 1, 21, []), (21, .invokevirtual 130, 24, [0, 83, 2, 11, 670, 671, 672, 133]), (24, .istore 4, 26, []), (26, .iload_n 2, 27, []), (27, .iload 4, 29, []), (29, .invokestatic 137, 32, [6, 159, 2, 746, 715, 132, 0]), (32, .ifCond .eq 12, 35, [44]), (35, .aload_n 0, 36, []), (36, .iconst 2, 37, []), (37, .aload_n 0, 38, []), (38, .getfield 100, 41, [0, 11, 8, 193]), (41, .invokevirtual 110, 44, [0, 75, 3, 11, 583, 584, 585, 133]), (44, .aload_n 0, 45, []), (45, .invokevirtual 141, 48, [0, 76, 1, 11, 747, 610, 611, 133]), (48, .ifCond .eq 5, 51, [53]), (51, .iload_n 2, 52, []), (52, .ireturn, 53, []), (53, .iload_n 2, 54, []), (54, .iload 4, 56, []), (56, .invokestatic 144, 59, [6, 160, 1, 748, 722, 132, 0]), (59, .ior, 60, []), (60, .istore_n 2, 61, []), (61, .aload_n 0, 62, []), (62, .invokevirtual 67, 65, [0, 74, 1, 11, 563, 564, 565, 133]), (65, .iinc 3 1, 68, []), (68, .goto (-64), 71, [4]), (71, .iload_n 2, 72, []), (72, .ireturn, 73, [])]
/-- WhoKnows$State.<init>(LWhoKnows$Scene;)V -/
def mm_c86 : List mm_I := [(0, .aload_n 0, 1, []), (1, .invokespecial 3, 4, [9, 773]), (4, .aload_n 0, 5, []), (5, .new 9, 8, [0, 5, 774, 226, 134]), (8, .dup, 9, []), (9, .invokespecial 11, 12, [7, 25, 1, 775, 228, 134, 0]), (12, .putfield 12, 15, [0, 12, 0, 802]), (15, .aload_n 0, 16, []), (16, .new 18, 19, [0, 3, 776, 246, 135]), (19, .dup, 20, []), (20, .invokespecial 20, 23, [7, 7, 1, 777, 248, 135, 0]), (23, .putfield 21, 26, [0, 12, 1, 804]), (26, .aload_n 0, 27, []), (27, .new 25, 30, [0, 6, 778, 779, 150]), (30, .dup, 31, []), (31, .invokespecial 27, 34, [7, 42, 1, 780, 781, 150, 0]), (34, .putfield 28, 37, [0, 12, 2, 806]), (37, .aload_n 0, 38, []), (38, .aload_n 1, 39, []), (39, .putfield 32, 42, [0, 12, 3, 808]), (42, .return_, 43, [])]
/-- WhoKnows$State.begin(LWhoKnows$Scene;)V -/
def mm_c87 : List mm_I := [(0, .aload_n 0, 1, []), (1, .aload_n 1, 2, []), (2, .putfield 32, 5, [0, 12, 3, 808]), (5, .aload_n 0, 6, []), (6, .getfield 12, 9, [0, 12, 0, 802]), (9, .aload_n 1, 10, []), (10, .invokevirtual 36, 13, [0, 26, 2, 5, 823, 824, 825, 134]), (13, .aload_n 0, 14, []), (14, .getfield 21, 17, [0, 12, 1, 804]), (17, .invokevirtual 40, 20, [0, 8, 1, 3, 833, 637, 638, 135]), (20, .aload_n 0, 21, []), (21, .getfield 21, 24, [0, 12, 1, 804]), (24, .iconst 0, 25, []), (25, .iconst 0, 26, []), (26, .invokevirtual 43, 29, [0, 9, 3, 3, 834, 676, 677, 135]), (29, .aload_n 0, 30, []), (30, .getfield 28, 33, [0, 12, 2, 806]), (33, .invokevirtual 47, 36, [0, 43, 1, 6, 835, 836, 837, 150]), (36, .return_, 37, [])]
/-- WhoKnows$State.copyFrom(LWhoKnows$State;)V -/
def mm_c88 : List mm_I := [(0, .aload_n 0, 1, []), (1, .aload_n 1, 2, []), (2, .getfield 32, 5, [0, 12, 3, 808]), (5, .putfield 32, 8, [0, 12, 3, 808]), (8, .aload_n 0, 9, []), (9, .getfield 12, 12, [0, 12, 0, 802]), (12, .aload_n 1, 13, []), (13, .getfield 12, 16, [0, 12, 0, 802]), (16, .invokevirtual 48, 19, [0, 27, 2, 5, 1014, 1015, 1016, 134]), (19, .aload_n 0, 20, []), (20, .getfield 21, 23, [0, 12, 1, 804]), (23, .aload_n 1, 24, []), (24, .getfield 21, 27, [0, 12, 1, 804]), (27, .invokevirtual 52, 30, [0, 10, 2, 3, 1025, 1026, 1027, 135]), (30, .aload_n 0, 31, []), (31, .getfield 28, 34, [0, 12, 2, 806]), (34, .aload_n 1, 35, []), (35, .getfield 28, 38, [0, 12, 2, 806]), (38, .invokevirtual 55, 41, [0, 44, 2, 6, 1030, 1031, 1032, 150]), (41, .return_, 42, [])]
/-- WhoKnows$State.questionTruth()I -/
def mm_c89 : List mm_I := [(0, .aload_n 0, 1, []), (1, .getfield 21, 4, [0, 12, 1, 804]), (4, .aload_n 0, 5, []), (5, .getfield 12, 8, [0, 12, 0, 802]), (8, .invokevirtual 58, 11, [0, 11, 2, 3, 904, 699, 700, 135]), (11, .ireturn, 12, [])]
/-- WhoKnows$State.refusal(II)I -/
def mm_c90 : List mm_I := [(0, .iload_n 2, 1, []), (1, .aload_n 0, 2, []), (2, .getfield 32, 5, [0, 12, 3, 808]), (5, .getfield 62, 8, [1, 10, 5, 505, 0]), (8, .invokestatic 68, 11, [6, 159, 2, 954, 715, 132, 0]), (11, .ifCond .ne 5, 14, [16]), (14, .iconst 1, 15, []), (15, .ireturn, 16, []), (16, .aload_n 0, 17, []), (17, .iload_n 1, 18, []), (18, .iload_n 2, 19, []), (19, .invokevirtual 72, 22, [0, 91, 3, 12, 955, 956, 957, 149]), (22, .aload_n 0, 23, []), (23, .getfield 32, 26, [0, 12, 3, 808]), (26, .getfield 62, 29, [1, 10, 5, 505, 0]), (29, .invokestatic 68, 32, [6, 159, 2, 954, 715, 132, 0]), (32, .ifCond .eq 7, 35, [39]), (35, .iconst 0, 36, []), (36, .goto 4, 39, [40]), (39, .iconst 2, 40, []), (40, .ireturn, 41, [])]
/-- WhoKnows$State.leftAfter(II)I -/
def mm_c91 : List mm_I := [(0, .iload_n 1, 1, []), (1, .iconst (-1), 2, []), (2, .if_icmp .ne 7, 5, [9]), (5, .iload_n 2, 6, []), (6, .goto 12, 9, [18]), (9, .aload_n 0, 10, []), (10, .getfield 12, 13, [0, 12, 0, 802]), (13, .iload_n 1, 14, []), (14, .iload_n 2, 15, []), (15, .invokevirtual 76, 18, [0, 35, 3, 5, 959, 711, 712, 134]), (18, .ireturn, 19, [])]
/-- WhoKnows$State.tell(II)V -/
def mm_c92 : List mm_I := [(0, .aload_n 0, 1, []), (1, .iload_n 1, 2, []), (2, .iconst (-1), 3, []), (3, .if_icmp .ne 7, 6, [10]), (6, .iconst 0, 7, []), (7, .goto 4, 10, [11]), (10, .iconst 1, 11, []), (11, .iload_n 1, 12, []), (12, .invokestatic 79, 15, [6, 160, 1, 1039, 722, 132, 0]), (15, .aload_n 0, 16, []), (16, .iload_n 1, 17, []), (17, .iload_n 2, 18, []), (18, .invokevirtual 72, 21, [0, 91, 3, 12, 955, 956, 957, 149]), (21, .invokevirtual 83, 24, [0, 96, 4, 12, 1040, 1042, 30, 149]), (24, .return_, 25, [])]
/-- WhoKnows$State.tellApart(III)I -/
def mm_c93 : List mm_I := [(0, .aload_n 0, 1, []), (1, .getfield 12, 4, [0, 12, 0, 802]), (4, .iload_n 2, 5, []), (5, .iload_n 3, 6, []), (6, .invokevirtual 87, 9, [0, 41, 3, 5, 1563, 1564, 1565, 134]), (9, .istore 4, 11, []), (11, .aload_n 0, 12, []), (12, .getfield 28, 15, [0, 12, 2, 806]), (15, .iload_n 1, 16, []), (16, .iload_n 2, 17, []), (17, .iconst 0, 18, []), (18, .iload 4, 20, []), (20, .invokevirtual 90, 23, [0, 45, 5, 6, 1044, 1045, 1046, 150]), (23, .iload 4, 25, []), (25, .ireturn, 26, [])]
/-- WhoKnows$State.goRound(I)I -/
def mm_c94 : List mm_I := [(0, .getstatic 93, 3, [1, 4, 1551, 0]), (3, .iload_n 1, 4, []), (4, .invokestatic 97, 7, [6, 156, 2, 1552, 568, 132, 0]), (7, .istore_n 2, 8, []), (8, .aload_n 0, 9, []), (9, .getfield 12, 12, [0, 12, 0, 802]), (12, .aload_n 0, 13, []), (13, .getfield 32, 16, [0, 12, 3, 808]), (16, .getfield 62, 19, [1, 10, 5, 505, 0]), (19, .iload_n 2, 20, []), (20, .invokevirtual 101, 23, [0, 39, 3, 5, 1553, 918, 919, 134]), (23, .istore_n 3, 24, []), (24, .aload_n 0, 25, []), (25, .iconst 4, 26, []), (26, .iconst 0, 27, []), (27, .aload_n 0, 28, []), (28, .getfield 12, 31, [0, 12, 0, 802]), (31, .iload_n 3, 32, []), (32, .iload_n 2, 33, []), (33, .invokevirtual 104, 36, [0, 40, 3, 5, 1554, 1555, 1556, 134]), (36, .invokevirtual 83, 39, [0, 96, 4, 12, 1040, 1042, 30, 149]), (39, .iload_n 3, 40, []), (40, .ireturn, 41, [])]
/-- WhoKnows$State.carryOut(LWhoKnows$Order;)Z -/
def mm_c95 : List mm_I := [(0, .aload_n 1, 1, []), (1, .ifnonnull 5, 4, [6]), (4, .iconst 0, 5, []), (5, .ireturn, 6, []), (6, .aload_n 1, 7, []), (7, .getfield 107, 10, [1, 8, 1, 328, 0]), (10, .iconst 4, 11, []), (11, .if_icmp .ne 14, 14, [25]), (14, .aload_n 0, 15, []), (15, .aload_n 1, 16, []), (16, .getfield 112, 19, [1, 8, 4, 334, 0]), (19, .invokevirtual 115, 22, [0, 94, 2, 12, 1547, 1548, 1549, 149]), (22, .pop, 23, []), (23, .iconst 1, 24, []), (24, .ireturn, 25, []), (25, .aload_n 1, 26, []), (26, .getfield 107, 29, [1, 8, 1, 328, 0]), (29, .iconst 3, 30, []), (30, .if_icmp .ne 25, 33, [55]), (33, .aload_n 0, 34, []), (34, .iconst 3, 35, []), (35, .aload_n 1, 36, []), (36, .getfield 118, 39, [1, 8, 3, 332, 0]), (39, .getstatic 93, 42, [1, 4, 1551, 0]), (42, .aload_n 1, 43, []), (43, .getfield 112, 46, [1, 8, 4, 334, 0]), (46, .invokestatic 97, 49, [6, 156, 2, 1552, 568, 132, 0]), (49, .invokevirtual 121, 52, [0, 93, 4, 12, 1559, 1560, 1561, 149]), (52, .pop, 53, []), (53, .iconst 1, 54, []), (54, .ireturn, 55, []), (55, .aload_n 1, 56, []), (56, .getfield 124, 59, [1, 8, 0, 326, 0]), (59, .aload_n 0, 60, []), (60, .getfield 12, 63, [0, 12, 0, 802]), (63, .invokevirtual 58, 66, [0, 11, 2, 3, 904, 699, 700, 135]), (66, .istore_n 2, 67, []), (67, .aload_n 1, 68, []), (68, .getfield 107, 71, [1, 8, 1, 328, 0]), (71, .iconst 2, 72, []), (72, .if_icmp .ne 16, 75, [88]), (75, .aload_n 0, 76, []), (76, .iconst 2, 77, []), (77, .aload_n 1, 78, []), (78, .getfield 118, 81, [1, 8, 3, 332, 0]), (81, .iload_n 2, 82, []), (82, .invokevirtual 121, 85, [0, 93, 4, 12, 1559, 1560, 1561, 149]), (85, .pop, 86, []), (86, .iconst 1, 87, []), (87, .ireturn, 88, []), (88, .aload_n 0, 89, []), (89, .aload_n 1, 90, []), (90, .getfield 127, 93, [1, 8, 2, 330, 0]), (93, .iload_n 2, 94, []), (94, .invokevirtual 130, 97, [0, 90, 3, 12, 1567, 951, 952, 149]), (97, .ifCond .ne 7, 100, [104]), (100, .iconst 1, 101, []), (101, .goto 4, 104, [105]), (104, .iconst 0, 105, []), (105, .istore_n 3, 106, []), (106, .iload_n 3, 107, []), (107, .ifCond .eq 12, 110, [119]), (110, .aload_n 0, 111, []), (111, .aload_n 1, 112, []), (112, .getfield 127, 115, [1, 8, 2, 330, 0]), (115, .iload_n 2, 116, []), (116, .invokevirtual 133, 119, [0, 92, 3, 12, 1568, 1036, 1037, 149]), (119, .iload_n 3, 120, []), (120, .ireturn, 121, [])]
/-- WhoKnows$State.leave(III)V -/
def mm_c96 : List mm_I := [(0, .aload_n 0, 1, []), (1, .getfield 12, 4, [0, 12, 0, 802]), (4, .getfield 136, 7, [1, 5, 1, 235, 0]), (7, .iload_n 3, 8, []), (8, .iconst (-1), 9, []), (9, .ixor, 10, []), (10, .iand, 11, []), (11, .istore 4, 13, []), (13, .aload_n 0, 14, []), (14, .getfield 12, 17, [0, 12, 0, 802]), (17, .iload_n 3, 18, []), (18, .putfield 136, 21, [1, 5, 1, 235, 0]), (21, .aload_n 0, 22, []), (22, .getfield 28, 25, [0, 12, 2, 806]), (25, .iload_n 1, 26, []), (26, .iload_n 2, 27, []), (27, .iload 4, 29, []), (29, .iconst 0, 30, []), (30, .invokevirtual 90, 33, [0, 45, 5, 6, 1044, 1045, 1046, 150]), (33, .return_, 34, [])]
/-- WhoKnows.<init>()V -/
def mm_c97 : List mm_I := [(0, .aload_n 0, 1, []), (1, .invokespecial 1, 4, [9, 169]), (4, .aload_n 0, 5, []), (5, .new 7, 8, [0, 11, 172, 173, 133]), (8, .dup, 9, []), (9, .invokespecial 9, 12, [7, 62, 1, 174, 175, 133, 0]), (12, .putfield 10, 15, [0, 13, 0, 841]), (15, .aload_n 0, 16, []), (16, .new 16, 19, [0, 5, 225, 226, 134]), (19, .dup, 20, []), (20, .invokespecial 18, 23, [7, 25, 1, 227, 228, 134, 0]), (23, .putfield 19, 26, [0, 13, 5, 846]), (26, .aload_n 0, 27, []), (27, .new 23, 30, [0, 3, 245, 246, 135]), (30, .dup, 31, []), (31, .invokespecial 25, 34, [7, 7, 1, 247, 248, 135, 0]), (34, .putfield 26, 37, [0, 13, 4, 845]), (37, .aload_n 0, 38, []), (38, .new 30, 41, [0, 4, 265, 266, 136]), (41, .dup, 42, []), (42, .aload_n 0, 43, []), (43, .getfield 10, 46, [0, 13, 0, 841]), (46, .invokespecial 32, 49, [2, 16, 2, 267, 268, 136]), (49, .putfield 35, 52, [0, 13, 1, 842]), (52, .aload_n 0, 53, []), (53, .new 39, 56, [0, 2, 290, 291, 137]), (56, .dup, 57, []), (57, .aload_n 0, 58, []), (58, .getfield 10, 61, [0, 13, 0, 841]), (61, .aload_n 0, 62, []), (62, .getfield 35, 65, [0, 13, 1, 842]), (65, .aload_n 0, 66, []), (66, .getfield 26, 69, [0, 13, 4, 845]), (69, .aload_n 0, 70, []), (70, .getfield 19, 73, [0, 13, 5, 846]), (73, .invokespecial 41, 76, [2, 0, 5, 292, 293, 137]), (76, .putfield 44, 79, [0, 13, 2, 843]), (79, .aload_n 0, 80, []), (80, .new 48, 83, [0, 9, 309, 310, 138]), (83, .dup, 84, []), (84, .aload_n 0, 85, []), (85, .getfield 10, 88, [0, 13, 0, 841]), (88, .aload_n 0, 89, []), (89, .getfield 35, 92, [0, 13, 1, 842]), (92, .invokespecial 50, 95, [2, 55, 3, 311, 312, 138]), (95, .putfield 53, 98, [0, 13, 3, 844]), (98, .aload_n 0, 99, []), (99, .sipush 240, 102, []), (102, .newarray .int, 104, [0]), (104, .putfield 57, 107, [0, 13, 6, 847]), (107, .aload_n 0, 108, []), (108, .new 61, 111, [0, 1, 360, 361, 141]), (111, .dup, 112, []), (112, .invokespecial 63, 115, [2, 371, 1, 362, 363, 141]), (115, .putfield 64, 118, [0, 13, 7, 848]), (118, .aload_n 0, 119, []), (119, .getfield 10, 122, [0, 13, 0, 841]), (122, .ldc 68, 124, [1, 4, 393]), (124, .invokevirtual 70, 127, [0, 63, 2, 11, 394, 395, 396, 133]), (127, .aload_n 0, 128, []), (128, .getfield 44, 131, [0, 13, 2, 843]), (131, .invokevirtual 74, 134, [0, 1, 1, 2, 451, 452, 453, 137]), (134, .astore_n 1, 135, []), (135, .aload_n 0, 136, []), (136, .getfield 10, 139, [0, 13, 0, 841]), (139, .invokevirtual 78, 142, [0, 66, 1, 11, 764, 765, 766, 133]), (142, .pop, 143, []), (143, .aload_n 0, 144, []), (144, .new 82, 147, [0, 12, 768, 769, 149]), (147, .dup, 148, []), (148, .aload_n 1, 149, []), (149, .invokespecial 84, 152, [2, 86, 2, 770, 771, 149]), (152, .putfield 87, 155, [0, 13, 8, 849]), (155, .aload_n 0, 156, []), (156, .getfield 87, 159, [0, 13, 8, 849]), (159, .aload_n 1, 160, []), (160, .invokevirtual 91, 163, [0, 87, 2, 12, 819, 820, 821, 149]), (163, .aload_n 0, 164, []), (164, .new 82, 167, [0, 12, 768, 769, 149]), (167, .dup, 168, []), (168, .aload_n 1, 169, []), (169, .invokespecial 84, 172, [2, 86, 2, 770, 771, 149]), (172, .putfield 94, 175, [0, 13, 9, 850]), (175, .aload_n 0, 176, []), (176, .bipush 8, 178, []), (178, .anewarray 82, 181, [3, 12, 768]), (181, .putfield 97, 184, [0, 13, 10, 851]), (184, .iconst 0, 185, []), (185, .istore_n 2, 186, []), (186, .iload_n 2, 187, []), (187, .aload_n 0, 188, []), (188, .getfield 97, 191, [0, 13, 10, 851]), (191, .arraylength, 192, []), (192, .if_icmp .ge 23, 195, [215]), (195, .aload_n 0, 196, []), (196, .getfield 97, 199, [0, 13, 10, 851]), (199, .iload_n 2, 200, []), (200, .new 82, 203, [0, 12, 768, 769, 149]), (203, .dup, 204, []), (204, .aload_n 1, 205, []), (205, .invokespecial 84, 208, [2, 86, 2, 770, 771, 149]), (208, .aastore, 209, []), (209, .iinc 2 1, 212, []), (212, .goto (-26), 215, [186]), (215, .return_, 216, [])]
/-- WhoKnows.append(IIIII)I -/
def mm_c98 : List mm_I := [(0, .aload_n 0, 1, []), (1, .getfield 10, 4, [0, 13, 0, 841]), (4, .getfield 101, 7, [1, 11, 4, 182, 0]), (7, .sipush 580, 10, []), (10, .if_icmp .le 11, 13, [21]), (13, .new 105, 16, [1, 17, 1447, 107]), (16, .dup, 17, []), (20, .athrow, 21, []), (21, .aload_n 0, 22, []), (22, .getfield 10, 25, [0, 13, 0, 841]), (25, .iload_n 1, 26, []), (26, .invokevirtual 108, 29, [0, 64, 2, 11, 1468, 1469, 1470, 133]), (29, .aload_n 0, 30, []), (30, .getfield 10, 33, [0, 13, 0, 841]), (33, .iload_n 2, 34, []), (34, .invokevirtual 108, 37, [0, 64, 2, 11, 1468, 1469, 1470, 133]), (37, .aload_n 0, 38, []), (38, .getfield 10, 41, [0, 13, 0, 841]), (41, .iload_n 3, 42, []), (42, .invokevirtual 108, 45, [0, 64, 2, 11, 1468, 1469, 1470, 133]), (45, .aload_n 0, 46, []), (46, .getfield 10, 49, [0, 13, 0, 841]), (49, .iload 4, 51, []), (51, .invokevirtual 108, 54, [0, 64, 2, 11, 1468, 1469, 1470, 133]), (54, .aload_n 0, 55, []), (55, .getfield 10, 58, [0, 13, 0, 841]), (58, .iload 5, 60, []), (60, .invokevirtual 108, 63, [0, 64, 2, 11, 1468, 1469, 1470, 133]), (63, .aload_n 0, 64, []), (64, .getfield 10, 67, [0, 13, 0, 841]), (67, .getfield 101, 70, [1, 11, 4, 182, 0]), (70, .ireturn, 71, [])]
/-- WhoKnows.truncate(I)I -/
def mm_c99 : List mm_I := [(0, .iload_n 1, 1, []), (1, .ifCond .lt 14, 4, [15]), (4, .iload_n 1, 5, []), (5, .aload_n 0, 6, []), (6, .getfield 10, 9, [0, 13, 0, 841]), (9, .getfield 101, 12, [1, 11, 4, 182, 0]), (12, .if_icmp .le 11, 15, [23]), (15, .new 112, 18, [1, 15, 1480, 114]), (18, .dup, 19, []), (22, .athrow, 23, []), (23, .aload_n 0, 24, []), (24, .getfield 10, 27, [0, 13, 0, 841]), (27, .iload_n 1, 28, []), (28, .putfield 101, 31, [1, 11, 4, 182, 0]), (31, .iload_n 1, 32, []), (32, .ireturn, 33, [])]
/-- WhoKnows.readText()I -/
def mm_c100 : List mm_I := [(0, .aload_n 0, 1, []), (1, .getfield 44, 4, [0, 13, 2, 843]), (4, .invokevirtual 74, 7, [0, 1, 1, 2, 451, 452, 453, 137]), (7, .astore_n 1, 8, []), (8, .aload_n 0, 9, []), (9, .getfield 10, 12, [0, 13, 0, 841]), (12, .invokevirtual 78, 15, [0, 66, 1, 11, 764, 765, 766, 133]), (15, .ifCond .ne 11, 18, [26]), (18, .new 112, 21, [1, 15, 1480, 114]), (21, .dup, 22, []), (25, .athrow, 26, []), (26, .aload_n 0, 27, []), (27, .getfield 87, 30, [0, 13, 8, 849]), (30, .aload_n 1, 31, []), (31, .invokevirtual 91, 34, [0, 87, 2, 12, 819, 820, 821, 149]), (34, .aload_n 0, 35, []), (35, .invokevirtual 115, 38, [0, 151, 1, 13, 1492, 1494, 34, 132]), (38, .aload_n 0, 39, []), (39, .getfield 87, 42, [0, 13, 8, 849]), (42, .getfield 118, 45, [1, 12, 0, 803, 0]), (45, .invokevirtual 121, 48, [0, 28, 1, 5, 977, 978, 979, 134]), (48, .ireturn, 49, [])]
/-- WhoKnows.runOrders()I -/
def mm_c101 : List mm_I := [(0, .aload_n 0, 1, []), (1, .getfield 53, 4, [0, 13, 3, 844]), (4, .aload_n 0, 5, []), (5, .getfield 87, 8, [0, 13, 8, 849]), (8, .getfield 125, 11, [1, 12, 3, 809, 0]), (11, .invokevirtual 129, 14, [0, 57, 2, 9, 1503, 1504, 1505, 138]), (14, .aload_n 0, 15, []), (15, .getfield 10, 18, [0, 13, 0, 841]), (18, .invokevirtual 78, 21, [0, 66, 1, 11, 764, 765, 766, 133]), (21, .ifCond .ne 11, 24, [32]), (24, .new 112, 27, [1, 15, 1480, 114]), (27, .dup, 28, []), (31, .athrow, 32, []), (32, .aload_n 0, 33, []), (33, .invokevirtual 131, 36, [0, 150, 1, 13, 1002, 1004, 28, 132]), (36, .iconst 0, 37, []), (37, .istore_n 1, 38, []), (38, .iload_n 1, 39, []), (39, .aload_n 0, 40, []), (40, .getfield 53, 43, [0, 13, 3, 844]), (43, .getfield 134, 46, [1, 9, 3, 350, 0]), (46, .if_icmp .ge 27, 49, [73]), (49, .aload_n 0, 50, []), (50, .getfield 87, 53, [0, 13, 8, 849]), (53, .aload_n 0, 54, []), (54, .getfield 53, 57, [0, 13, 3, 844]), (57, .iload_n 1, 58, []), (58, .invokevirtual 137, 61, [0, 56, 2, 9, 1542, 1525, 1526, 138]), (61, .invokevirtual 141, 64, [0, 95, 2, 12, 1543, 1544, 1545, 149]), (64, .ifCond .eq 9, 67, [73]), (67, .iinc 1 1, 70, []), (70, .goto (-32), 73, [38]), (73, .iload_n 1, 74, []), (74, .ireturn, 75, [])]
/-- WhoKnows.ask()I -/
def mm_c102 : List mm_I := [(0, .aload_n 0, 1, []), (1, .getfield 10, 4, [0, 13, 0, 841]), (4, .invokevirtual 145, 7, [0, 65, 1, 11, 1576, 521, 522, 133]), (7, .aload_n 0, 8, []), (8, .getfield 35, 11, [0, 13, 1, 842]), (11, .aload_n 0, 12, []), (12, .getfield 87, 15, [0, 13, 8, 849]), (15, .getfield 125, 18, [1, 12, 3, 809, 0]), (18, .iconst 0, 19, []), (19, .aload_n 0, 20, []), (20, .getfield 26, 23, [0, 13, 4, 845]), (23, .invokevirtual 147, 26, [0, 17, 4, 4, 1577, 633, 634, 136]), (26, .aload_n 0, 27, []), (27, .getfield 10, 30, [0, 13, 0, 841]), (30, .invokevirtual 150, 33, [0, 81, 1, 11, 1578, 757, 758, 133]), (33, .aload_n 0, 34, []), (34, .getfield 10, 37, [0, 13, 0, 841]), (37, .invokevirtual 78, 40, [0, 66, 1, 11, 764, 765, 766, 133]), (40, .ifCond .ne 11, 43, [51]), (43, .new 112, 46, [1, 15, 1480, 114]), (46, .dup, 47, []), (50, .athrow, 51, []), (51, .aload_n 0, 52, []), (52, .invokevirtual 131, 55, [0, 150, 1, 13, 1002, 1004, 28, 132]), (55, .aload_n 0, 56, []), (56, .getfield 87, 59, [0, 13, 8, 849]), (59, .getfield 153, 62, [1, 12, 1, 805, 0]), (62, .aload_n 0, 63, []), (63, .getfield 26, 66, [0, 13, 4, 845]), (66, .invokevirtual 156, 69, [0, 10, 2, 3, 1579, 1026, 1027, 135]), (69, .aload_n 0, 70, []), (70, .getfield 87, 73, [0, 13, 8, 849]), (73, .getfield 153, 76, [1, 12, 1, 805, 0]), (76, .getfield 160, 79, [1, 3, 3, 255, 0]), (79, .ireturn, 80, [])]
/-- WhoKnows.errorCode()I -/
def mm_c103 : List mm_I := [(0, .aload_n 0, 1, []), (1, .getfield 10, 4, [0, 13, 0, 841]), (4, .getfield 161, 7, [1, 11, 10, 196, 0]), (7, .ireturn, 8, [])]
/-- WhoKnows.errorPosition()I -/
def mm_c104 : List mm_I := [(0, .aload_n 0, 1, []), (1, .getfield 10, 4, [0, 13, 0, 841]), (4, .getfield 164, 7, [1, 11, 11, 198, 0]), (7, .ireturn, 8, [])]
/-- WhoKnows.size(I)I -/
def mm_c105 : List mm_I := [(0, .iload_n 1, 1, []), (1, .tableswitch 168 0 9 #[55, 69, 83, 94, 108, 119, 130, 141, 152, 163], 56, [169, 56, 70, 84, 95, 109, 120, 131, 142, 153, 164]), (56, .aload_n 0, 57, []), (57, .getfield 87, 60, [0, 13, 8, 849]), (60, .getfield 125, 63, [1, 12, 3, 809, 0]), (63, .getfield 167, 66, [1, 10, 0, 486, 0]), (66, .getfield 173, 69, [1, 7, 1, 474, 0]), (69, .ireturn, 70, []), (70, .aload_n 0, 71, []), (71, .getfield 87, 74, [0, 13, 8, 849]), (74, .getfield 125, 77, [1, 12, 3, 809, 0]), (77, .getfield 176, 80, [1, 10, 1, 493, 0]), (80, .getfield 173, 83, [1, 7, 1, 474, 0]), (83, .ireturn, 84, []), (84, .aload_n 0, 85, []), (85, .getfield 87, 88, [0, 13, 8, 849]), (88, .getfield 118, 91, [1, 12, 0, 803, 0]), (91, .invokevirtual 121, 94, [0, 28, 1, 5, 977, 978, 979, 134]), (94, .ireturn, 95, []), (95, .aload_n 0, 96, []), (96, .getfield 87, 99, [0, 13, 8, 849]), (99, .getfield 125, 102, [1, 12, 3, 809, 0]), (102, .getfield 179, 105, [1, 10, 4, 502, 0]), (105, .invokestatic 182, 108, [1, 360, 1, 961, 962, 157]), (108, .ireturn, 109, []), (109, .aload_n 0, 110, []), (110, .getfield 87, 113, [0, 13, 8, 849]), (113, .getfield 125, 116, [1, 12, 3, 809, 0]), (116, .getfield 188, 119, [1, 10, 5, 506, 0]), (119, .ireturn, 120, []), (120, .aload_n 0, 121, []), (121, .getfield 87, 124, [0, 13, 8, 849]), (124, .getfield 153, 127, [1, 12, 1, 805, 0]), (127, .getfield 160, 130, [1, 3, 3, 255, 0]), (130, .ireturn, 131, []), (131, .aload_n 0, 132, []), (132, .getfield 87, 135, [0, 13, 8, 849]), (135, .getfield 153, 138, [1, 12, 1, 805, 0]), (138, .invokevirtual 191, 141, [0, 12, 1, 3, 1587, 1588, 1589, 135]), (141, .ireturn, 142, []), (142, .aload_n 0, 143, []), (143, .getfield 87, 146, [0, 13, 8, 849]), (146, .getfield 125, 149, [1, 12, 3, 809, 0]), (149, .getfield 194, 152, [1, 10, 3, 499, 0]), (152, .ireturn, 153, []), (153, .aload_n 0, 154, []), (154, .getfield 87, 157, [0, 13, 8, 849]), (157, .getfield 197, 160, [1, 12, 2, 807, 0]), (160, .getfield 201, 163, [1, 6, 4, 790, 0]), (163, .ireturn, 164, []), (164, .aload_n 0, 165, []), (165, .getfield 204, 168, [0, 13, 12, 853]), (168, .ireturn, 169, []), (169, .new 112, 172, [1, 15, 1480, 114]), (172, .dup, 173, []), (176, .athrow, 177, [])]
/-- WhoKnows.letter(ZII)I -/
def mm_c106 : List mm_I := [(0, .iload_n 1, 1, []), (1, .ifCond .eq 16, 4, [17]), (4, .aload_n 0, 5, []), (5, .getfield 87, 8, [0, 13, 8, 849]), (8, .getfield 125, 11, [1, 12, 3, 809, 0]), (11, .getfield 176, 14, [1, 10, 1, 493, 0]), (14, .goto 13, 17, [27]), (17, .aload_n 0, 18, []), (18, .getfield 87, 21, [0, 13, 8, 849]), (21, .getfield 125, 24, [1, 12, 3, 809, 0]), (24, .getfield 167, 27, [1, 10, 0, 486, 0]), (27, .astore 4, 29, []), (29, .iload_n 2, 30, []), (30, .ifCond .lt 12, 33, [42]), (33, .iload_n 2, 34, []), (34, .aload 4, 36, []), (36, .getfield 173, 39, [1, 7, 1, 474, 0]), (39, .if_icmp .lt 11, 42, [50]), (42, .new 207, 45, [1, 16, 1600, 209]), (45, .dup, 46, []), (49, .athrow, 50, []), (50, .aload 4, 52, []), (52, .iload_n 2, 53, []), (53, .iload_n 3, 54, []), (54, .invokevirtual 210, 57, [0, 52, 3, 7, 1615, 1392, 1393, 148]), (57, .ireturn, 58, [])]
/-- WhoKnows.sees(I)I -/
def mm_c107 : List mm_I := [(0, .aload_n 0, 1, []), (1, .iload_n 1, 2, []), (2, .invokevirtual 214, 5, [0, 146, 2, 13, 1623, 1625, 38, 132]), (5, .aload_n 0, 6, []), (6, .getfield 87, 9, [0, 13, 8, 849]), (9, .getfield 125, 12, [1, 12, 3, 809, 0]), (12, .getfield 217, 15, [1, 10, 2, 497, 0]), (15, .iload_n 1, 16, []), (16, .invokestatic 220, 19, [1, 156, 2, 976, 568, 132]), (19, .ireturn, 20, [])]
/-- WhoKnows.worlds()I -/
def mm_c108 : List mm_I := [(0, .aload_n 0, 1, []), (1, .getfield 87, 4, [0, 13, 8, 849]), (4, .getfield 118, 7, [1, 12, 0, 803, 0]), (7, .getfield 224, 10, [1, 5, 1, 236, 0]), (10, .ireturn, 11, [])]
/-- WhoKnows.alike(II)I -/
def mm_c109 : List mm_I := [(0, .aload_n 0, 1, []), (1, .iload_n 1, 2, []), (2, .invokevirtual 214, 5, [0, 146, 2, 13, 1623, 1625, 38, 132]), (5, .aload_n 0, 6, []), (6, .iload_n 2, 7, []), (7, .invokevirtual 227, 10, [0, 148, 2, 13, 1634, 1636, 39, 132]), (10, .aload_n 0, 11, []), (11, .getfield 87, 14, [0, 13, 8, 849]), (14, .getfield 118, 17, [1, 12, 0, 803, 0]), (17, .iload_n 1, 18, []), (18, .iload_n 2, 19, []), (19, .invokevirtual 230, 22, [0, 29, 3, 5, 1638, 718, 719, 134]), (22, .ireturn, 23, [])]
/-- WhoKnows.kinds(I)I -/
def mm_c110 : List mm_I := [(0, .aload_n 0, 1, []), (1, .iload_n 1, 2, []), (2, .invokevirtual 214, 5, [0, 146, 2, 13, 1623, 1625, 38, 132]), (5, .iconst 0, 6, []), (6, .istore_n 2, 7, []), (7, .iconst 0, 8, []), (8, .istore_n 3, 9, []), (9, .iload_n 3, 10, []), (10, .bipush 32, 12, []), (12, .if_icmp .ge 27, 15, [39]), (15, .aload_n 0, 16, []), (16, .getfield 87, 19, [0, 13, 8, 849]), (19, .getfield 118, 22, [1, 12, 0, 803, 0]), (22, .iload_n 1, 23, []), (23, .iload_n 3, 24, []), (24, .invokevirtual 233, 27, [0, 30, 3, 5, 1646, 1647, 1648, 134]), (27, .ifCond .eq 6, 30, [33]), (30, .iinc 2 1, 33, []), (33, .iinc 3 1, 36, []), (36, .goto (-27), 39, [9]), (39, .iload_n 2, 40, []), (40, .ireturn, 41, [])]
/-- WhoKnows.doubts(I)I -/
def mm_c111 : List mm_I := [(0, .aload_n 0, 1, []), (1, .iload_n 1, 2, []), (2, .invokevirtual 214, 5, [0, 146, 2, 13, 1623, 1625, 38, 132]), (5, .aload_n 0, 6, []), (6, .getfield 87, 9, [0, 13, 8, 849]), (9, .getfield 118, 12, [1, 12, 0, 803, 0]), (12, .iload_n 1, 13, []), (13, .invokevirtual 237, 16, [0, 31, 2, 5, 990, 991, 992, 134]), (16, .aload_n 0, 17, []), (17, .getfield 87, 20, [0, 13, 8, 849]), (20, .getfield 118, 23, [1, 12, 0, 803, 0]), (23, .invokevirtual 121, 26, [0, 28, 1, 5, 977, 978, 979, 134]), (26, .isub, 27, []), (27, .iconst 2, 28, []), (28, .idiv, 29, []), (29, .ireturn, 30, [])]
/-- WhoKnows.reach(I)I -/
def mm_c112 : List mm_I := [(0, .aload_n 0, 1, []), (1, .iload_n 1, 2, []), (2, .invokevirtual 227, 5, [0, 148, 2, 13, 1634, 1636, 39, 132]), (5, .aload_n 0, 6, []), (6, .getfield 87, 9, [0, 13, 8, 849]), (9, .getfield 118, 12, [1, 12, 0, 803, 0]), (12, .iload_n 1, 13, []), (13, .invokestatic 240, 16, [1, 160, 1, 926, 722, 132]), (16, .invokevirtual 243, 19, [0, 33, 2, 5, 927, 729, 730, 134]), (19, .ireturn, 20, [])]
/-- WhoKnows.steps(II)I -/
def mm_c113 : List mm_I := [(0, .aload_n 0, 1, []), (1, .iload_n 1, 2, []), (2, .invokevirtual 227, 5, [0, 148, 2, 13, 1634, 1636, 39, 132]), (5, .aload_n 0, 6, []), (6, .iload_n 2, 7, []), (7, .invokevirtual 227, 10, [0, 148, 2, 13, 1634, 1636, 39, 132]), (10, .aload_n 0, 11, []), (11, .getfield 87, 14, [0, 13, 8, 849]), (14, .getfield 118, 17, [1, 12, 0, 803, 0]), (17, .iload_n 1, 18, []), (18, .iload_n 2, 19, []), (19, .invokevirtual 246, 22, [0, 34, 3, 5, 1672, 1673, 1674, 134]), (22, .ireturn, 23, [])]
/-- WhoKnows.holds(I)Z -/
def mm_c114 : List mm_I := [(0, .aload_n 0, 1, []), (1, .iload_n 1, 2, []), (2, .invokevirtual 227, 5, [0, 148, 2, 13, 1634, 1636, 39, 132]), (5, .aload_n 0, 6, []), (6, .getfield 87, 9, [0, 13, 8, 849]), (9, .invokevirtual 249, 12, [0, 89, 1, 12, 900, 901, 902, 149]), (12, .iload_n 1, 13, []), (13, .invokestatic 252, 16, [1, 159, 2, 763, 715, 132]), (16, .ireturn, 17, [])]
/-- WhoKnows.truth()I -/
def mm_c115 : List mm_I := [(0, .aload_n 0, 1, []), (1, .getfield 87, 4, [0, 13, 8, 849]), (4, .invokevirtual 249, 7, [0, 89, 1, 12, 900, 901, 902, 149]), (7, .ireturn, 8, [])]
/-- WhoKnows.who()I -/
def mm_c116 : List mm_I := [(0, .aload_n 0, 1, []), (1, .getfield 87, 4, [0, 13, 8, 849]), (4, .getfield 118, 7, [1, 12, 0, 803, 0]), (7, .aload_n 0, 8, []), (8, .getfield 87, 11, [0, 13, 8, 849]), (11, .getfield 125, 14, [1, 12, 3, 809, 0]), (14, .getfield 188, 17, [1, 10, 5, 506, 0]), (17, .aload_n 0, 18, []), (18, .getfield 87, 21, [0, 13, 8, 849]), (21, .invokevirtual 249, 24, [0, 89, 1, 12, 900, 901, 902, 149]), (24, .invokevirtual 255, 27, [0, 38, 3, 5, 909, 910, 911, 134]), (27, .ireturn, 28, [])]
/-- WhoKnows.whether()I -/
def mm_c117 : List mm_I := [(0, .aload_n 0, 1, []), (1, .getfield 87, 4, [0, 13, 8, 849]), (4, .getfield 118, 7, [1, 12, 0, 803, 0]), (7, .aload_n 0, 8, []), (8, .getfield 87, 11, [0, 13, 8, 849]), (11, .getfield 125, 14, [1, 12, 3, 809, 0]), (14, .getfield 188, 17, [1, 10, 5, 506, 0]), (17, .aload_n 0, 18, []), (18, .getfield 87, 21, [0, 13, 8, 849]), (21, .invokevirtual 249, 24, [0, 89, 1, 12, 900, 901, 902, 149]), (24, .invokevirtual 258, 27, [0, 39, 3, 5, 917, 918, 919, 134]), (27, .ireturn, 28, [])]
/-- WhoKnows.isCommon()Z -/
def mm_c118 : List mm_I := [(0, .aload_n 0, 1, []), (1, .getfield 87, 4, [0, 13, 8, 849]), (4, .getfield 118, 7, [1, 12, 0, 803, 0]), (7, .aload_n 0, 8, []), (8, .getfield 87, 11, [0, 13, 8, 849]), (11, .getfield 125, 14, [1, 12, 3, 809, 0]), (14, .getfield 188, 17, [1, 10, 5, 506, 0]), (17, .invokestatic 240, 20, [1, 160, 1, 926, 722, 132]), (20, .invokevirtual 243, 23, [0, 33, 2, 5, 927, 729, 730, 134]), (23, .aload_n 0, 24, []), (24, .getfield 87, 27, [0, 13, 8, 849]), (27, .invokevirtual 249, 30, [0, 89, 1, 12, 900, 901, 902, 149]), (30, .iconst (-1), 31, []), (31, .ixor, 32, []), (32, .iand, 33, []), (33, .ifCond .ne 7, 36, [40]), (36, .iconst 1, 37, []), (37, .goto 4, 40, [41]), (40, .iconst 0, 41, []), (41, .ireturn, 42, [])]
/-- WhoKnows.level()I -/
def mm_c119 : List mm_I := [(0, .aload_n 0, 1, []), (1, .getfield 87, 4, [0, 13, 8, 849]), (4, .invokevirtual 249, 7, [0, 89, 1, 12, 900, 901, 902, 149]), (7, .istore_n 1, 8, []), (8, .iload_n 1, 9, []), (9, .aload_n 0, 10, []), (10, .getfield 87, 13, [0, 13, 8, 849]), (13, .getfield 125, 16, [1, 12, 3, 809, 0]), (16, .getfield 188, 19, [1, 10, 5, 506, 0]), (19, .invokestatic 252, 22, [1, 159, 2, 763, 715, 132]), (22, .ifCond .ne 5, 25, [27]), (25, .iconst (-1), 26, []), (26, .ireturn, 27, []), (27, .iconst 0, 28, []), (28, .istore_n 2, 29, []), (29, .iload_n 2, 30, []), (30, .bipush 32, 32, []), (32, .if_icmp .gt 50, 35, [82]), (35, .aload_n 0, 36, []), (36, .getfield 87, 39, [0, 13, 8, 849]), (39, .getfield 118, 42, [1, 12, 0, 803, 0]), (42, .iload_n 1, 43, []), (43, .invokevirtual 261, 46, [0, 36, 2, 5, 932, 725, 726, 134]), (46, .istore_n 3, 47, []), (47, .iload_n 3, 48, []), (48, .iload_n 1, 49, []), (49, .if_icmp .ne 6, 52, [55]), (52, .bipush 99, 54, []), (54, .ireturn, 55, []), (55, .iload_n 3, 56, []), (56, .aload_n 0, 57, []), (57, .getfield 87, 60, [0, 13, 8, 849]), (60, .getfield 125, 63, [1, 12, 3, 809, 0]), (63, .getfield 188, 66, [1, 10, 5, 506, 0]), (66, .invokestatic 252, 69, [1, 159, 2, 763, 715, 132]), (69, .ifCond .ne 5, 72, [74]), (72, .iload_n 2, 73, []), (73, .ireturn, 74, []), (74, .iload_n 3, 75, []), (75, .istore_n 1, 76, []), (76, .iinc 2 1, 79, []), (79, .goto (-50), 82, [29]), (82, .bipush 99, 84, []), (84, .ireturn, 85, [])]
/-- WhoKnows.unlike()I -/
def mm_c120 : List mm_I := [(0, .aload_n 0, 1, []), (1, .getfield 87, 4, [0, 13, 8, 849]), (4, .invokevirtual 249, 7, [0, 89, 1, 12, 900, 901, 902, 149]), (7, .istore_n 1, 8, []), (8, .iload_n 1, 9, []), (9, .istore_n 2, 10, []), (10, .iconst 1, 11, []), (11, .istore_n 3, 12, []), (12, .iconst 0, 13, []), (13, .istore 4, 15, []), (15, .iload 4, 17, []), (17, .bipush 32, 19, []), (19, .if_icmp .gt 41, 22, [60]), (22, .iload_n 3, 23, []), (23, .ifCond .eq 37, 26, [60]), (26, .aload_n 0, 27, []), (27, .getfield 87, 30, [0, 13, 8, 849]), (30, .getfield 118, 33, [1, 12, 0, 803, 0]), (33, .iload_n 2, 34, []), (34, .invokevirtual 261, 37, [0, 36, 2, 5, 932, 725, 726, 134]), (37, .istore 5, 39, []), (39, .iload 5, 41, []), (41, .iload_n 2, 42, []), (42, .if_icmp .eq 7, 45, [49]), (45, .iconst 1, 46, []), (46, .goto 4, 49, [50]), (49, .iconst 0, 50, []), (50, .istore_n 3, 51, []), (51, .iload 5, 53, []), (53, .istore_n 2, 54, []), (54, .iinc 4 1, 57, []), (57, .goto (-42), 60, [15]), (60, .iload_n 2, 61, []), (61, .aload_n 0, 62, []), (62, .getfield 87, 65, [0, 13, 8, 849]), (65, .getfield 118, 68, [1, 12, 0, 803, 0]), (68, .iconst 5, 69, []), (69, .iconst 0, 70, []), (70, .iload_n 1, 71, []), (71, .invokevirtual 264, 74, [0, 37, 4, 5, 937, 707, 708, 134]), (74, .ixor, 75, []), (75, .ireturn, 76, [])]
/-- WhoKnows.knowsFact(II)I -/
def mm_c121 : List mm_I := [(0, .aload_n 0, 1, []), (1, .iload_n 1, 2, []), (2, .invokevirtual 214, 5, [0, 146, 2, 13, 1623, 1625, 38, 132]), (5, .aload_n 0, 6, []), (6, .iload_n 2, 7, []), (7, .invokevirtual 268, 10, [0, 147, 2, 13, 1690, 1692, 40, 132]), (10, .aload_n 0, 11, []), (11, .getfield 87, 14, [0, 13, 8, 849]), (14, .getfield 118, 17, [1, 12, 0, 803, 0]), (17, .iload_n 1, 18, []), (18, .aload_n 0, 19, []), (19, .getfield 87, 22, [0, 13, 8, 849]), (22, .getfield 125, 25, [1, 12, 3, 809, 0]), (25, .getfield 188, 28, [1, 10, 5, 506, 0]), (28, .invokevirtual 230, 31, [0, 29, 3, 5, 1638, 718, 719, 134]), (31, .istore_n 3, 32, []), (32, .getstatic 271, 35, [0, 4, 831]), (35, .iload_n 2, 36, []), (36, .invokestatic 220, 39, [1, 156, 2, 976, 568, 132]), (39, .istore 4, 41, []), (41, .iload_n 3, 42, []), (42, .iload 4, 44, []), (44, .iconst (-1), 45, []), (45, .ixor, 46, []), (46, .iand, 47, []), (47, .ifCond .ne 5, 50, [52]), (50, .iconst 1, 51, []), (51, .ireturn, 52, []), (52, .iload_n 3, 53, []), (53, .iload 4, 55, []), (55, .iand, 56, []), (56, .ifCond .ne 7, 59, [63]), (59, .iconst 0, 60, []), (60, .goto 4, 63, [64]), (63, .iconst (-1), 64, []), (64, .ireturn, 65, [])]
/-- WhoKnows.knowers()I -/
def mm_c122 : List mm_I := [(0, .aload_n 0, 1, []), (1, .getfield 87, 4, [0, 13, 8, 849]), (4, .getfield 118, 7, [1, 12, 0, 803, 0]), (7, .aload_n 0, 8, []), (8, .getfield 87, 11, [0, 13, 8, 849]), (11, .getfield 125, 14, [1, 12, 3, 809, 0]), (14, .getfield 188, 17, [1, 10, 5, 506, 0]), (17, .aload_n 0, 18, []), (18, .getfield 87, 21, [0, 13, 8, 849]), (21, .getfield 125, 24, [1, 12, 3, 809, 0]), (24, .getfield 188, 27, [1, 10, 5, 506, 0]), (27, .invokestatic 240, 30, [1, 160, 1, 926, 722, 132]), (30, .invokevirtual 255, 33, [0, 38, 3, 5, 909, 910, 911, 134]), (33, .ireturn, 34, [])]
/-- WhoKnows.wouldLeave()I -/
def mm_c123 : List mm_I := [(0, .aload_n 0, 1, []), (1, .iconst (-1), 2, []), (2, .aload_n 0, 3, []), (3, .getfield 87, 6, [0, 13, 8, 849]), (6, .invokevirtual 249, 9, [0, 89, 1, 12, 900, 901, 902, 149]), (9, .invokevirtual 274, 12, [0, 153, 3, 13, 946, 948, 26, 132]), (12, .ireturn, 13, [])]
/-- WhoKnows.wouldSay(I)I -/
def mm_c124 : List mm_I := [(0, .aload_n 0, 1, []), (1, .iload_n 1, 2, []), (2, .invokevirtual 214, 5, [0, 146, 2, 13, 1623, 1625, 38, 132]), (5, .aload_n 0, 6, []), (6, .iload_n 1, 7, []), (7, .aload_n 0, 8, []), (8, .getfield 87, 11, [0, 13, 8, 849]), (11, .invokevirtual 249, 14, [0, 89, 1, 12, 900, 901, 902, 149]), (14, .invokevirtual 274, 17, [0, 153, 3, 13, 946, 948, 26, 132]), (17, .ireturn, 18, [])]
/-- WhoKnows.wouldKnow(I)I -/
def mm_c125 : List mm_I := [(0, .aload_n 0, 1, []), (1, .iload_n 1, 2, []), (2, .invokevirtual 277, 5, [0, 149, 2, 13, 1708, 1710, 41, 132]), (5, .aload_n 0, 6, []), (6, .getfield 19, 9, [0, 13, 5, 846]), (9, .aload_n 0, 10, []), (10, .getfield 87, 13, [0, 13, 8, 849]), (13, .getfield 118, 16, [1, 12, 0, 803, 0]), (16, .invokevirtual 280, 19, [0, 27, 2, 5, 1713, 1015, 1016, 134]), (19, .aload_n 0, 20, []), (20, .getfield 19, 23, [0, 13, 5, 846]), (23, .iload_n 1, 24, []), (24, .aload_n 0, 25, []), (25, .getfield 87, 28, [0, 13, 8, 849]), (28, .invokevirtual 249, 31, [0, 89, 1, 12, 900, 901, 902, 149]), (31, .invokevirtual 283, 34, [0, 41, 3, 5, 1714, 1564, 1565, 134]), (34, .pop, 35, []), (35, .aload_n 0, 36, []), (36, .getfield 19, 39, [0, 13, 5, 846]), (39, .aload_n 0, 40, []), (40, .getfield 87, 43, [0, 13, 8, 849]), (43, .getfield 125, 46, [1, 12, 3, 809, 0]), (46, .getfield 188, 49, [1, 10, 5, 506, 0]), (49, .aload_n 0, 50, []), (50, .getfield 87, 53, [0, 13, 8, 849]), (53, .getfield 125, 56, [1, 12, 3, 809, 0]), (56, .getfield 188, 59, [1, 10, 5, 506, 0]), (59, .invokestatic 240, 62, [1, 160, 1, 926, 722, 132]), (62, .invokevirtual 255, 65, [0, 38, 3, 5, 909, 910, 911, 134]), (65, .ireturn, 66, [])]
/-- WhoKnows.roundsTo(I)I -/
def mm_c126 : List mm_I := [(0, .aload_n 0, 1, []), (1, .iload_n 1, 2, []), (2, .invokevirtual 268, 5, [0, 147, 2, 13, 1690, 1692, 40, 132]), (5, .aload_n 0, 6, []), (6, .getfield 19, 9, [0, 13, 5, 846]), (9, .aload_n 0, 10, []), (10, .getfield 87, 13, [0, 13, 8, 849]), (13, .getfield 118, 16, [1, 12, 0, 803, 0]), (16, .invokevirtual 280, 19, [0, 27, 2, 5, 1713, 1015, 1016, 134]), (19, .aload_n 0, 20, []), (20, .getfield 87, 23, [0, 13, 8, 849]), (23, .getfield 125, 26, [1, 12, 3, 809, 0]), (26, .getfield 176, 29, [1, 10, 1, 493, 0]), (29, .getfield 173, 32, [1, 7, 1, 474, 0]), (32, .invokestatic 286, 35, [1, 161, 1, 1712, 614, 132]), (35, .istore_n 2, 36, []), (36, .iconst 0, 37, []), (37, .istore_n 3, 38, []), (38, .iload_n 3, 39, []), (39, .bipush 32, 41, []), (41, .if_icmp .gt 84, 44, [125]), (44, .aload_n 0, 45, []), (45, .getfield 19, 48, [0, 13, 5, 846]), (48, .aload_n 0, 49, []), (49, .getfield 87, 52, [0, 13, 8, 849]), (52, .getfield 125, 55, [1, 12, 3, 809, 0]), (55, .getfield 188, 58, [1, 10, 5, 506, 0]), (58, .getstatic 271, 61, [0, 4, 831]), (61, .iload_n 1, 62, []), (62, .invokestatic 220, 65, [1, 156, 2, 976, 568, 132]), (65, .invokevirtual 258, 68, [0, 39, 3, 5, 917, 918, 919, 134]), (68, .istore 4, 70, []), (70, .iload 4, 72, []), (72, .iload_n 2, 73, []), (73, .if_icmp .ne 5, 76, [78]), (76, .iload_n 3, 77, []), (77, .ireturn, 78, []), (78, .aload_n 0, 79, []), (79, .getfield 19, 82, [0, 13, 5, 846]), (82, .iload 4, 84, []), (84, .getstatic 271, 87, [0, 4, 831]), (87, .iload_n 1, 88, []), (88, .invokestatic 220, 91, [1, 156, 2, 976, 568, 132]), (91, .invokevirtual 289, 94, [0, 40, 3, 5, 1722, 1555, 1556, 134]), (94, .istore 5, 96, []), (96, .iload 5, 98, []), (98, .aload_n 0, 99, []), (99, .getfield 19, 102, [0, 13, 5, 846]), (102, .getfield 224, 105, [1, 5, 1, 236, 0]), (105, .if_icmp .ne 5, 108, [110]), (108, .iconst (-1), 109, []), (109, .ireturn, 110, []), (110, .aload_n 0, 111, []), (111, .getfield 19, 114, [0, 13, 5, 846]), (114, .iload 5, 116, []), (116, .putfield 224, 119, [1, 5, 1, 236, 0]), (119, .iinc 3 1, 122, []), (122, .goto (-84), 125, [38]), (125, .iconst (-1), 126, []), (126, .ireturn, 127, [])]
/-- WhoKnows.bestFact()I -/
def mm_c127 : List mm_I := [(0, .iconst 0, 1, []), (1, .istore_n 1, 2, []), (2, .bipush 33, 4, []), (4, .istore_n 2, 5, []), (5, .iconst 0, 6, []), (6, .istore_n 3, 7, []), (7, .iload_n 3, 8, []), (8, .aload_n 0, 9, []), (9, .getfield 87, 12, [0, 13, 8, 849]), (12, .getfield 125, 15, [1, 12, 3, 809, 0]), (15, .getfield 167, 18, [1, 10, 0, 486, 0]), (18, .getfield 173, 21, [1, 7, 1, 474, 0]), (21, .if_icmp .ge 56, 24, [77]), (24, .aload_n 0, 25, []), (25, .getfield 87, 28, [0, 13, 8, 849]), (28, .getfield 118, 31, [1, 12, 0, 803, 0]), (31, .getfield 224, 34, [1, 5, 1, 236, 0]), (34, .aload_n 0, 35, []), (35, .getfield 87, 38, [0, 13, 8, 849]), (38, .getfield 125, 41, [1, 12, 3, 809, 0]), (41, .getfield 188, 44, [1, 10, 5, 506, 0]), (44, .iload_n 3, 45, []), (45, .invokestatic 240, 48, [1, 160, 1, 926, 722, 132]), (48, .invokestatic 292, 51, [1, 163, 2, 971, 829, 132]), (51, .iand, 52, []), (52, .istore 4, 54, []), (54, .iload 4, 56, []), (56, .invokestatic 182, 59, [1, 360, 1, 961, 962, 157]), (59, .iload_n 2, 60, []), (60, .if_icmp .ge 11, 63, [71]), (63, .iload_n 3, 64, []), (64, .istore_n 1, 65, []), (65, .iload 4, 67, []), (67, .invokestatic 182, 70, [1, 360, 1, 961, 962, 157]), (70, .istore_n 2, 71, []), (71, .iinc 3 1, 74, []), (74, .goto (-67), 77, [7]), (77, .iload_n 1, 78, []), (78, .ireturn, 79, [])]
/-- WhoKnows.leastShown(I)I -/
def mm_c128 : List mm_I := [(0, .aload_n 0, 1, []), (1, .iload_n 1, 2, []), (2, .invokevirtual 214, 5, [0, 146, 2, 13, 1623, 1625, 38, 132]), (5, .aload_n 0, 6, []), (6, .getfield 87, 9, [0, 13, 8, 849]), (9, .getfield 118, 12, [1, 12, 0, 803, 0]), (12, .iload_n 1, 13, []), (13, .aload_n 0, 14, []), (14, .getfield 87, 17, [0, 13, 8, 849]), (17, .getfield 125, 20, [1, 12, 3, 809, 0]), (20, .getfield 188, 23, [1, 10, 5, 506, 0]), (23, .invokevirtual 230, 26, [0, 29, 3, 5, 1638, 718, 719, 134]), (26, .istore_n 2, 27, []), (27, .aload_n 0, 28, []), (28, .getfield 87, 31, [0, 13, 8, 849]), (31, .getfield 125, 34, [1, 12, 3, 809, 0]), (34, .getfield 167, 37, [1, 10, 0, 486, 0]), (37, .getfield 173, 40, [1, 7, 1, 474, 0]), (40, .invokestatic 286, 43, [1, 161, 1, 1712, 614, 132]), (43, .istore_n 3, 44, []), (44, .iload_n 3, 45, []), (45, .istore 4, 47, []), (47, .iload 4, 49, []), (49, .ifCond .lt 69, 52, [118]), (52, .iload_n 2, 53, []), (53, .aload_n 0, 54, []), (54, .getfield 87, 57, [0, 13, 8, 849]), (57, .getfield 125, 60, [1, 12, 3, 809, 0]), (60, .getfield 188, 63, [1, 10, 5, 506, 0]), (63, .iload 4, 65, []), (65, .invokestatic 292, 68, [1, 163, 2, 971, 829, 132]), (68, .iand, 69, []), (69, .aload_n 0, 70, []), (70, .getfield 87, 73, [0, 13, 8, 849]), (73, .getfield 125, 76, [1, 12, 3, 809, 0]), (76, .getfield 188, 79, [1, 10, 5, 506, 0]), (79, .invokestatic 240, 82, [1, 160, 1, 926, 722, 132]), (82, .if_icmp .ne 7, 85, [89]), (85, .iconst 1, 86, []), (86, .goto 4, 89, [90]), (89, .iconst 0, 90, []), (90, .istore 5, 92, []), (92, .iload 5, 94, []), (94, .ifCond .eq 18, 97, [112]), (97, .iload 4, 99, []), (99, .invokestatic 182, 102, [1, 360, 1, 961, 962, 157]), (102, .iload_n 3, 103, []), (103, .invokestatic 182, 106, [1, 360, 1, 961, 962, 157]), (106, .if_icmp .gt 6, 109, [112]), (109, .iload 4, 111, []), (111, .istore_n 3, 112, []), (112, .iinc 4 (-1), 115, []), (115, .goto (-68), 118, [47]), (118, .iload_n 3, 119, []), (119, .ireturn, 120, [])]
/-- WhoKnows.log(II)I -/
def mm_c129 : List mm_I := [(0, .iload_n 2, 1, []), (1, .ifCond .lt 8, 4, [9]), (4, .iload_n 2, 5, []), (5, .iconst 2, 6, []), (6, .if_icmp .le 11, 9, [17]), (9, .new 112, 12, [1, 15, 1480, 114]), (12, .dup, 13, []), (16, .athrow, 17, []), (17, .aload_n 0, 18, []), (18, .getfield 87, 21, [0, 13, 8, 849]), (21, .getfield 197, 24, [1, 12, 2, 807, 0]), (24, .iload_n 1, 25, []), (25, .iload_n 2, 26, []), (26, .invokevirtual 295, 29, [0, 46, 3, 6, 1737, 1738, 1739, 150]), (29, .ireturn, 30, [])]
/-- WhoKnows.account(I)I -/
def mm_c130 : List mm_I := [(0, .iload_n 1, 1, []), (1, .ifCond .lt 9, 4, [10]), (4, .iload_n 1, 5, []), (5, .bipush 7, 7, []), (7, .if_icmp .lt 11, 10, [18]), (10, .new 112, 13, [1, 15, 1480, 114]), (13, .dup, 14, []), (17, .athrow, 18, []), (18, .aload_n 0, 19, []), (19, .getfield 87, 22, [0, 13, 8, 849]), (22, .getfield 197, 25, [1, 12, 2, 807, 0]), (25, .getfield 298, 28, [1, 6, 3, 788, 0]), (28, .iload_n 1, 29, []), (29, .invokestatic 220, 32, [1, 156, 2, 976, 568, 132]), (32, .ireturn, 33, [])]
/-- WhoKnows.gap()I -/
def mm_c131 : List mm_I := [(0, .aload_n 0, 1, []), (1, .getfield 87, 4, [0, 13, 8, 849]), (4, .getfield 197, 7, [1, 12, 2, 807, 0]), (7, .getfield 298, 10, [1, 6, 3, 788, 0]), (10, .iconst 5, 11, []), (11, .invokestatic 220, 14, [1, 156, 2, 976, 568, 132]), (14, .istore_n 1, 15, []), (15, .aload_n 0, 16, []), (16, .getfield 87, 19, [0, 13, 8, 849]), (19, .getfield 125, 22, [1, 12, 3, 809, 0]), (22, .getfield 179, 25, [1, 10, 4, 502, 0]), (25, .invokestatic 182, 28, [1, 360, 1, 961, 962, 157]), (28, .aload_n 0, 29, []), (29, .getfield 87, 32, [0, 13, 8, 849]), (32, .getfield 118, 35, [1, 12, 0, 803, 0]), (35, .invokevirtual 121, 38, [0, 28, 1, 5, 977, 978, 979, 134]), (38, .isub, 39, []), (39, .iload_n 1, 40, []), (40, .isub, 41, []), (41, .ireturn, 42, [])]
/-- WhoKnows.share()F -/
def mm_c132 : List mm_I := [(0, .aload_n 0, 1, []), (1, .getfield 87, 4, [0, 13, 8, 849]), (4, .getfield 125, 7, [1, 12, 3, 809, 0]), (7, .getfield 179, 10, [1, 10, 4, 502, 0]), (10, .invokestatic 182, 13, [1, 360, 1, 961, 962, 157]), (13, .istore_n 1, 14, []), (14, .iload_n 1, 15, []), (15, .ifCond .ne 7, 18, [22]), (18, .fconst 0, 19, []), (19, .goto 17, 22, [36]), (22, .aload_n 0, 23, []), (23, .getfield 87, 26, [0, 13, 8, 849]), (26, .getfield 118, 29, [1, 12, 0, 803, 0]), (29, .invokevirtual 121, 32, [0, 28, 1, 5, 977, 978, 979, 134]), (32, .i2f, 33, []), (33, .iload_n 1, 34, []), (34, .i2f, 35, []), (35, .fdiv, 36, []), (36, .freturn, 37, [])]
/-- WhoKnows.meanAlike()D -/
def mm_c133 : List mm_I := [(0, .iconst 0, 1, []), (1, .istore_n 1, 2, []), (2, .iconst 0, 3, []), (3, .istore_n 2, 4, []), (4, .iload_n 2, 5, []), (5, .aload_n 0, 6, []), (6, .getfield 87, 9, [0, 13, 8, 849]), (9, .getfield 125, 12, [1, 12, 3, 809, 0]), (12, .getfield 176, 15, [1, 10, 1, 493, 0]), (15, .getfield 173, 18, [1, 7, 1, 474, 0]), (18, .if_icmp .ge 23, 21, [41]), (21, .iload_n 1, 22, []), (22, .aload_n 0, 23, []), (23, .getfield 87, 26, [0, 13, 8, 849]), (26, .getfield 118, 29, [1, 12, 0, 803, 0]), (29, .iload_n 2, 30, []), (30, .invokevirtual 237, 33, [0, 31, 2, 5, 990, 991, 992, 134]), (33, .iadd, 34, []), (34, .istore_n 1, 35, []), (35, .iinc 2 1, 38, []), (38, .goto (-34), 41, [4]), (41, .aload_n 0, 42, []), (42, .getfield 87, 45, [0, 13, 8, 849]), (45, .getfield 118, 48, [1, 12, 0, 803, 0]), (48, .invokevirtual 121, 51, [0, 28, 1, 5, 977, 978, 979, 134]), (51, .aload_n 0, 52, []), (52, .getfield 87, 55, [0, 13, 8, 849]), (55, .getfield 125, 58, [1, 12, 3, 809, 0]), (58, .getfield 176, 61, [1, 10, 1, 493, 0]), (61, .getfield 173, 64, [1, 7, 1, 474, 0]), (64, .imul, 65, []), (65, .istore_n 2, 66, []), (66, .iload_n 2, 67, []), (67, .ifCond .ne 7, 70, [74]), (70, .dconst 0, 71, []), (71, .goto 8, 74, [79]), (74, .iload_n 1, 75, []), (75, .i2d, 76, []), (76, .iload_n 2, 77, []), (77, .i2d, 78, []), (78, .ddiv, 79, []), (79, .dreturn, 80, [])]
/-- WhoKnows.announce()I -/
def mm_c134 : List mm_I := [(0, .aload_n 0, 1, []), (1, .iconst (-1), 2, []), (2, .aload_n 0, 3, []), (3, .getfield 87, 6, [0, 13, 8, 849]), (6, .invokevirtual 249, 9, [0, 89, 1, 12, 900, 901, 902, 149]), (9, .invokevirtual 301, 12, [0, 154, 3, 13, 998, 1000, 27, 132]), (12, .ireturn, 13, [])]
/-- WhoKnows.say(I)I -/
def mm_c135 : List mm_I := [(0, .aload_n 0, 1, []), (1, .iload_n 1, 2, []), (2, .invokevirtual 214, 5, [0, 146, 2, 13, 1623, 1625, 38, 132]), (5, .aload_n 0, 6, []), (6, .iload_n 1, 7, []), (7, .aload_n 0, 8, []), (8, .getfield 87, 11, [0, 13, 8, 849]), (11, .invokevirtual 249, 14, [0, 89, 1, 12, 900, 901, 902, 149]), (14, .invokevirtual 301, 17, [0, 154, 3, 13, 998, 1000, 27, 132]), (17, .ireturn, 18, [])]
/-- WhoKnows.whisper(I)I -/
def mm_c136 : List mm_I := [(0, .aload_n 0, 1, []), (1, .iload_n 1, 2, []), (2, .invokevirtual 277, 5, [0, 149, 2, 13, 1708, 1710, 41, 132]), (5, .iload_n 1, 6, []), (6, .ifCond .ne 11, 9, [17]), (9, .new 112, 12, [1, 15, 1480, 114]), (12, .dup, 13, []), (16, .athrow, 17, []), (17, .aload_n 0, 18, []), (18, .invokevirtual 131, 21, [0, 150, 1, 13, 1002, 1004, 28, 132]), (21, .aload_n 0, 22, []), (22, .getfield 87, 25, [0, 13, 8, 849]), (25, .iconst 2, 26, []), (26, .iload_n 1, 27, []), (27, .aload_n 0, 28, []), (28, .getfield 87, 31, [0, 13, 8, 849]), (31, .invokevirtual 249, 34, [0, 89, 1, 12, 900, 901, 902, 149]), (34, .invokevirtual 304, 37, [0, 93, 4, 12, 1762, 1560, 1561, 149]), (37, .ireturn, 38, [])]
/-- WhoKnows.show(II)I -/
def mm_c137 : List mm_I := [(0, .aload_n 0, 1, []), (1, .iload_n 1, 2, []), (2, .invokevirtual 214, 5, [0, 146, 2, 13, 1623, 1625, 38, 132]), (5, .aload_n 0, 6, []), (6, .iload_n 2, 7, []), (7, .invokevirtual 268, 10, [0, 147, 2, 13, 1690, 1692, 40, 132]), (10, .aload_n 0, 11, []), (11, .invokevirtual 131, 14, [0, 150, 1, 13, 1002, 1004, 28, 132]), (14, .aload_n 0, 15, []), (15, .getfield 87, 18, [0, 13, 8, 849]), (18, .iconst 3, 19, []), (19, .iload_n 1, 20, []), (20, .invokestatic 240, 23, [1, 160, 1, 926, 722, 132]), (23, .getstatic 271, 26, [0, 4, 831]), (26, .iload_n 2, 27, []), (27, .invokestatic 220, 30, [1, 156, 2, 976, 568, 132]), (30, .invokevirtual 304, 33, [0, 93, 4, 12, 1762, 1560, 1561, 149]), (33, .ireturn, 34, [])]
/-- WhoKnows.round(I)I -/
def mm_c138 : List mm_I := [(0, .aload_n 0, 1, []), (1, .iload_n 1, 2, []), (2, .invokevirtual 268, 5, [0, 147, 2, 13, 1690, 1692, 40, 132]), (5, .aload_n 0, 6, []), (6, .invokevirtual 131, 9, [0, 150, 1, 13, 1002, 1004, 28, 132]), (9, .aload_n 0, 10, []), (10, .getfield 87, 13, [0, 13, 8, 849]), (13, .iload_n 1, 14, []), (14, .invokevirtual 306, 17, [0, 94, 2, 12, 1777, 1548, 1549, 149]), (17, .ireturn, 18, [])]
/-- WhoKnows.writeWorld(I)I -/
def mm_c139 : List mm_I := [(0, .aload_n 0, 1, []), (1, .iload_n 1, 2, []), (2, .invokevirtual 227, 5, [0, 148, 2, 13, 1634, 1636, 39, 132]), (5, .aload_n 0, 6, []), (6, .getfield 64, 9, [0, 13, 7, 848]), (9, .iconst 0, 10, []), (10, .invokevirtual 309, 13, [0, 377, 2, 1, 1058, 1059, 1060, 141]), (13, .aload_n 0, 14, []), (14, .getfield 87, 17, [0, 13, 8, 849]), (17, .getfield 118, 20, [1, 12, 0, 803, 0]), (20, .getfield 224, 23, [1, 5, 1, 236, 0]), (23, .iload_n 1, 24, []), (24, .invokestatic 252, 27, [1, 159, 2, 763, 715, 132]), (27, .ifCond .ne 14, 30, [41]), (30, .aload_n 0, 31, []), (31, .getfield 64, 34, [0, 13, 7, 848]), (34, .ldc_w 312, 37, [1, 46, 1785]), (37, .invokevirtual 314, 40, [0, 372, 2, 1, 1786, 1074, 1075, 141]), (40, .pop, 41, []), (41, .iload_n 1, 42, []), (42, .aload_n 0, 43, []), (43, .getfield 87, 46, [0, 13, 8, 849]), (46, .getfield 125, 49, [1, 12, 3, 809, 0]), (49, .getfield 188, 52, [1, 10, 5, 506, 0]), (52, .if_icmp .ne 13, 55, [65]), (55, .aload_n 0, 56, []), (56, .getfield 64, 59, [0, 13, 7, 848]), (59, .bipush 33, 61, []), (61, .invokevirtual 318, 64, [0, 373, 2, 1, 1787, 1397, 1398, 141]), (64, .pop, 65, []), (65, .iconst 1, 66, []), (66, .istore_n 2, 67, []), (67, .iconst 0, 68, []), (68, .istore_n 3, 69, []), (69, .iload_n 3, 70, []), (70, .aload_n 0, 71, []), (71, .getfield 87, 74, [0, 13, 8, 849]), (74, .getfield 125, 77, [1, 12, 3, 809, 0]), (77, .getfield 167, 80, [1, 10, 0, 486, 0]), (80, .getfield 173, 83, [1, 7, 1, 474, 0]), (83, .if_icmp .ge 51, 86, [134]), (86, .iload_n 1, 87, []), (87, .iload_n 3, 88, []), (88, .invokestatic 252, 91, [1, 159, 2, 763, 715, 132]), (91, .ifCond .eq 37, 94, [128]), (94, .iload_n 2, 95, []), (95, .ifCond .ne 13, 98, [108]), (98, .aload_n 0, 99, []), (99, .getfield 64, 102, [0, 13, 7, 848]), (102, .bipush 43, 104, []), (104, .invokevirtual 318, 107, [0, 373, 2, 1, 1787, 1397, 1398, 141]), (107, .pop, 108, []), (108, .aload_n 0, 109, []), (109, .getfield 87, 112, [0, 13, 8, 849]), (112, .getfield 125, 115, [1, 12, 3, 809, 0]), (115, .getfield 167, 118, [1, 10, 0, 486, 0]), (118, .aload_n 0, 119, []), (119, .getfield 64, 122, [0, 13, 7, 848]), (122, .iload_n 3, 123, []), (123, .invokevirtual 321, 126, [0, 53, 3, 7, 1788, 1388, 1389, 148]), (126, .iconst 0, 127, []), (127, .istore_n 2, 128, []), (128, .iinc 3 1, 131, []), (131, .goto (-62), 134, [69]), (134, .iload_n 2, 135, []), (135, .ifCond .eq 13, 138, [148]), (138, .aload_n 0, 139, []), (139, .getfield 64, 142, [0, 13, 7, 848]), (142, .bipush 45, 144, []), (144, .invokevirtual 318, 147, [0, 373, 2, 1, 1787, 1397, 1398, 141]), (147, .pop, 148, []), (148, .aload_n 0, 149, []), (149, .getfield 64, 152, [0, 13, 7, 848]), (152, .invokevirtual 325, 155, [0, 378, 1, 1, 1416, 1215, 2511, 141]), (155, .ireturn, 156, [])]
/-- WhoKnows.writeKinds(I)I -/
def mm_c140 : List mm_I := [(0, .aload_n 0, 1, []), (1, .iload_n 1, 2, []), (2, .invokevirtual 214, 5, [0, 146, 2, 13, 1623, 1625, 38, 132]), (5, .aload_n 0, 6, []), (6, .getfield 64, 9, [0, 13, 7, 848]), (9, .iconst 0, 10, []), (10, .invokevirtual 309, 13, [0, 377, 2, 1, 1058, 1059, 1060, 141]), (13, .iconst 0, 14, []), (14, .istore_n 2, 15, []), (15, .iload_n 2, 16, []), (16, .bipush 32, 18, []), (18, .if_icmp .ge 61, 21, [79]), (21, .aload_n 0, 22, []), (22, .getfield 87, 25, [0, 13, 8, 849]), (25, .getfield 118, 28, [1, 12, 0, 803, 0]), (28, .iload_n 1, 29, []), (29, .iload_n 2, 30, []), (30, .invokevirtual 233, 33, [0, 30, 3, 5, 1646, 1647, 1648, 134]), (33, .ifCond .eq 40, 36, [73]), (36, .aload_n 0, 37, []), (37, .getfield 64, 40, [0, 13, 7, 848]), (40, .invokevirtual 325, 43, [0, 378, 1, 1, 1416, 1215, 2511, 141]), (43, .ifCond .le 13, 46, [56]), (46, .aload_n 0, 47, []), (47, .getfield 64, 50, [0, 13, 7, 848]), (50, .bipush 124, 52, []), (52, .invokevirtual 318, 55, [0, 373, 2, 1, 1787, 1397, 1398, 141]), (55, .pop, 56, []), (56, .aload_n 0, 57, []), (57, .aload_n 0, 58, []), (58, .getfield 87, 61, [0, 13, 8, 849]), (61, .getfield 118, 64, [1, 12, 0, 803, 0]), (64, .iload_n 1, 65, []), (65, .iload_n 2, 66, []), (66, .invokevirtual 230, 69, [0, 29, 3, 5, 1638, 718, 719, 134]), (69, .iload_n 2, 70, []), (70, .invokevirtual 327, 73, [0, 155, 3, 13, 1796, 1798, 42, 132]), (73, .iinc 2 1, 76, []), (76, .goto (-61), 79, [15]), (79, .aload_n 0, 80, []), (80, .getfield 64, 83, [0, 13, 7, 848]), (83, .invokevirtual 325, 86, [0, 378, 1, 1, 1416, 1215, 2511, 141]), (86, .ireturn, 87, [])]
/-- WhoKnows.writeQuestion()I -/
def mm_c141 : List mm_I := [(0, .aload_n 0, 1, []), (1, .getfield 64, 4, [0, 13, 7, 848]), (4, .iconst 0, 5, []), (5, .invokevirtual 309, 8, [0, 377, 2, 1, 1058, 1059, 1060, 141]), (8, .aload_n 0, 9, []), (9, .getfield 87, 12, [0, 13, 8, 849]), (12, .getfield 153, 15, [1, 12, 1, 805, 0]), (15, .aload_n 0, 16, []), (16, .getfield 64, 19, [0, 13, 7, 848]), (19, .aload_n 0, 20, []), (20, .getfield 87, 23, [0, 13, 8, 849]), (23, .getfield 125, 26, [1, 12, 3, 809, 0]), (26, .aload_n 0, 27, []), (27, .getfield 57, 30, [0, 13, 6, 847]), (30, .invokevirtual 331, 33, [0, 13, 4, 3, 1374, 1375, 1376, 135]), (33, .aload_n 0, 34, []), (34, .getfield 64, 37, [0, 13, 7, 848]), (37, .invokevirtual 325, 40, [0, 378, 1, 1, 1416, 1215, 2511, 141]), (40, .ireturn, 41, [])]
/-- WhoKnows.outputByte(I)I -/
def mm_c142 : List mm_I := [(0, .iload_n 1, 1, []), (1, .ifCond .lt 25, 4, [26]), (4, .iload_n 1, 5, []), (5, .aload_n 0, 6, []), (6, .getfield 64, 9, [0, 13, 7, 848]), (9, .invokevirtual 325, 12, [0, 378, 1, 1, 1416, 1215, 2511, 141]), (12, .if_icmp .ge 14, 15, [26]), (15, .aload_n 0, 16, []), (16, .getfield 64, 19, [0, 13, 7, 848]), (19, .iload_n 1, 20, []), (20, .invokevirtual 334, 23, [0, 376, 2, 1, 1421, 1422, 1423, 141]), (23, .goto 4, 26, [27]), (26, .iconst (-1), 27, []), (27, .ireturn, 28, [])]
/-- WhoKnows.undo()I -/
def mm_c143 : List mm_I := [(0, .aload_n 0, 1, []), (1, .getfield 204, 4, [0, 13, 12, 853]), (4, .ifCond .ne 5, 7, [9]), (7, .iconst (-1), 8, []), (8, .ireturn, 9, []), (9, .aload_n 0, 10, []), (10, .aload_n 0, 11, []), (11, .getfield 338, 14, [0, 13, 13, 854]), (14, .ifCond .ne 8, 17, [22]), (17, .bipush 7, 19, []), (19, .goto 9, 22, [28]), (22, .aload_n 0, 23, []), (23, .getfield 338, 26, [0, 13, 13, 854]), (26, .iconst 1, 27, []), (27, .isub, 28, []), (28, .putfield 338, 31, [0, 13, 13, 854]), (31, .aload_n 0, 32, []), (32, .dup, 33, []), (33, .getfield 204, 36, [0, 13, 12, 853]), (36, .iconst 1, 37, []), (37, .isub, 38, []), (38, .putfield 204, 41, [0, 13, 12, 853]), (41, .aload_n 0, 42, []), (42, .aload_n 0, 43, []), (43, .getfield 338, 46, [0, 13, 13, 854]), (46, .invokevirtual 341, 49, [0, 152, 2, 13, 1006, 1008, 29, 132]), (49, .astore_n 1, 50, []), (50, .aload_n 1, 51, []), (51, .ifnull 11, 54, [62]), (54, .aload_n 0, 55, []), (55, .getfield 87, 58, [0, 13, 8, 849]), (58, .aload_n 1, 59, []), (59, .invokevirtual 345, 62, [0, 88, 2, 12, 1010, 1011, 1012, 149]), (62, .aload_n 0, 63, []), (63, .getfield 204, 66, [0, 13, 12, 853]), (66, .ireturn, 67, [])]
/-- WhoKnows.save()I -/
def mm_c144 : List mm_I := [(0, .aload_n 0, 1, []), (1, .getfield 94, 4, [0, 13, 9, 850]), (4, .aload_n 0, 5, []), (5, .getfield 87, 8, [0, 13, 8, 849]), (8, .invokevirtual 345, 11, [0, 88, 2, 12, 1010, 1011, 1012, 149]), (11, .aload_n 0, 12, []), (12, .iconst 1, 13, []), (13, .putfield 348, 16, [0, 13, 11, 852]), (16, .aload_n 0, 17, []), (17, .getfield 87, 20, [0, 13, 8, 849]), (20, .getfield 118, 23, [1, 12, 0, 803, 0]), (23, .invokevirtual 121, 26, [0, 28, 1, 5, 977, 978, 979, 134]), (26, .ireturn, 27, [])]
/-- WhoKnows.restore()I -/
def mm_c145 : List mm_I := [(0, .aload_n 0, 1, []), (1, .getfield 348, 4, [0, 13, 11, 852]), (4, .ifCond .ne 11, 7, [15]), (7, .new 105, 10, [1, 17, 1447, 107]), (10, .dup, 11, []), (14, .athrow, 15, []), (15, .aload_n 0, 16, []), (16, .getfield 87, 19, [0, 13, 8, 849]), (19, .aload_n 0, 20, []), (20, .getfield 94, 23, [0, 13, 9, 850]), (23, .invokevirtual 345, 26, [0, 88, 2, 12, 1010, 1011, 1012, 149]), (26, .aload_n 0, 27, []), (27, .invokevirtual 115, 30, [0, 151, 1, 13, 1492, 1494, 34, 132]), (30, .aload_n 0, 31, []), (31, .getfield 87, 34, [0, 13, 8, 849]), (34, .getfield 118, 37, [1, 12, 0, 803, 0]), (37, .invokevirtual 121, 40, [0, 28, 1, 5, 977, 978, 979, 134]), (40, .ireturn, 41, [])]
/-- WhoKnows.needPerson(I)V -/
def mm_c146 : List mm_I := [(0, .iload_n 1, 1, []), (1, .ifCond .lt 20, 4, [21]), (4, .iload_n 1, 5, []), (5, .aload_n 0, 6, []), (6, .getfield 87, 9, [0, 13, 8, 849]), (9, .getfield 125, 12, [1, 12, 3, 809, 0]), (12, .getfield 176, 15, [1, 10, 1, 493, 0]), (15, .getfield 173, 18, [1, 7, 1, 474, 0]), (18, .if_icmp .lt 11, 21, [29]), (21, .new 207, 24, [1, 16, 1600, 209]), (24, .dup, 25, []), (28, .athrow, 29, []), (29, .return_, 30, [])]
/-- WhoKnows.needFact(I)V -/
def mm_c147 : List mm_I := [(0, .iload_n 1, 1, []), (1, .ifCond .lt 20, 4, [21]), (4, .iload_n 1, 5, []), (5, .aload_n 0, 6, []), (6, .getfield 87, 9, [0, 13, 8, 849]), (9, .getfield 125, 12, [1, 12, 3, 809, 0]), (12, .getfield 167, 15, [1, 10, 0, 486, 0]), (15, .getfield 173, 18, [1, 7, 1, 474, 0]), (18, .if_icmp .lt 11, 21, [29]), (21, .new 207, 24, [1, 16, 1600, 209]), (24, .dup, 25, []), (28, .athrow, 29, []), (29, .return_, 30, [])]
/-- WhoKnows.needWorld(I)V -/
def mm_c148 : List mm_I := [(0, .iload_n 1, 1, []), (1, .ifCond .lt 22, 4, [23]), (4, .iload_n 1, 5, []), (5, .iconst 1, 6, []), (6, .aload_n 0, 7, []), (7, .getfield 87, 10, [0, 13, 8, 849]), (10, .getfield 125, 13, [1, 12, 3, 809, 0]), (13, .getfield 167, 16, [1, 10, 0, 486, 0]), (16, .getfield 173, 19, [1, 7, 1, 474, 0]), (19, .ishl, 20, []), (20, .if_icmp .lt 11, 23, [31]), (23, .new 207, 26, [1, 16, 1600, 209]), (26, .dup, 27, []), (30, .athrow, 31, []), (31, .return_, 32, [])]
/-- WhoKnows.needPersons(I)V -/
def mm_c149 : List mm_I := [(0, .iload_n 1, 1, []), (1, .aload_n 0, 2, []), (2, .getfield 87, 5, [0, 13, 8, 849]), (5, .getfield 125, 8, [1, 12, 3, 809, 0]), (8, .getfield 176, 11, [1, 10, 1, 493, 0]), (11, .getfield 173, 14, [1, 7, 1, 474, 0]), (14, .invokestatic 286, 17, [1, 161, 1, 1712, 614, 132]), (17, .iconst (-1), 18, []), (18, .ixor, 19, []), (19, .iand, 20, []), (20, .ifCond .eq 11, 23, [31]), (23, .new 112, 26, [1, 15, 1480, 114]), (26, .dup, 27, []), (30, .athrow, 31, []), (31, .return_, 32, [])]
/-- WhoKnows.remember()V -/
def mm_c150 : List mm_I := [(0, .aload_n 0, 1, []), (1, .aload_n 0, 2, []), (2, .getfield 338, 5, [0, 13, 13, 854]), (5, .invokevirtual 341, 8, [0, 152, 2, 13, 1006, 1008, 29, 132]), (8, .astore_n 1, 9, []), (9, .aload_n 1, 10, []), (10, .ifnull 11, 13, [21]), (13, .aload_n 1, 14, []), (14, .aload_n 0, 15, []), (15, .getfield 87, 18, [0, 13, 8, 849]), (18, .invokevirtual 345, 21, [0, 88, 2, 12, 1010, 1011, 1012, 149]), (21, .aload_n 0, 22, []), (22, .aload_n 0, 23, []), (23, .getfield 338, 26, [0, 13, 13, 854]), (26, .bipush 7, 28, []), (28, .if_icmp .ne 7, 31, [35]), (31, .iconst 0, 32, []), (32, .goto 9, 35, [41]), (35, .aload_n 0, 36, []), (36, .getfield 338, 39, [0, 13, 13, 854]), (39, .iconst 1, 40, []), (40, .iadd, 41, []), (41, .putfield 338, 44, [0, 13, 13, 854]), (44, .aload_n 0, 45, []), (45, .aload_n 0, 46, []), (46, .getfield 204, 49, [0, 13, 12, 853]), (49, .iconst 1, 50, []), (50, .iadd, 51, []), (51, .bipush 8, 53, []), (53, .invokestatic 352, 56, [12, 1021]), (56, .putfield 204, 59, [0, 13, 12, 853]), (59, .return_, 60, [])]
/-- WhoKnows.forgetChanges()V -/
def mm_c151 : List mm_I := [(0, .aload_n 0, 1, []), (1, .iconst 0, 2, []), (2, .putfield 204, 5, [0, 13, 12, 853]), (5, .aload_n 0, 6, []), (6, .iconst 0, 7, []), (7, .putfield 338, 10, [0, 13, 13, 854]), (10, .return_, 11, [])]
/-- WhoKnows.pastAt(I)LWhoKnows$State; -/
def mm_c152 : List mm_I := [(0, .iload_n 1, 1, []), (1, .ifCond .lt 21, 4, [22]), (4, .iload_n 1, 5, []), (5, .aload_n 0, 6, []), (6, .getfield 97, 9, [0, 13, 10, 851]), (9, .arraylength, 10, []), (10, .if_icmp .ge 12, 13, [22]), (13, .aload_n 0, 14, []), (14, .getfield 97, 17, [0, 13, 10, 851]), (17, .iload_n 1, 18, []), (18, .aaload, 19, []), (19, .goto 4, 22, [23]), (22, .aconst_null, 23, []), (23, .areturn, 24, [])]
/-- WhoKnows.foretell(II)I -/
def mm_c153 : List mm_I := [(0, .aload_n 0, 1, []), (1, .getfield 87, 4, [0, 13, 8, 849]), (4, .iload_n 1, 5, []), (5, .iload_n 2, 6, []), (6, .invokevirtual 357, 9, [0, 90, 3, 12, 950, 951, 952, 149]), (9, .istore_n 3, 10, []), (10, .iload_n 3, 11, []), (11, .ifCond .eq 8, 14, [19]), (14, .iload_n 3, 15, []), (15, .ineg, 16, []), (16, .goto 15, 19, [31]), (19, .aload_n 0, 20, []), (20, .getfield 87, 23, [0, 13, 8, 849]), (23, .iload_n 1, 24, []), (24, .iload_n 2, 25, []), (25, .invokevirtual 360, 28, [0, 91, 3, 12, 960, 956, 957, 149]), (28, .invokestatic 182, 31, [1, 360, 1, 961, 962, 157]), (31, .ireturn, 32, [])]
/-- WhoKnows.tell(II)I -/
def mm_c154 : List mm_I := [(0, .aload_n 0, 1, []), (1, .getfield 87, 4, [0, 13, 8, 849]), (4, .iload_n 1, 5, []), (5, .iload_n 2, 6, []), (6, .invokevirtual 357, 9, [0, 90, 3, 12, 950, 951, 952, 149]), (9, .istore_n 3, 10, []), (10, .iload_n 3, 11, []), (11, .ifCond .eq 6, 14, [17]), (14, .iload_n 3, 15, []), (15, .ineg, 16, []), (16, .ireturn, 17, []), (17, .aload_n 0, 18, []), (18, .invokevirtual 131, 21, [0, 150, 1, 13, 1002, 1004, 28, 132]), (21, .aload_n 0, 22, []), (22, .getfield 87, 25, [0, 13, 8, 849]), (25, .iload_n 1, 26, []), (26, .iload_n 2, 27, []), (27, .invokevirtual 363, 30, [0, 92, 3, 12, 1035, 1036, 1037, 149]), (30, .aload_n 0, 31, []), (31, .getfield 87, 34, [0, 13, 8, 849]), (34, .getfield 118, 37, [1, 12, 0, 803, 0]), (37, .invokevirtual 121, 40, [0, 28, 1, 5, 977, 978, 979, 134]), (40, .ireturn, 41, [])]
/-- WhoKnows.writeKind(II)V -/
def mm_c155 : List mm_I := [(0, .iload_n 2, 1, []), (1, .istore_n 3, 2, []), (2, .iload_n 3, 3, []), (3, .bipush 32, 5, []), (5, .if_icmp .ge 41, 8, [46]), (8, .iload_n 1, 9, []), (9, .iload_n 3, 10, []), (10, .invokestatic 252, 13, [1, 159, 2, 763, 715, 132]), (13, .ifCond .eq 27, 16, [40]), (16, .iload_n 3, 17, []), (17, .iload_n 2, 18, []), (18, .if_icmp .eq 13, 21, [31]), (21, .aload_n 0, 22, []), (22, .getfield 64, 25, [0, 13, 7, 848]), (25, .bipush 32, 27, []), (27, .invokevirtual 318, 30, [0, 373, 2, 1, 1787, 1397, 1398, 141]), (30, .pop, 31, []), (31, .aload_n 0, 32, []), (32, .getfield 64, 35, [0, 13, 7, 848]), (35, .iload_n 3, 36, []), (36, .invokevirtual 365, 39, [0, 374, 2, 1, 1800, 1169, 1170, 141]), (39, .pop, 40, []), (40, .iinc 3 1, 43, []), (43, .goto (-41), 46, [2]), (46, .return_, 47, [])]
/-- WhoKnows.at([II)I -/
def mm_c156 : List mm_I := [(0, .iload_n 1, 1, []), (1, .ifCond .lt 15, 4, [16]), (4, .iload_n 1, 5, []), (5, .aload_n 0, 6, []), (6, .arraylength, 7, []), (7, .if_icmp .ge 9, 10, [16]), (10, .aload_n 0, 11, []), (11, .iload_n 1, 12, []), (12, .iaload, 13, []), (13, .goto 4, 16, [17]), (16, .iconst 0, 17, []), (17, .ireturn, 18, [])]
/-- WhoKnows.put([III)V -/
def mm_c157 : List mm_I := [(0, .iload_n 1, 1, []), (1, .ifCond .lt 13, 4, [14]), (4, .iload_n 1, 5, []), (5, .aload_n 0, 6, []), (6, .arraylength, 7, []), (7, .if_icmp .ge 7, 10, [14]), (10, .aload_n 0, 11, []), (11, .iload_n 1, 12, []), (12, .iload_n 2, 13, []), (13, .iastore, 14, []), (14, .return_, 15, [])]
/-- WhoKnows.copyRow([I[I)V -/
def mm_c158 : List mm_I := [(0, .aload_n 0, 1, []), (1, .iconst 0, 2, []), (2, .aload_n 1, 3, []), (3, .iconst 0, 4, []), (4, .aload_n 0, 5, []), (5, .arraylength, 6, []), (6, .aload_n 1, 7, []), (7, .arraylength, 8, []), (8, .invokestatic 352, 11, [12, 1021]), (11, .invokestatic 368, 14, [10, 1022]), (14, .return_, 15, [])]
/-- WhoKnows.isIn(II)Z -/
def mm_c159 : List mm_I := [(0, .iload_n 1, 1, []), (1, .ifCond .lt 22, 4, [23]), (4, .iload_n 1, 5, []), (5, .bipush 32, 7, []), (7, .if_icmp .ge 16, 10, [23]), (10, .iload_n 0, 11, []), (11, .iload_n 1, 12, []), (12, .iushr, 13, []), (13, .iconst 1, 14, []), (14, .iand, 15, []), (15, .iconst 1, 16, []), (16, .if_icmp .ne 7, 19, [23]), (19, .iconst 1, 20, []), (20, .goto 4, 23, [24]), (23, .iconst 0, 24, []), (24, .ireturn, 25, [])]
/-- WhoKnows.setOf(I)I -/
def mm_c160 : List mm_I := [(0, .iload_n 0, 1, []), (1, .ifCond .lt 15, 4, [16]), (4, .iload_n 0, 5, []), (5, .bipush 32, 7, []), (7, .if_icmp .ge 9, 10, [16]), (10, .iconst 1, 11, []), (11, .iload_n 0, 12, []), (12, .ishl, 13, []), (13, .goto 4, 16, [17]), (16, .iconst 0, 17, []), (17, .ireturn, 18, [])]
/-- WhoKnows.allBelow(I)I -/
def mm_c161 : List mm_I := [(0, .iload_n 0, 1, []), (1, .bipush 32, 3, []), (3, .if_icmp .lt 7, 6, [10]), (6, .iconst (-1), 7, []), (7, .goto 8, 10, [15]), (10, .iconst 1, 11, []), (11, .iload_n 0, 12, []), (12, .ishl, 13, []), (13, .iconst 1, 14, []), (14, .isub, 15, []), (15, .ireturn, 16, [])]
/-- WhoKnows.lowestOf(I)I -/
def mm_c162 : List mm_I := [(0, .iconst 0, 1, []), (1, .istore_n 1, 2, []), (2, .iload_n 1, 3, []), (3, .bipush 32, 5, []), (5, .if_icmp .ge 19, 8, [24]), (8, .iload_n 0, 9, []), (9, .iload_n 1, 10, []), (10, .invokestatic 252, 13, [1, 159, 2, 763, 715, 132]), (13, .ifCond .eq 5, 16, [18]), (16, .iload_n 1, 17, []), (17, .ireturn, 18, []), (18, .iinc 1 1, 21, []), (21, .goto (-19), 24, [2]), (24, .iconst (-1), 25, []), (25, .ireturn, 26, [])]
/-- WhoKnows.agreeing(II)I -/
def mm_c163 : List mm_I := [(0, .iconst (-1), 1, []), (1, .istore_n 2, 2, []), (2, .iconst 0, 3, []), (3, .istore_n 3, 4, []), (4, .iload_n 3, 5, []), (5, .getstatic 271, 8, [0, 4, 831]), (8, .arraylength, 9, []), (9, .if_icmp .ge 45, 12, [54]), (12, .iload_n 1, 13, []), (13, .iload_n 3, 14, []), (14, .iushr, 15, []), (15, .iconst 1, 16, []), (16, .iand, 17, []), (17, .iconst 1, 18, []), (18, .if_icmp .ne 30, 21, [48]), (21, .iload_n 2, 22, []), (22, .iload_n 0, 23, []), (23, .iload_n 3, 24, []), (24, .iushr, 25, []), (25, .iconst 1, 26, []), (26, .iand, 27, []), (27, .iconst 1, 28, []), (28, .if_icmp .ne 11, 31, [39]), (31, .getstatic 271, 34, [0, 4, 831]), (34, .iload_n 3, 35, []), (35, .iaload, 36, []), (36, .goto 10, 39, [46]), (39, .getstatic 271, 42, [0, 4, 831]), (42, .iload_n 3, 43, []), (43, .iaload, 44, []), (44, .iconst (-1), 45, []), (45, .ixor, 46, []), (46, .iand, 47, []), (47, .istore_n 2, 48, []), (48, .iinc 3 1, 51, []), (51, .goto (-47), 54, [4]), (54, .iload_n 2, 55, []), (55, .ireturn, 56, [])]
/-- WhoKnows.isPrefix(I)Z -/
def mm_c164 : List mm_I := [(0, .iload_n 0, 1, []), (1, .iconst 1, 2, []), (2, .if_icmp .lt 12, 5, [14]), (5, .iload_n 0, 6, []), (6, .iconst 5, 7, []), (7, .if_icmp .gt 7, 10, [14]), (10, .iconst 1, 11, []), (11, .goto 4, 14, [15]), (14, .iconst 0, 15, []), (15, .ireturn, 16, [])]
/-- WhoKnows.isJoin(I)Z -/
def mm_c165 : List mm_I := [(0, .iload_n 0, 1, []), (1, .bipush 6, 3, []), (3, .if_icmp .eq 9, 6, [12]), (6, .iload_n 0, 7, []), (7, .bipush 7, 9, []), (9, .if_icmp .ne 7, 12, [16]), (12, .iconst 1, 13, []), (13, .goto 4, 16, [17]), (16, .iconst 0, 17, []), (17, .ireturn, 18, [])]
/-- WhoKnows.namesPerson(I)Z -/
def mm_c166 : List mm_I := [(0, .iload_n 0, 1, []), (1, .iconst 2, 2, []), (2, .if_icmp .eq 8, 5, [10]), (5, .iload_n 0, 6, []), (6, .iconst 3, 7, []), (7, .if_icmp .ne 7, 10, [14]), (10, .iconst 1, 11, []), (11, .goto 4, 14, [15]), (14, .iconst 0, 15, []), (15, .ireturn, 16, [])]
/-- WhoKnows.nodeWord(I)Ljava/lang/String; -/
def mm_c167 : List mm_I := [(0, .iload_n 0, 1, []), (1, .tableswitch 63 1 6 #[39, 43, 47, 51, 55, 59], 40, [64, 40, 44, 48, 52, 56, 60]), (40, .ldc_w 374, 43, [1, 6, 547]), (43, .areturn, 44, []), (44, .ldc_w 376, 47, [1, 8, 548]), (47, .areturn, 48, []), (48, .ldc_w 378, 51, [1, 10, 549]), (51, .areturn, 52, []), (52, .ldc_w 380, 55, [1, 12, 550]), (55, .areturn, 56, []), (56, .ldc_w 382, 59, [1, 14, 551]), (59, .areturn, 60, []), (60, .ldc_w 384, 63, [1, 16, 552]), (63, .areturn, 64, []), (64, .ldc_w 386, 67, [1, 18, 553]), (67, .areturn, 68, [])]
/-- WhoKnows.actWord(I)Ljava/lang/String; -/
def mm_c168 : List mm_I := [(0, .iload_n 0, 1, []), (1, .tableswitch 47 0 3 #[31, 35, 39, 43], 32, [48, 32, 36, 40, 44]), (32, .ldc_w 388, 35, [1, 36, 1516]), (35, .areturn, 36, []), (36, .ldc_w 390, 39, [1, 38, 1517]), (39, .areturn, 40, []), (40, .ldc_w 392, 43, [1, 40, 1518]), (43, .areturn, 44, []), (44, .ldc_w 394, 47, [1, 42, 1519]), (47, .areturn, 48, []), (48, .ldc_w 396, 51, [1, 44, 1520]), (51, .areturn, 52, [])]
/-- WhoKnowsModel.<init>()V -/
def mm_c169 : List mm_I := [(0, .aload_n 0, 1, []), (1, .invokespecial 1, 4, [9, 1813]), (4, .aload_n 0, 5, []), (5, .sipush 564, 8, []), (8, .newarray .int, 10, [0]), (10, .putfield 7, 13, [0, 14, 0, 1828]), (13, .aload_n 0, 14, []), (14, .sipush 564, 17, []), (17, .newarray .int, 19, [0]), (19, .putfield 13, 22, [0, 14, 1, 1829]), (22, .aload_n 0, 23, []), (23, .sipush 564, 26, []), (26, .newarray .int, 28, [0]), (28, .putfield 16, 31, [0, 14, 2, 1830]), (31, .aload_n 0, 32, []), (32, .sipush 564, 35, []), (35, .newarray .int, 37, [0]), (37, .putfield 19, 40, [0, 14, 3, 1831]), (40, .aload_n 0, 41, []), (41, .sipush 4512, 44, []), (44, .newarray .int, 46, [0]), (46, .putfield 22, 49, [0, 14, 4, 1832]), (49, .aload_n 0, 50, []), (50, .bipush 60, 52, []), (52, .newarray .int, 54, [0]), (54, .putfield 25, 57, [0, 14, 8, 1836]), (57, .aload_n 0, 58, []), (58, .sipush 600, 61, []), (61, .newarray .int, 63, [0]), (63, .putfield 28, 66, [0, 14, 9, 1837]), (66, .aload_n 0, 67, []), (67, .iconst (-1), 68, []), (68, .putfield 31, 71, [0, 14, 17, 1845]), (71, .aload_n 0, 72, []), (72, .sipush 5061, 75, []), (75, .newarray .int, 77, [0]), (77, .putfield 35, 80, [0, 14, 18, 1846]), (80, .aload_n 0, 81, []), (81, .bipush 60, 83, []), (83, .newarray .int, 85, [0]), (85, .putfield 38, 88, [0, 14, 23, 1851]), (88, .aload_n 0, 89, []), (89, .sipush 2000, 92, []), (92, .newarray .int, 94, [0]), (94, .putfield 41, 97, [0, 14, 25, 1853]), (97, .aload_n 0, 98, []), (98, .getfield 7, 101, [0, 14, 0, 1828]), (101, .iconst 0, 102, []), (102, .iconst 1, 103, []), (103, .iastore, 104, []), (104, .aload_n 0, 105, []), (105, .getfield 7, 108, [0, 14, 0, 1828]), (108, .bipush 80, 110, []), (110, .iconst 1, 111, []), (111, .iastore, 112, []), (112, .aload_n 0, 113, []), (113, .getfield 7, 116, [0, 14, 0, 1828]), (116, .bipush 81, 118, []), (118, .bipush 97, 120, []), (120, .iastore, 121, []), (121, .aload_n 0, 122, []), (122, .getfield 7, 125, [0, 14, 0, 1828]), (125, .iconst 1, 126, []), (126, .iconst 1, 127, []), (127, .iastore, 128, []), (128, .aload_n 0, 129, []), (129, .getfield 7, 132, [0, 14, 0, 1828]), (132, .bipush 115, 134, []), (134, .iconst 1, 135, []), (135, .iastore, 136, []), (136, .aload_n 0, 137, []), (137, .getfield 7, 140, [0, 14, 0, 1828]), (140, .bipush 116, 142, []), (142, .bipush 112, 144, []), (144, .iastore, 145, []), (145, .aload_n 0, 146, []), (146, .iconst 3, 147, []), (147, .invokevirtual 44, 150, [0, 187, 2, 14, 1814, 1816, 43, 151]), (150, .aload_n 0, 151, []), (151, .getfield 7, 154, [0, 14, 0, 1828]), (154, .iconst 4, 155, []), (155, .iconst 0, 156, []), (156, .iastore, 157, []), (157, .return_, 158, [])]
/-- WhoKnowsModel.thrown()I -/
def mm_c170 : List mm_I := [(0, .aload_n 0, 1, []), (1, .getfield 48, 4, [0, 14, 6, 1834]), (4, .ireturn, 5, [])]
/-- WhoKnowsModel.in(JJJ)Z -/
def mm_c171 : List mm_I := [(0, .lload_n 0, 1, []), (1, .lload_n 2, 2, []), (2, .lcmp, 3, []), (3, .ifCond .lt 14, 6, [17]), (6, .lload_n 0, 7, []), (7, .lload 4, 9, []), (9, .lcmp, 10, []), (10, .ifCond .gt 7, 13, [17]), (13, .iconst 1, 14, []), (14, .goto 4, 17, [18]), (17, .iconst 0, 18, []), (18, .ireturn, 19, [])]
/-- WhoKnowsModel.truth(Z)I -/
def mm_c172 : List mm_I := [(0, .iload_n 0, 1, []), (1, .ifCond .eq 7, 4, [8]), (4, .iconst 1, 5, []), (5, .goto 4, 8, [9]), (8, .iconst 0, 9, []), (9, .ireturn, 10, [])]
/-- WhoKnowsModel.has(II)Z -/
def mm_c173 : List mm_I := [(0, .iload_n 0, 1, []), (1, .iload_n 1, 2, []), (2, .iushr, 3, []), (3, .iconst 1, 4, []), (4, .iand, 5, []), (5, .iconst 1, 6, []), (6, .if_icmp .ne 7, 9, [13]), (9, .iconst 1, 10, []), (10, .goto 4, 13, [14]), (13, .iconst 0, 14, []), (14, .ireturn, 15, [])]
/-- WhoKnowsModel.bits(I)I -/
def mm_c174 : List mm_I := [(0, .iconst 0, 1, []), (1, .istore_n 1, 2, []), (2, .iload_n 0, 3, []), (3, .istore_n 2, 4, []), (4, .iload_n 2, 5, []), (5, .ifCond .eq 15, 8, [20]), (8, .iinc 1 1, 11, []), (11, .iload_n 2, 12, []), (12, .iload_n 2, 13, []), (13, .iconst 1, 14, []), (14, .isub, 15, []), (15, .iand, 16, []), (16, .istore_n 2, 17, []), (17, .goto (-13), 20, [4]), (20, .iload_n 1, 21, []), (21, .ireturn, 22, [])]
/-- WhoKnowsModel.lowest(I)I -/
def mm_c175 : List mm_I := [(0, .iconst 0, 1, []), (1, .istore_n 1, 2, []), (2, .iload_n 1, 3, []), (3, .bipush 32, 5, []), (5, .if_icmp .ge 19, 8, [24]), (8, .iload_n 0, 9, []), (9, .iload_n 1, 10, []), (10, .invokestatic 51, 13, [1, 173, 2, 2094, 2095, 151]), (13, .ifCond .eq 5, 16, [18]), (16, .iload_n 1, 17, []), (17, .ireturn, 18, []), (18, .iinc 1 1, 21, []), (21, .goto (-19), 24, [2]), (24, .iconst (-1), 25, []), (25, .ireturn, 26, [])]
/-- WhoKnowsModel.passes(Z)Z -/
def mm_c176 : List mm_I := [(0, .aload_n 0, 1, []), (1, .iload_n 1, 2, []), (2, .ifCond .eq 7, 5, [9]), (5, .iconst 0, 6, []), (6, .goto 4, 9, [10]), (9, .iconst 1, 10, []), (10, .putfield 48, 13, [0, 14, 6, 1834]), (13, .iload_n 1, 14, []), (14, .ireturn, 15, [])]
/-- WhoKnowsModel.copies([II[II)V -/
def mm_c177 : List mm_I := [(0, .iconst 0, 1, []), (1, .istore 4, 3, []), (3, .iload 4, 5, []), (5, .sipush 564, 8, []), (8, .if_icmp .ge 21, 11, [29]), (11, .aload_n 2, 12, []), (12, .iload_n 3, 13, []), (13, .iload 4, 15, []), (15, .iadd, 16, []), (16, .aload_n 0, 17, []), (17, .iload_n 1, 18, []), (18, .iload 4, 20, []), (20, .iadd, 21, []), (21, .iaload, 22, []), (22, .iastore, 23, []), (23, .iinc 4 1, 26, []), (26, .goto (-23), 29, [3]), (29, .return_, 30, [])]
/-- WhoKnowsModel.facts()I -/
def mm_c178 : List mm_I := [(0, .aload_n 0, 1, []), (1, .getfield 7, 4, [0, 14, 0, 1828]), (4, .iconst 0, 5, []), (5, .iaload, 6, []), (6, .ireturn, 7, [])]
/-- WhoKnowsModel.persons()I -/
def mm_c179 : List mm_I := [(0, .aload_n 0, 1, []), (1, .getfield 7, 4, [0, 14, 0, 1828]), (4, .iconst 1, 5, []), (5, .iaload, 6, []), (6, .ireturn, 7, [])]
/-- WhoKnowsModel.isFact(I)Z -/
def mm_c180 : List mm_I := [(0, .iload_n 1, 1, []), (1, .i2l, 2, []), (2, .lconst 0, 3, []), (3, .aload_n 0, 4, []), (4, .invokevirtual 55, 7, [0, 178, 1, 14, 2002, 2004, 57, 151]), (7, .iconst 1, 8, []), (8, .isub, 9, []), (9, .i2l, 10, []), (10, .invokestatic 59, 13, [1, 171, 3, 1930, 1931, 151]), (13, .ireturn, 14, [])]
/-- WhoKnowsModel.isPerson(I)Z -/
def mm_c181 : List mm_I := [(0, .iload_n 1, 1, []), (1, .i2l, 2, []), (2, .lconst 0, 3, []), (3, .aload_n 0, 4, []), (4, .invokevirtual 63, 7, [0, 179, 1, 14, 1821, 1823, 44, 151]), (7, .iconst 1, 8, []), (8, .isub, 9, []), (9, .i2l, 10, []), (10, .invokestatic 59, 13, [1, 171, 3, 1930, 1931, 151]), (13, .ireturn, 14, [])]
/-- WhoKnowsModel.isWorld(I)Z -/
def mm_c182 : List mm_I := [(0, .iload_n 1, 1, []), (1, .i2l, 2, []), (2, .lconst 0, 3, []), (3, .iconst 1, 4, []), (4, .aload_n 0, 5, []), (5, .invokevirtual 55, 8, [0, 178, 1, 14, 2002, 2004, 57, 151]), (8, .ishl, 9, []), (9, .iconst 1, 10, []), (10, .isub, 11, []), (11, .i2l, 12, []), (12, .invokestatic 59, 15, [1, 171, 3, 1930, 1931, 151]), (15, .ireturn, 16, [])]
/-- WhoKnowsModel.everybody()I -/
def mm_c183 : List mm_I := [(0, .iconst 1, 1, []), (1, .aload_n 0, 2, []), (2, .invokevirtual 63, 5, [0, 179, 1, 14, 1821, 1823, 44, 151]), (5, .ishl, 6, []), (6, .iconst 1, 7, []), (7, .isub, 8, []), (8, .ireturn, 9, [])]
/-- WhoKnowsModel.worldsOf(I)I -/
def mm_c184 : List mm_I := [(0, .iconst 0, 1, []), (1, .istore_n 1, 2, []), (2, .iconst 0, 3, []), (3, .istore_n 2, 4, []), (4, .iload_n 2, 5, []), (5, .bipush 32, 7, []), (7, .if_icmp .ge 22, 10, [29]), (10, .iload_n 1, 11, []), (11, .iload_n 2, 12, []), (12, .iload_n 0, 13, []), (13, .invokestatic 51, 16, [1, 173, 2, 2094, 2095, 151]), (16, .invokestatic 66, 19, [1, 172, 1, 1825, 1826, 151]), (19, .iload_n 2, 20, []), (20, .ishl, 21, []), (21, .ior, 22, []), (22, .istore_n 1, 23, []), (23, .iinc 2 1, 26, []), (26, .goto (-22), 29, [4]), (29, .iload_n 1, 30, []), (30, .ireturn, 31, [])]
/-- WhoKnowsModel.isLeft(I)Z -/
def mm_c185 : List mm_I := [(0, .aload_n 0, 1, []), (1, .getfield 7, 4, [0, 14, 0, 1828]), (4, .iconst 2, 5, []), (5, .iaload, 6, []), (6, .iload_n 1, 7, []), (7, .invokestatic 51, 10, [1, 173, 2, 2094, 2095, 151]), (10, .ireturn, 11, [])]
/-- WhoKnowsModel.alikeTo(II)I -/
def mm_c186 : List mm_I := [(0, .aload_n 0, 1, []), (1, .iload_n 2, 2, []), (2, .invokevirtual 70, 5, [0, 185, 2, 14, 2101, 2103, 80, 151]), (5, .ifCond .eq 28, 8, [33]), (8, .aload_n 0, 9, []), (9, .getfield 7, 12, [0, 14, 0, 1828]), (12, .sipush 160, 15, []), (15, .bipush 32, 17, []), (17, .iload_n 1, 18, []), (18, .imul, 19, []), (19, .iadd, 20, []), (20, .iload_n 2, 21, []), (21, .iadd, 22, []), (22, .iaload, 23, []), (23, .aload_n 0, 24, []), (24, .getfield 7, 27, [0, 14, 0, 1828]), (27, .iconst 2, 28, []), (28, .iaload, 29, []), (29, .iand, 30, []), (30, .goto 4, 33, [34]), (33, .iconst 0, 34, []), (34, .ireturn, 35, [])]
/-- WhoKnowsModel.begins(I)V -/
def mm_c187 : List mm_I := [(0, .aload_n 0, 1, []), (1, .getfield 7, 4, [0, 14, 0, 1828]), (4, .iconst 2, 5, []), (5, .iload_n 1, 6, []), (6, .iastore, 7, []), (7, .aload_n 0, 8, []), (8, .getfield 7, 11, [0, 14, 0, 1828]), (11, .iconst 3, 12, []), (12, .iload_n 1, 13, []), (13, .invokestatic 74, 16, [1, 174, 1, 1818, 1819, 151]), (16, .iastore, 17, []), (17, .iconst 0, 18, []), (18, .istore_n 2, 19, []), (19, .iload_n 2, 20, []), (20, .aload_n 0, 21, []), (21, .invokevirtual 63, 24, [0, 179, 1, 14, 1821, 1823, 44, 151]), (24, .if_icmp .ge 95, 27, [119]), (27, .iconst 0, 28, []), (28, .istore_n 3, 29, []), (29, .iload_n 3, 30, []), (30, .bipush 32, 32, []), (32, .if_icmp .ge 81, 35, [113]), (35, .iconst 0, 36, []), (36, .istore 4, 38, []), (38, .iconst 0, 39, []), (39, .istore 5, 41, []), (41, .iload 5, 43, []), (43, .bipush 32, 45, []), (45, .if_icmp .ge 43, 48, [88]), (48, .iload 4, 50, []), (50, .iload 5, 52, []), (52, .iload_n 3, 53, []), (53, .ixor, 54, []), (54, .aload_n 0, 55, []), (55, .getfield 7, 58, [0, 14, 0, 1828]), (58, .sipush 150, 61, []), (61, .iload_n 2, 62, []), (62, .iadd, 63, []), (63, .iaload, 64, []), (64, .iand, 65, []), (65, .ifCond .ne 7, 68, [72]), (68, .iconst 1, 69, []), (69, .goto 4, 72, [73]), (72, .iconst 0, 73, []), (73, .invokestatic 66, 76, [1, 172, 1, 1825, 1826, 151]), (76, .iload 5, 78, []), (78, .ishl, 79, []), (79, .ior, 80, []), (80, .istore 4, 82, []), (82, .iinc 5 1, 85, []), (85, .goto (-44), 88, [41]), (88, .aload_n 0, 89, []), (89, .getfield 7, 92, [0, 14, 0, 1828]), (92, .sipush 160, 95, []), (95, .bipush 32, 97, []), (97, .iload_n 2, 98, []), (98, .imul, 99, []), (99, .iadd, 100, []), (100, .iload_n 3, 101, []), (101, .iadd, 102, []), (102, .iload 4, 104, []), (104, .iload_n 1, 105, []), (105, .iand, 106, []), (106, .iastore, 107, []), (107, .iinc 3 1, 110, []), (110, .goto (-81), 113, [29]), (113, .iinc 2 1, 116, []), (116, .goto (-97), 119, [19]), (119, .aload_n 0, 120, []), (120, .getfield 7, 123, [0, 14, 0, 1828]), (123, .sipush 320, 126, []), (126, .iconst 1, 127, []), (127, .iastore, 128, []), (128, .iconst 1, 129, []), (129, .istore_n 2, 130, []), (130, .iload_n 2, 131, []), (131, .iconst 4, 132, []), (132, .if_icmp .gt 20, 135, [152]), (135, .aload_n 0, 136, []), (136, .getfield 7, 139, [0, 14, 0, 1828]), (139, .sipush 320, 142, []), (142, .iload_n 2, 143, []), (143, .iadd, 144, []), (144, .iconst 0, 145, []), (145, .iastore, 146, []), (146, .iinc 2 1, 149, []), (149, .goto (-19), 152, [130]), (152, .return_, 153, [])]
/-- WhoKnowsModel.knownBy(II)I -/
def mm_c188 : List mm_I := [(0, .iconst 0, 1, []), (1, .istore_n 3, 2, []), (2, .iconst 0, 3, []), (3, .istore 4, 5, []), (5, .iload 4, 7, []), (7, .bipush 32, 9, []), (9, .if_icmp .ge 46, 12, [55]), (12, .iload_n 3, 13, []), (13, .aload_n 0, 14, []), (14, .iload 4, 16, []), (16, .invokevirtual 70, 19, [0, 185, 2, 14, 2101, 2103, 80, 151]), (19, .ifCond .eq 21, 22, [40]), (22, .aload_n 0, 23, []), (23, .iload_n 1, 24, []), (24, .iload 4, 26, []), (26, .invokevirtual 78, 29, [0, 186, 3, 14, 2105, 2107, 81, 151]), (29, .iload_n 2, 30, []), (30, .iconst (-1), 31, []), (31, .ixor, 32, []), (32, .iand, 33, []), (33, .ifCond .ne 7, 36, [40]), (36, .iconst 1, 37, []), (37, .goto 4, 40, [41]), (40, .iconst 0, 41, []), (41, .invokestatic 66, 44, [1, 172, 1, 1825, 1826, 151]), (44, .iload 4, 46, []), (46, .ishl, 47, []), (47, .ior, 48, []), (48, .istore_n 3, 49, []), (49, .iinc 4 1, 52, []), (52, .goto (-47), 55, [5]), (55, .iload_n 3, 56, []), (56, .ireturn, 57, [])]
/-- WhoKnowsModel.thoughtBy(II)I -/
def mm_c189 : List mm_I := [(0, .iconst 0, 1, []), (1, .istore_n 3, 2, []), (2, .iconst 0, 3, []), (3, .istore 4, 5, []), (5, .iload 4, 7, []), (7, .bipush 32, 9, []), (9, .if_icmp .ge 35, 12, [44]), (12, .iload_n 3, 13, []), (13, .aload_n 0, 14, []), (14, .iload_n 1, 15, []), (15, .iload 4, 17, []), (17, .invokevirtual 78, 20, [0, 186, 3, 14, 2105, 2107, 81, 151]), (20, .iload_n 2, 21, []), (21, .iand, 22, []), (22, .ifCond .eq 7, 25, [29]), (25, .iconst 1, 26, []), (26, .goto 4, 29, [30]), (29, .iconst 0, 30, []), (30, .invokestatic 66, 33, [1, 172, 1, 1825, 1826, 151]), (33, .iload 4, 35, []), (35, .ishl, 36, []), (36, .ior, 37, []), (37, .istore_n 3, 38, []), (38, .iinc 4 1, 41, []), (41, .goto (-36), 44, [5]), (44, .iload_n 3, 45, []), (45, .ireturn, 46, [])]
/-- WhoKnowsModel.knownByAll(I)I -/
def mm_c190 : List mm_I := [(0, .aload_n 0, 1, []), (1, .getfield 7, 4, [0, 14, 0, 1828]), (4, .iconst 2, 5, []), (5, .iaload, 6, []), (6, .istore_n 2, 7, []), (7, .iconst 0, 8, []), (8, .istore_n 3, 9, []), (9, .iload_n 3, 10, []), (10, .aload_n 0, 11, []), (11, .invokevirtual 63, 14, [0, 179, 1, 14, 1821, 1823, 44, 151]), (14, .if_icmp .ge 18, 17, [32]), (17, .iload_n 2, 18, []), (18, .aload_n 0, 19, []), (19, .iload_n 3, 20, []), (20, .iload_n 1, 21, []), (21, .invokevirtual 82, 24, [0, 188, 3, 14, 2097, 2099, 79, 151]), (24, .iand, 25, []), (25, .istore_n 2, 26, []), (26, .iinc 3 1, 29, []), (29, .goto (-20), 32, [9]), (32, .iload_n 2, 33, []), (33, .ireturn, 34, [])]
/-- WhoKnowsModel.beside(I)I -/
def mm_c191 : List mm_I := [(0, .iload_n 1, 1, []), (1, .istore_n 2, 2, []), (2, .iconst 0, 3, []), (3, .istore_n 3, 4, []), (4, .iload_n 3, 5, []), (5, .bipush 32, 7, []), (7, .if_icmp .ge 48, 10, [55]), (10, .iload_n 1, 11, []), (11, .iload_n 3, 12, []), (12, .invokestatic 51, 15, [1, 173, 2, 2094, 2095, 151]), (15, .ifCond .ne 6, 18, [21]), (18, .goto 31, 21, [49]), (21, .iconst 0, 22, []), (22, .istore 4, 24, []), (24, .iload 4, 26, []), (26, .aload_n 0, 27, []), (27, .invokevirtual 63, 30, [0, 179, 1, 14, 1821, 1823, 44, 151]), (30, .if_icmp .ge 19, 33, [49]), (33, .iload_n 2, 34, []), (34, .aload_n 0, 35, []), (35, .iload 4, 37, []), (37, .iload_n 3, 38, []), (38, .invokevirtual 78, 41, [0, 186, 3, 14, 2105, 2107, 81, 151]), (41, .ior, 42, []), (42, .istore_n 2, 43, []), (43, .iinc 4 1, 46, []), (46, .goto (-22), 49, [24]), (49, .iinc 3 1, 52, []), (52, .goto (-48), 55, [4]), (55, .iload_n 2, 56, []), (56, .ireturn, 57, [])]
/-- WhoKnowsModel.reachedFrom(I)I -/
def mm_c192 : List mm_I := [(0, .aload_n 0, 1, []), (1, .getfield 7, 4, [0, 14, 0, 1828]), (4, .iconst 2, 5, []), (5, .iaload, 6, []), (6, .iconst 1, 7, []), (7, .iload_n 1, 8, []), (8, .ishl, 9, []), (9, .iand, 10, []), (10, .istore_n 2, 11, []), (11, .iconst 0, 12, []), (12, .istore_n 3, 13, []), (13, .iload_n 2, 14, []), (14, .iload_n 3, 15, []), (15, .if_icmp .eq 14, 18, [29]), (18, .iload_n 2, 19, []), (19, .istore_n 3, 20, []), (20, .aload_n 0, 21, []), (21, .iload_n 2, 22, []), (22, .invokevirtual 85, 25, [0, 191, 2, 14, 2125, 2127, 86, 151]), (25, .istore_n 2, 26, []), (26, .goto (-13), 29, [13]), (29, .iload_n 2, 30, []), (30, .ireturn, 31, [])]
/-- WhoKnowsModel.commonOf(I)I -/
def mm_c193 : List mm_I := [(0, .iconst 0, 1, []), (1, .istore_n 2, 2, []), (2, .iconst 0, 3, []), (3, .istore_n 3, 4, []), (4, .iload_n 3, 5, []), (5, .bipush 32, 7, []), (7, .if_icmp .ge 42, 10, [49]), (10, .iload_n 2, 11, []), (11, .aload_n 0, 12, []), (12, .iload_n 3, 13, []), (13, .invokevirtual 70, 16, [0, 185, 2, 14, 2101, 2103, 80, 151]), (16, .ifCond .eq 19, 19, [35]), (19, .aload_n 0, 20, []), (20, .iload_n 3, 21, []), (21, .invokevirtual 88, 24, [0, 192, 2, 14, 2121, 2123, 85, 151]), (24, .iload_n 1, 25, []), (25, .iconst (-1), 26, []), (26, .ixor, 27, []), (27, .iand, 28, []), (28, .ifCond .ne 7, 31, [35]), (31, .iconst 1, 32, []), (32, .goto 4, 35, [36]), (35, .iconst 0, 36, []), (36, .invokestatic 66, 39, [1, 172, 1, 1825, 1826, 151]), (39, .iload_n 3, 40, []), (40, .ishl, 41, []), (41, .ior, 42, []), (42, .istore_n 2, 43, []), (43, .iinc 3 1, 46, []), (46, .goto (-42), 49, [4]), (49, .iload_n 2, 50, []), (50, .ireturn, 51, [])]
/-- WhoKnowsModel.nodeIs(III)I -/
def mm_c194 : List mm_I := [(0, .iload_n 1, 1, []), (1, .tableswitch 134 0 6 #[43, 55, 71, 85, 99, 111, 123], 44, [135, 44, 56, 72, 86, 100, 112, 124]), (44, .iload_n 2, 45, []), (45, .invokestatic 91, 48, [1, 184, 1, 2091, 2092, 151]), (48, .aload_n 0, 49, []), (49, .getfield 7, 52, [0, 14, 0, 1828]), (52, .iconst 2, 53, []), (53, .iaload, 54, []), (54, .iand, 55, []), (55, .ireturn, 56, []), (56, .aload_n 0, 57, []), (57, .getfield 25, 60, [0, 14, 8, 1836]), (60, .iload_n 2, 61, []), (61, .iaload, 62, []), (62, .iconst (-1), 63, []), (63, .ixor, 64, []), (64, .aload_n 0, 65, []), (65, .getfield 7, 68, [0, 14, 0, 1828]), (68, .iconst 2, 69, []), (69, .iaload, 70, []), (70, .iand, 71, []), (71, .ireturn, 72, []), (72, .aload_n 0, 73, []), (73, .getfield 25, 76, [0, 14, 8, 1836]), (76, .iload_n 2, 77, []), (77, .iaload, 78, []), (78, .aload_n 0, 79, []), (79, .getfield 25, 82, [0, 14, 8, 1836]), (82, .iload_n 3, 83, []), (83, .iaload, 84, []), (84, .iand, 85, []), (85, .ireturn, 86, []), (86, .aload_n 0, 87, []), (87, .getfield 25, 90, [0, 14, 8, 1836]), (90, .iload_n 2, 91, []), (91, .iaload, 92, []), (92, .aload_n 0, 93, []), (93, .getfield 25, 96, [0, 14, 8, 1836]), (96, .iload_n 3, 97, []), (97, .iaload, 98, []), (98, .ior, 99, []), (99, .ireturn, 100, []), (100, .aload_n 0, 101, []), (101, .iload_n 3, 102, []), (102, .aload_n 0, 103, []), (103, .getfield 25, 106, [0, 14, 8, 1836]), (106, .iload_n 2, 107, []), (107, .iaload, 108, []), (108, .invokevirtual 82, 111, [0, 188, 3, 14, 2097, 2099, 79, 151]), (111, .ireturn, 112, []), (112, .aload_n 0, 113, []), (113, .iload_n 3, 114, []), (114, .aload_n 0, 115, []), (115, .getfield 25, 118, [0, 14, 8, 1836]), (118, .iload_n 2, 119, []), (119, .iaload, 120, []), (120, .invokevirtual 94, 123, [0, 189, 3, 14, 2109, 2111, 82, 151]), (123, .ireturn, 124, []), (124, .aload_n 0, 125, []), (125, .aload_n 0, 126, []), (126, .getfield 25, 129, [0, 14, 8, 1836]), (129, .iload_n 2, 130, []), (130, .iaload, 131, []), (131, .invokevirtual 97, 134, [0, 190, 2, 14, 2113, 2115, 83, 151]), (134, .ireturn, 135, []), (135, .aload_n 0, 136, []), (136, .aload_n 0, 137, []), (137, .getfield 25, 140, [0, 14, 8, 1836]), (140, .iload_n 2, 141, []), (141, .iaload, 142, []), (142, .invokevirtual 100, 145, [0, 193, 2, 14, 2117, 2119, 84, 151]), (145, .ireturn, 146, [])]
/-- WhoKnowsModel.asked([II)I -/
def mm_c195 : List mm_I := [(0, .aload_n 1, 1, []), (1, .iload_n 2, 2, []), (2, .iaload, 3, []), (3, .istore_n 3, 4, []), (4, .iconst 0, 5, []), (5, .istore 4, 7, []), (7, .iload 4, 9, []), (9, .iload_n 3, 10, []), (10, .if_icmp .ge 46, 13, [56]), (13, .iload_n 2, 14, []), (14, .iconst 1, 15, []), (15, .iadd, 16, []), (16, .iconst 4, 17, []), (17, .iload 4, 19, []), (19, .imul, 20, []), (20, .iadd, 21, []), (21, .istore 5, 23, []), (23, .aload_n 0, 24, []), (24, .getfield 25, 27, [0, 14, 8, 1836]), (27, .iload 4, 29, []), (29, .aload_n 0, 30, []), (30, .aload_n 1, 31, []), (31, .iload 5, 33, []), (33, .iaload, 34, []), (34, .aload_n 1, 35, []), (35, .iload 5, 37, []), (37, .iconst 1, 38, []), (38, .iadd, 39, []), (39, .iaload, 40, []), (40, .aload_n 1, 41, []), (41, .iload 5, 43, []), (43, .iconst 2, 44, []), (44, .iadd, 45, []), (45, .iaload, 46, []), (46, .invokevirtual 103, 49, [0, 194, 4, 14, 2087, 2089, 78, 151]), (49, .iastore, 50, []), (50, .iinc 4 1, 53, []), (53, .goto (-46), 56, [7]), (56, .aload_n 0, 57, []), (57, .getfield 25, 60, [0, 14, 8, 1836]), (60, .iload_n 3, 61, []), (61, .iconst 1, 62, []), (62, .isub, 63, []), (63, .iaload, 64, []), (64, .ireturn, 65, [])]
/-- WhoKnowsModel.question()I -/
def mm_c196 : List mm_I := [(0, .aload_n 0, 1, []), (1, .aload_n 0, 2, []), (2, .getfield 7, 5, [0, 14, 0, 1828]), (5, .sipush 320, 8, []), (8, .invokevirtual 107, 11, [0, 195, 3, 14, 2083, 2085, 77, 151]), (11, .ireturn, 12, [])]
/-- WhoKnowsModel.depthOf([II)I -/
def mm_c197 : List mm_I := [(0, .aload_n 0, 1, []), (1, .getfield 25, 4, [0, 14, 8, 1836]), (4, .astore_n 3, 5, []), (5, .iconst 0, 6, []), (6, .istore 4, 8, []), (8, .iload 4, 10, []), (10, .aload_n 1, 11, []), (11, .iload_n 2, 12, []), (12, .iaload, 13, []), (13, .if_icmp .ge 111, 16, [124]), (16, .iload_n 2, 17, []), (17, .iconst 1, 18, []), (18, .iadd, 19, []), (19, .iconst 4, 20, []), (20, .iload 4, 22, []), (22, .imul, 23, []), (23, .iadd, 24, []), (24, .istore 5, 26, []), (26, .aload_n 1, 27, []), (27, .iload 5, 29, []), (29, .iaload, 30, []), (30, .istore 6, 32, []), (32, .iload 6, 34, []), (34, .ifCond .ne 11, 37, [45]), (37, .aload_n 3, 38, []), (38, .iload 4, 40, []), (40, .iconst 0, 41, []), (41, .iastore, 42, []), (42, .goto 76, 45, [118]), (45, .iload 6, 47, []), (47, .iconst 1, 48, []), (48, .if_icmp .ne 18, 51, [66]), (51, .aload_n 3, 52, []), (52, .iload 4, 54, []), (54, .aload_n 3, 55, []), (55, .aload_n 1, 56, []), (56, .iload 5, 58, []), (58, .iconst 1, 59, []), (59, .iadd, 60, []), (60, .iaload, 61, []), (61, .iaload, 62, []), (62, .iastore, 63, []), (63, .goto 55, 66, [118]), (66, .iload 6, 68, []), (68, .iconst 2, 69, []), (69, .if_icmp .eq 9, 72, [78]), (72, .iload 6, 74, []), (74, .iconst 3, 75, []), (75, .if_icmp .ne 29, 78, [104]), (78, .aload_n 3, 79, []), (79, .iload 4, 81, []), (81, .aload_n 3, 82, []), (82, .aload_n 1, 83, []), (83, .iload 5, 85, []), (85, .iconst 1, 86, []), (86, .iadd, 87, []), (87, .iaload, 88, []), (88, .iaload, 89, []), (89, .aload_n 3, 90, []), (90, .aload_n 1, 91, []), (91, .iload 5, 93, []), (93, .iconst 2, 94, []), (94, .iadd, 95, []), (95, .iaload, 96, []), (96, .iaload, 97, []), (97, .invokestatic 111, 100, [11, 2241]), (100, .iastore, 101, []), (101, .goto 17, 104, [118]), (104, .aload_n 3, 105, []), (105, .iload 4, 107, []), (107, .aload_n 3, 108, []), (108, .aload_n 1, 109, []), (109, .iload 5, 111, []), (111, .iconst 1, 112, []), (112, .iadd, 113, []), (113, .iaload, 114, []), (114, .iaload, 115, []), (115, .iconst 1, 116, []), (116, .iadd, 117, []), (117, .iastore, 118, []), (118, .iinc 4 1, 121, []), (121, .goto (-113), 124, [8]), (124, .aload_n 3, 125, []), (125, .aload_n 1, 126, []), (126, .iload_n 2, 127, []), (127, .iaload, 128, []), (128, .iconst 1, 129, []), (129, .isub, 130, []), (130, .iaload, 131, []), (131, .ireturn, 132, [])]
/-- WhoKnowsModel.four(I)V -/
def mm_c198 : List mm_I := [(0, .bipush 24, 2, []), (2, .istore_n 2, 3, []), (3, .iload_n 2, 4, []), (4, .ifCond .lt 35, 7, [39]), (7, .aload_n 0, 8, []), (8, .getfield 28, 11, [0, 14, 9, 1837]), (11, .aload_n 0, 12, []), (12, .getfield 116, 15, [0, 14, 10, 1838]), (15, .iload_n 1, 16, []), (16, .iload_n 2, 17, []), (17, .ishr, 18, []), (18, .sipush 255, 21, []), (21, .iand, 22, []), (22, .iastore, 23, []), (23, .aload_n 0, 24, []), (24, .dup, 25, []), (25, .getfield 116, 28, [0, 14, 10, 1838]), (28, .iconst 1, 29, []), (29, .iadd, 30, []), (30, .putfield 116, 33, [0, 14, 10, 1838]), (33, .iinc 2 (-8), 36, []), (36, .goto (-33), 39, [3]), (39, .return_, 40, [])]
/-- WhoKnowsModel.append(IIIII)I -/
def mm_c199 : List mm_I := [(0, .aload_n 0, 1, []), (1, .aload_n 0, 2, []), (2, .getfield 116, 5, [0, 14, 10, 1838]), (5, .bipush 20, 7, []), (7, .iadd, 8, []), (8, .sipush 600, 11, []), (11, .if_icmp .gt 7, 14, [18]), (14, .iconst 1, 15, []), (15, .goto 4, 18, [19]), (18, .iconst 0, 19, []), (19, .invokevirtual 119, 22, [0, 176, 2, 14, 1918, 1920, 45, 151]), (22, .ifCond .ne 5, 25, [27]), (25, .iconst 0, 26, []), (26, .ireturn, 27, []), (27, .aload_n 0, 28, []), (28, .iload_n 1, 29, []), (29, .invokevirtual 123, 32, [0, 198, 2, 14, 1922, 1924, 46, 151]), (32, .aload_n 0, 33, []), (33, .iload_n 2, 34, []), (34, .invokevirtual 123, 37, [0, 198, 2, 14, 1922, 1924, 46, 151]), (37, .aload_n 0, 38, []), (38, .iload_n 3, 39, []), (39, .invokevirtual 123, 42, [0, 198, 2, 14, 1922, 1924, 46, 151]), (42, .aload_n 0, 43, []), (43, .iload 4, 45, []), (45, .invokevirtual 123, 48, [0, 198, 2, 14, 1922, 1924, 46, 151]), (48, .aload_n 0, 49, []), (49, .iload 5, 51, []), (51, .invokevirtual 123, 54, [0, 198, 2, 14, 1922, 1924, 46, 151]), (54, .aload_n 0, 55, []), (55, .getfield 116, 58, [0, 14, 10, 1838]), (58, .ireturn, 59, [])]
/-- WhoKnowsModel.truncate(I)I -/
def mm_c200 : List mm_I := [(0, .aload_n 0, 1, []), (1, .iload_n 1, 2, []), (2, .i2l, 3, []), (3, .lconst 0, 4, []), (4, .aload_n 0, 5, []), (5, .getfield 116, 8, [0, 14, 10, 1838]), (8, .i2l, 9, []), (9, .invokestatic 59, 12, [1, 171, 3, 1930, 1931, 151]), (12, .invokevirtual 119, 15, [0, 176, 2, 14, 1918, 1920, 45, 151]), (15, .ifCond .ne 5, 18, [20]), (18, .iconst 0, 19, []), (19, .ireturn, 20, []), (20, .aload_n 0, 21, []), (21, .iload_n 1, 22, []), (22, .putfield 116, 25, [0, 14, 10, 1838]), (25, .iload_n 1, 26, []), (26, .ireturn, 27, [])]
/-- WhoKnowsModel.byteAt(I)I -/
def mm_c201 : List mm_I := [(0, .iload_n 1, 1, []), (1, .aload_n 0, 2, []), (2, .getfield 116, 5, [0, 14, 10, 1838]), (5, .if_icmp .ge 12, 8, [17]), (8, .aload_n 0, 9, []), (9, .getfield 28, 12, [0, 14, 9, 1837]), (12, .iload_n 1, 13, []), (13, .iaload, 14, []), (14, .goto 4, 17, [18]), (17, .iconst (-1), 18, []), (18, .ireturn, 19, [])]
/-- WhoKnowsModel.next()I -/
def mm_c202 : List mm_I := [(0, .aload_n 0, 1, []), (1, .aload_n 0, 2, []), (2, .getfield 126, 5, [0, 14, 11, 1839]), (5, .invokevirtual 129, 8, [0, 201, 2, 14, 1969, 1971, 52, 151]), (8, .bipush 32, 10, []), (10, .if_icmp .ne 16, 13, [26]), (13, .aload_n 0, 14, []), (14, .dup, 15, []), (15, .getfield 126, 18, [0, 14, 11, 1839]), (18, .iconst 1, 19, []), (19, .iadd, 20, []), (20, .putfield 126, 23, [0, 14, 11, 1839]), (23, .goto (-23), 26, [0]), (26, .aload_n 0, 27, []), (27, .aload_n 0, 28, []), (28, .getfield 126, 31, [0, 14, 11, 1839]), (31, .putfield 132, 34, [0, 14, 12, 1840]), (34, .aload_n 0, 35, []), (35, .iconst 0, 36, []), (36, .putfield 135, 39, [0, 14, 13, 1841]), (39, .aload_n 0, 40, []), (40, .aload_n 0, 41, []), (41, .getfield 132, 44, [0, 14, 12, 1840]), (44, .aload_n 0, 45, []), (45, .getfield 135, 48, [0, 14, 13, 1841]), (48, .iadd, 49, []), (49, .invokevirtual 129, 52, [0, 201, 2, 14, 1969, 1971, 52, 151]), (52, .i2l, 53, []), (53, .ldc2_w 138, 56, [97, 1973]), (56, .ldc2_w 140, 59, [122, 1974]), (59, .invokestatic 59, 62, [1, 171, 3, 1930, 1931, 151]), (62, .ifCond .eq 16, 65, [78]), (65, .aload_n 0, 66, []), (66, .dup, 67, []), (67, .getfield 135, 70, [0, 14, 13, 1841]), (70, .iconst 1, 71, []), (71, .iadd, 72, []), (72, .putfield 135, 75, [0, 14, 13, 1841]), (75, .goto (-36), 78, [39]), (78, .aload_n 0, 79, []), (79, .aload_n 0, 80, []), (80, .getfield 126, 83, [0, 14, 11, 1839]), (83, .invokevirtual 129, 86, [0, 201, 2, 14, 1969, 1971, 52, 151]), (86, .ireturn, 87, [])]
/-- WhoKnowsModel.wrong(I)V -/
def mm_c203 : List mm_I := [(0, .aload_n 0, 1, []), (1, .getfield 142, 4, [0, 14, 14, 1842]), (4, .ifCond .eq 4, 7, [8]), (7, .return_, 8, []), (8, .aload_n 0, 9, []), (9, .iload_n 1, 10, []), (10, .putfield 142, 13, [0, 14, 14, 1842]), (13, .aload_n 0, 14, []), (14, .aload_n 0, 15, []), (15, .getfield 132, 18, [0, 14, 12, 1840]), (18, .putfield 145, 21, [0, 14, 15, 1843]), (21, .return_, 22, [])]
/-- WhoKnowsModel.must(ZI)V -/
def mm_c204 : List mm_I := [(0, .iload_n 1, 1, []), (1, .ifCond .ne 8, 4, [9]), (4, .aload_n 0, 5, []), (5, .iload_n 2, 6, []), (6, .invokevirtual 148, 9, [0, 203, 2, 14, 1981, 1983, 54, 151]), (9, .return_, 10, [])]
/-- WhoKnowsModel.sees(Ljava/lang/String;)Z -/
def mm_c205 : List mm_I := [(0, .aload_n 0, 1, []), (1, .invokevirtual 151, 4, [0, 202, 1, 14, 1965, 1967, 51, 151]), (4, .istore_n 2, 5, []), (5, .aload_n 0, 6, []), (6, .getfield 142, 9, [0, 14, 14, 1842]), (9, .ifCond .ne 14, 12, [23]), (12, .aload_n 0, 13, []), (13, .getfield 135, 16, [0, 14, 13, 1841]), (16, .aload_n 1, 17, []), (17, .invokevirtual 154, 20, [0, 362, 1, 0, 1975, 399, 400, 142]), (20, .if_icmp .eq 5, 23, [25]), (23, .iconst 0, 24, []), (24, .ireturn, 25, []), (25, .iconst 0, 26, []), (26, .istore_n 3, 27, []), (27, .iload_n 3, 28, []), (28, .aload_n 0, 29, []), (29, .getfield 135, 32, [0, 14, 13, 1841]), (32, .if_icmp .ge 29, 35, [61]), (35, .aload_n 0, 36, []), (36, .aload_n 0, 37, []), (37, .getfield 132, 40, [0, 14, 12, 1840]), (40, .iload_n 3, 41, []), (41, .iadd, 42, []), (42, .invokevirtual 129, 45, [0, 201, 2, 14, 1969, 1971, 52, 151]), (45, .aload_n 1, 46, []), (46, .iload_n 3, 47, []), (47, .invokevirtual 158, 50, [0, 363, 2, 0, 1976, 411, 412, 142]), (50, .if_icmp .eq 5, 53, [55]), (53, .iconst 0, 54, []), (54, .ireturn, 55, []), (55, .iinc 3 1, 58, []), (58, .goto (-31), 61, [27]), (61, .iconst 1, 62, []), (62, .ireturn, 63, [])]
/-- WhoKnowsModel.takes(Ljava/lang/String;)Z -/
def mm_c206 : List mm_I := [(0, .aload_n 0, 1, []), (1, .aload_n 1, 2, []), (2, .invokevirtual 162, 5, [0, 205, 2, 14, 1961, 1963, 50, 151]), (5, .istore_n 2, 6, []), (6, .iload_n 2, 7, []), (7, .ifCond .eq 16, 10, [23]), (10, .aload_n 0, 11, []), (11, .aload_n 0, 12, []), (12, .getfield 132, 15, [0, 14, 12, 1840]), (15, .aload_n 0, 16, []), (16, .getfield 135, 19, [0, 14, 13, 1841]), (19, .iadd, 20, []), (20, .putfield 126, 23, [0, 14, 11, 1839]), (23, .iload_n 2, 24, []), (24, .ireturn, 25, [])]
/-- WhoKnowsModel.sign(C)V -/
def mm_c207 : List mm_I := [(0, .aload_n 0, 1, []), (1, .getfield 142, 4, [0, 14, 14, 1842]), (4, .ifCond .eq 4, 7, [8]), (7, .return_, 8, []), (8, .aload_n 0, 9, []), (9, .aload_n 0, 10, []), (10, .invokevirtual 151, 13, [0, 202, 1, 14, 1965, 1967, 51, 151]), (13, .iload_n 1, 14, []), (14, .if_icmp .ne 7, 17, [21]), (17, .iconst 1, 18, []), (18, .goto 4, 21, [22]), (21, .iconst 0, 22, []), (22, .iconst 1, 23, []), (23, .invokevirtual 166, 26, [0, 204, 3, 14, 1977, 1979, 53, 151]), (26, .aload_n 0, 27, []), (27, .dup, 28, []), (28, .getfield 126, 31, [0, 14, 11, 1839]), (31, .iconst 1, 32, []), (32, .iadd, 33, []), (33, .putfield 126, 36, [0, 14, 11, 1839]), (36, .return_, 37, [])]
/-- WhoKnowsModel.isOwnWord()Z -/
def mm_c208 : List mm_I := [(0, .aload_n 0, 1, []), (1, .ldc 170, 3, [1, 6, 1994]), (3, .invokevirtual 162, 6, [0, 205, 2, 14, 1961, 1963, 50, 151]), (6, .ifCond .ne 66, 9, [72]), (9, .aload_n 0, 10, []), (10, .ldc 172, 12, [1, 16, 1995]), (12, .invokevirtual 162, 15, [0, 205, 2, 14, 1961, 1963, 50, 151]), (15, .ifCond .ne 57, 18, [72]), (18, .aload_n 0, 19, []), (19, .ldc 174, 21, [1, 18, 1996]), (21, .invokevirtual 162, 24, [0, 205, 2, 14, 1961, 1963, 50, 151]), (24, .ifCond .ne 48, 27, [72]), (27, .aload_n 0, 28, []), (28, .ldc 176, 30, [1, 8, 1997]), (30, .invokevirtual 162, 33, [0, 205, 2, 14, 1961, 1963, 50, 151]), (33, .ifCond .ne 39, 36, [72]), (36, .aload_n 0, 37, []), (37, .ldc 178, 39, [1, 10, 1998]), (39, .invokevirtual 162, 42, [0, 205, 2, 14, 1961, 1963, 50, 151]), (42, .ifCond .ne 30, 45, [72]), (45, .aload_n 0, 46, []), (46, .ldc 180, 48, [1, 12, 1999]), (48, .invokevirtual 162, 51, [0, 205, 2, 14, 1961, 1963, 50, 151]), (51, .ifCond .ne 21, 54, [72]), (54, .aload_n 0, 55, []), (55, .ldc 182, 57, [1, 14, 2000]), (57, .invokevirtual 162, 60, [0, 205, 2, 14, 1961, 1963, 50, 151]), (60, .ifCond .ne 12, 63, [72]), (63, .aload_n 0, 64, []), (64, .ldc 184, 66, [1, 20, 2001]), (66, .invokevirtual 162, 69, [0, 205, 2, 14, 1961, 1963, 50, 151]), (69, .ifCond .eq 7, 72, [76]), (72, .iconst 1, 73, []), (73, .goto 4, 76, [77]), (76, .iconst 0, 77, []), (77, .ireturn, 78, [])]
/-- WhoKnowsModel.isWord()Z -/
def mm_c209 : List mm_I := [(0, .aload_n 0, 1, []), (1, .invokevirtual 151, 4, [0, 202, 1, 14, 1965, 1967, 51, 151]), (4, .istore_n 1, 5, []), (5, .aload_n 0, 6, []), (6, .getfield 142, 9, [0, 14, 14, 1842]), (9, .ifCond .ne 14, 12, [23]), (12, .aload_n 0, 13, []), (13, .getfield 135, 16, [0, 14, 13, 1841]), (16, .ifCond .le 7, 19, [23]), (19, .iconst 1, 20, []), (20, .goto 4, 23, [24]), (23, .iconst 0, 24, []), (24, .ireturn, 25, [])]
/-- WhoKnowsModel.isNamed(I)Z -/
def mm_c210 : List mm_I := [(0, .aload_n 0, 1, []), (1, .getfield 7, 4, [0, 14, 0, 1828]), (4, .iload_n 1, 5, []), (5, .iaload, 6, []), (6, .aload_n 0, 7, []), (7, .getfield 135, 10, [0, 14, 13, 1841]), (10, .if_icmp .eq 5, 13, [15]), (13, .iconst 0, 14, []), (14, .ireturn, 15, []), (15, .iconst 0, 16, []), (16, .istore_n 2, 17, []), (17, .iload_n 2, 18, []), (18, .aload_n 0, 19, []), (19, .getfield 135, 22, [0, 14, 13, 1841]), (22, .if_icmp .ge 34, 25, [56]), (25, .aload_n 0, 26, []), (26, .getfield 7, 29, [0, 14, 0, 1828]), (29, .iload_n 1, 30, []), (30, .iconst 1, 31, []), (31, .iadd, 32, []), (32, .iload_n 2, 33, []), (33, .iadd, 34, []), (34, .iaload, 35, []), (35, .aload_n 0, 36, []), (36, .aload_n 0, 37, []), (37, .getfield 132, 40, [0, 14, 12, 1840]), (40, .iload_n 2, 41, []), (41, .iadd, 42, []), (42, .invokevirtual 129, 45, [0, 201, 2, 14, 1969, 1971, 52, 151]), (45, .if_icmp .eq 5, 48, [50]), (48, .iconst 0, 49, []), (49, .ireturn, 50, []), (50, .iinc 2 1, 53, []), (53, .goto (-36), 56, [17]), (56, .iconst 1, 57, []), (57, .ireturn, 58, [])]
/-- WhoKnowsModel.readsName(Z)I -/
def mm_c211 : List mm_I := [(0, .aload_n 0, 1, []), (1, .getfield 142, 4, [0, 14, 14, 1842]), (4, .ifCond .eq 5, 7, [9]), (7, .iconst (-1), 8, []), (8, .ireturn, 9, []), (9, .aload_n 0, 10, []), (10, .invokevirtual 151, 13, [0, 202, 1, 14, 1965, 1967, 51, 151]), (13, .istore_n 2, 14, []), (14, .aload_n 0, 15, []), (15, .aload_n 0, 16, []), (16, .getfield 135, 19, [0, 14, 13, 1841]), (19, .i2l, 20, []), (20, .lconst 1, 21, []), (21, .ldc2_w 186, 24, [6, 1989]), (24, .invokestatic 59, 27, [1, 171, 3, 1930, 1931, 151]), (27, .ifCond .eq 14, 30, [41]), (30, .aload_n 0, 31, []), (31, .invokevirtual 188, 34, [0, 208, 1, 14, 1990, 1992, 56, 151]), (34, .ifCond .ne 7, 37, [41]), (37, .iconst 1, 38, []), (38, .goto 4, 41, [42]), (41, .iconst 0, 42, []), (42, .iconst 1, 43, []), (43, .invokevirtual 166, 46, [0, 204, 3, 14, 1977, 1979, 53, 151]), (46, .aload_n 0, 47, []), (47, .getfield 142, 50, [0, 14, 14, 1842]), (50, .ifCond .eq 5, 53, [55]), (53, .iconst (-1), 54, []), (54, .ireturn, 55, []), (55, .aload_n 0, 56, []), (56, .aload_n 0, 57, []), (57, .getfield 132, 60, [0, 14, 12, 1840]), (60, .aload_n 0, 61, []), (61, .getfield 135, 64, [0, 14, 13, 1841]), (64, .iadd, 65, []), (65, .putfield 126, 68, [0, 14, 11, 1839]), (68, .iload_n 1, 69, []), (69, .ifCond .eq 10, 72, [79]), (72, .aload_n 0, 73, []), (73, .invokevirtual 63, 76, [0, 179, 1, 14, 1821, 1823, 44, 151]), (76, .goto 7, 79, [83]), (79, .aload_n 0, 80, []), (80, .invokevirtual 55, 83, [0, 178, 1, 14, 2002, 2004, 57, 151]), (83, .istore_n 3, 84, []), (84, .iconst 0, 85, []), (85, .istore 4, 87, []), (87, .iload 4, 89, []), (89, .iload_n 3, 90, []), (90, .if_icmp .ge 36, 93, [126]), (93, .aload_n 0, 94, []), (94, .iload_n 1, 95, []), (95, .ifCond .eq 8, 98, [103]), (98, .bipush 115, 100, []), (100, .goto 5, 103, [105]), (103, .bipush 80, 105, []), (105, .bipush 7, 107, []), (107, .iload 4, 109, []), (109, .imul, 110, []), (110, .iadd, 111, []), (111, .invokevirtual 192, 114, [0, 210, 2, 14, 2006, 2008, 58, 151]), (114, .ifCond .eq 6, 117, [120]), (117, .iload 4, 119, []), (119, .ireturn, 120, []), (120, .iinc 4 1, 123, []), (123, .goto (-36), 126, [87]), (126, .iconst (-1), 127, []), (127, .ireturn, 128, [])]
/-- WhoKnowsModel.known(Z)I -/
def mm_c212 : List mm_I := [(0, .aload_n 0, 1, []), (1, .iload_n 1, 2, []), (2, .invokevirtual 195, 5, [0, 211, 2, 14, 1985, 1987, 55, 151]), (5, .istore_n 2, 6, []), (6, .aload_n 0, 7, []), (7, .iload_n 2, 8, []), (8, .iconst (-1), 9, []), (9, .if_icmp .eq 7, 12, [16]), (12, .iconst 1, 13, []), (13, .goto 4, 16, [17]), (16, .iconst 0, 17, []), (17, .iconst 2, 18, []), (18, .invokevirtual 166, 21, [0, 204, 3, 14, 1977, 1979, 53, 151]), (21, .aload_n 0, 22, []), (22, .getfield 142, 25, [0, 14, 14, 1842]), (25, .ifCond .ne 7, 28, [32]), (28, .iload_n 2, 29, []), (29, .goto 4, 32, [33]), (32, .iconst 0, 33, []), (33, .ireturn, 34, [])]
/-- WhoKnowsModel.laysName(I)V -/
def mm_c213 : List mm_I := [(0, .aload_n 0, 1, []), (1, .getfield 7, 4, [0, 14, 0, 1828]), (4, .iload_n 1, 5, []), (5, .aload_n 0, 6, []), (6, .getfield 135, 9, [0, 14, 13, 1841]), (9, .iastore, 10, []), (10, .iconst 0, 11, []), (11, .istore_n 2, 12, []), (12, .iload_n 2, 13, []), (13, .aload_n 0, 14, []), (14, .getfield 135, 17, [0, 14, 13, 1841]), (17, .if_icmp .ge 29, 20, [46]), (20, .aload_n 0, 21, []), (21, .getfield 7, 24, [0, 14, 0, 1828]), (24, .iload_n 1, 25, []), (25, .iconst 1, 26, []), (26, .iadd, 27, []), (27, .iload_n 2, 28, []), (28, .iadd, 29, []), (29, .aload_n 0, 30, []), (30, .aload_n 0, 31, []), (31, .getfield 132, 34, [0, 14, 12, 1840]), (34, .iload_n 2, 35, []), (35, .iadd, 36, []), (36, .invokevirtual 129, 39, [0, 201, 2, 14, 1969, 1971, 52, 151]), (39, .iastore, 40, []), (40, .iinc 2 1, 43, []), (43, .goto (-31), 46, [12]), (46, .return_, 47, [])]
/-- WhoKnowsModel.startsText()V -/
def mm_c214 : List mm_I := [(0, .aload_n 0, 1, []), (1, .iconst 0, 2, []), (2, .putfield 126, 5, [0, 14, 11, 1839]), (5, .aload_n 0, 6, []), (6, .iconst 0, 7, []), (7, .putfield 132, 10, [0, 14, 12, 1840]), (10, .aload_n 0, 11, []), (11, .iconst 0, 12, []), (12, .putfield 142, 15, [0, 14, 14, 1842]), (15, .aload_n 0, 16, []), (16, .iconst (-1), 17, []), (17, .putfield 145, 20, [0, 14, 15, 1843]), (20, .return_, 21, [])]
/-- WhoKnowsModel.endsText()Z -/
def mm_c215 : List mm_I := [(0, .aload_n 0, 1, []), (1, .iconst 0, 2, []), (2, .putfield 116, 5, [0, 14, 10, 1838]), (5, .aload_n 0, 6, []), (6, .aload_n 0, 7, []), (7, .getfield 142, 10, [0, 14, 14, 1842]), (10, .putfield 198, 13, [0, 14, 16, 1844]), (13, .aload_n 0, 14, []), (14, .aload_n 0, 15, []), (15, .getfield 145, 18, [0, 14, 15, 1843]), (18, .putfield 31, 21, [0, 14, 17, 1845]), (21, .aload_n 0, 22, []), (22, .getfield 142, 25, [0, 14, 14, 1842]), (25, .ifCond .ne 7, 28, [32]), (28, .iconst 1, 29, []), (29, .goto 4, 32, [33]), (32, .iconst 0, 33, []), (33, .ireturn, 34, [])]
/-- WhoKnowsModel.errorCode()I -/
def mm_c216 : List mm_I := [(0, .aload_n 0, 1, []), (1, .iconst 0, 2, []), (2, .putfield 48, 5, [0, 14, 6, 1834]), (5, .aload_n 0, 6, []), (6, .getfield 198, 9, [0, 14, 16, 1844]), (9, .ireturn, 10, [])]
/-- WhoKnowsModel.errorPosition()I -/
def mm_c217 : List mm_I := [(0, .aload_n 0, 1, []), (1, .iconst 0, 2, []), (2, .putfield 48, 5, [0, 14, 6, 1834]), (5, .aload_n 0, 6, []), (6, .getfield 31, 9, [0, 14, 17, 1845]), (9, .ireturn, 10, [])]
/-- WhoKnowsModel.counts()V -/
def mm_c218 : List mm_I := [(0, .aload_n 0, 1, []), (1, .dup, 2, []), (2, .getfield 201, 5, [0, 14, 20, 1848]), (5, .iconst 1, 6, []), (6, .iadd, 7, []), (7, .putfield 201, 10, [0, 14, 20, 1848]), (10, .aload_n 0, 11, []), (11, .aload_n 0, 12, []), (12, .getfield 201, 15, [0, 14, 20, 1848]), (15, .bipush 60, 17, []), (17, .if_icmp .gt 7, 20, [24]), (20, .iconst 1, 21, []), (21, .goto 4, 24, [25]), (24, .iconst 0, 25, []), (25, .iconst 3, 26, []), (26, .invokevirtual 166, 29, [0, 204, 3, 14, 1977, 1979, 53, 151]), (29, .return_, 30, [])]
/-- WhoKnowsModel.made(III)I -/
def mm_c219 : List mm_I := [(0, .aload_n 0, 1, []), (1, .getfield 35, 4, [0, 14, 18, 1846]), (4, .aload_n 0, 5, []), (5, .getfield 204, 8, [0, 14, 19, 1847]), (8, .iaload, 9, []), (9, .istore 4, 11, []), (11, .aload_n 0, 12, []), (12, .getfield 142, 15, [0, 14, 14, 1842]), (15, .ifCond .ne 10, 18, [25]), (18, .iload 4, 20, []), (20, .bipush 60, 22, []), (22, .if_icmp .lt 5, 25, [27]), (25, .iconst 0, 26, []), (26, .ireturn, 27, []), (27, .aload_n 0, 28, []), (28, .getfield 204, 31, [0, 14, 19, 1847]), (31, .iconst 1, 32, []), (32, .iadd, 33, []), (33, .iconst 4, 34, []), (34, .iload 4, 36, []), (36, .imul, 37, []), (37, .iadd, 38, []), (38, .istore 5, 40, []), (40, .aload_n 0, 41, []), (41, .getfield 35, 44, [0, 14, 18, 1846]), (44, .iload 5, 46, []), (46, .iload_n 1, 47, []), (47, .iastore, 48, []), (48, .aload_n 0, 49, []), (49, .getfield 35, 52, [0, 14, 18, 1846]), (52, .iload 5, 54, []), (54, .iconst 1, 55, []), (55, .iadd, 56, []), (56, .iload_n 2, 57, []), (57, .iastore, 58, []), (58, .aload_n 0, 59, []), (59, .getfield 35, 62, [0, 14, 18, 1846]), (62, .iload 5, 64, []), (64, .iconst 2, 65, []), (65, .iadd, 66, []), (66, .iload_n 3, 67, []), (67, .iastore, 68, []), (68, .aload_n 0, 69, []), (69, .getfield 35, 72, [0, 14, 18, 1846]), (72, .aload_n 0, 73, []), (73, .getfield 204, 76, [0, 14, 19, 1847]), (76, .dup2, 77, []), (77, .iaload, 78, []), (78, .iconst 1, 79, []), (79, .iadd, 80, []), (80, .iastore, 81, []), (81, .iload 4, 83, []), (83, .ireturn, 84, [])]
/-- WhoKnowsModel.modal()I -/
def mm_c220 : List mm_I := [(0, .aload_n 0, 1, []), (1, .ldc 176, 3, [1, 8, 1997]), (3, .invokevirtual 162, 6, [0, 205, 2, 14, 1961, 1963, 50, 151]), (6, .ifCond .eq 5, 9, [11]), (9, .iconst 4, 10, []), (10, .ireturn, 11, []), (11, .aload_n 0, 12, []), (12, .ldc 178, 14, [1, 10, 1998]), (14, .invokevirtual 162, 17, [0, 205, 2, 14, 1961, 1963, 50, 151]), (17, .ifCond .eq 5, 20, [22]), (20, .iconst 5, 21, []), (21, .ireturn, 22, []), (22, .aload_n 0, 23, []), (23, .ldc 180, 25, [1, 12, 1999]), (25, .invokevirtual 162, 28, [0, 205, 2, 14, 1961, 1963, 50, 151]), (28, .ifCond .eq 6, 31, [34]), (31, .bipush 6, 33, []), (33, .ireturn, 34, []), (34, .aload_n 0, 35, []), (35, .ldc 182, 37, [1, 14, 2000]), (37, .invokevirtual 162, 40, [0, 205, 2, 14, 1961, 1963, 50, 151]), (40, .ifCond .eq 8, 43, [48]), (43, .bipush 7, 45, []), (45, .goto 4, 48, [49]), (48, .iconst (-1), 49, []), (49, .ireturn, 50, [])]
/-- WhoKnowsModel.readsModal(I)I -/
def mm_c221 : List mm_I := [(0, .aload_n 0, 1, []), (1, .aload_n 0, 2, []), (2, .getfield 207, 5, [0, 14, 22, 1850]), (5, .ifCond .ne 7, 8, [12]), (8, .iconst 1, 9, []), (9, .goto 4, 12, [13]), (12, .iconst 0, 13, []), (13, .iconst 1, 14, []), (14, .invokevirtual 166, 17, [0, 204, 3, 14, 1977, 1979, 53, 151]), (17, .aload_n 0, 18, []), (18, .invokevirtual 211, 21, [0, 218, 1, 14, 2059, 2061, 71, 151]), (21, .aload_n 0, 22, []), (22, .getfield 142, 25, [0, 14, 14, 1842]), (25, .ifCond .eq 5, 28, [30]), (28, .iconst 0, 29, []), (29, .ireturn, 30, []), (30, .aload_n 0, 31, []), (31, .aload_n 0, 32, []), (32, .getfield 132, 35, [0, 14, 12, 1840]), (35, .aload_n 0, 36, []), (36, .getfield 135, 39, [0, 14, 13, 1841]), (39, .iadd, 40, []), (40, .putfield 126, 43, [0, 14, 11, 1839]), (43, .iload_n 1, 44, []), (44, .iconst 4, 45, []), (45, .if_icmp .eq 8, 48, [53]), (48, .iload_n 1, 49, []), (49, .iconst 5, 50, []), (50, .if_icmp .ne 11, 53, [61]), (53, .aload_n 0, 54, []), (54, .iconst 1, 55, []), (55, .invokevirtual 214, 58, [0, 212, 2, 14, 2075, 2077, 75, 151]), (58, .goto 4, 61, [62]), (61, .iconst 0, 62, []), (62, .istore_n 2, 63, []), (63, .aload_n 0, 64, []), (64, .iload_n 1, 65, []), (65, .aload_n 0, 66, []), (66, .invokevirtual 217, 69, [0, 225, 1, 14, 2047, 2049, 68, 151]), (69, .iload_n 2, 70, []), (70, .invokevirtual 220, 73, [0, 219, 4, 14, 2063, 2065, 72, 151]), (73, .ireturn, 74, [])]
/-- WhoKnowsModel.readsNot()I -/
def mm_c222 : List mm_I := [(0, .aload_n 0, 1, []), (1, .invokevirtual 211, 4, [0, 218, 1, 14, 2059, 2061, 71, 151]), (4, .aload_n 0, 5, []), (5, .getfield 142, 8, [0, 14, 14, 1842]), (8, .ifCond .eq 5, 11, [13]), (11, .iconst 0, 12, []), (12, .ireturn, 13, []), (13, .aload_n 0, 14, []), (14, .aload_n 0, 15, []), (15, .getfield 132, 18, [0, 14, 12, 1840]), (18, .aload_n 0, 19, []), (19, .getfield 135, 22, [0, 14, 13, 1841]), (22, .iadd, 23, []), (23, .putfield 126, 26, [0, 14, 11, 1839]), (26, .aload_n 0, 27, []), (27, .iconst 1, 28, []), (28, .aload_n 0, 29, []), (29, .invokevirtual 217, 32, [0, 225, 1, 14, 2047, 2049, 68, 151]), (32, .iconst 0, 33, []), (33, .invokevirtual 220, 36, [0, 219, 4, 14, 2063, 2065, 72, 151]), (36, .ireturn, 37, [])]
/-- WhoKnowsModel.readsInner()I -/
def mm_c223 : List mm_I := [(0, .aload_n 0, 1, []), (1, .aload_n 0, 2, []), (2, .getfield 223, 5, [0, 14, 21, 1849]), (5, .bipush 8, 7, []), (7, .if_icmp .ge 7, 10, [14]), (10, .iconst 1, 11, []), (11, .goto 4, 14, [15]), (14, .iconst 0, 15, []), (15, .iconst 1, 16, []), (16, .invokevirtual 166, 19, [0, 204, 3, 14, 1977, 1979, 53, 151]), (19, .aload_n 0, 20, []), (20, .getfield 142, 23, [0, 14, 14, 1842]), (23, .ifCond .eq 5, 26, [28]), (26, .iconst 0, 27, []), (27, .ireturn, 28, []), (28, .aload_n 0, 29, []), (29, .dup, 30, []), (30, .getfield 126, 33, [0, 14, 11, 1839]), (33, .iconst 1, 34, []), (34, .iadd, 35, []), (35, .putfield 126, 38, [0, 14, 11, 1839]), (38, .aload_n 0, 39, []), (39, .dup, 40, []), (40, .getfield 223, 43, [0, 14, 21, 1849]), (43, .iconst 1, 44, []), (44, .iadd, 45, []), (45, .putfield 223, 48, [0, 14, 21, 1849]), (48, .aload_n 0, 49, []), (49, .invokevirtual 226, 52, [0, 227, 1, 14, 2039, 2041, 66, 151]), (52, .istore_n 1, 53, []), (53, .aload_n 0, 54, []), (54, .dup, 55, []), (55, .getfield 223, 58, [0, 14, 21, 1849]), (58, .iconst 1, 59, []), (59, .isub, 60, []), (60, .putfield 223, 63, [0, 14, 21, 1849]), (63, .aload_n 0, 64, []), (64, .bipush 41, 66, []), (66, .invokevirtual 229, 69, [0, 207, 2, 14, 2027, 2029, 63, 151]), (69, .iload_n 1, 70, []), (70, .ireturn, 71, [])]
/-- WhoKnowsModel.readsFact()I -/
def mm_c224 : List mm_I := [(0, .aload_n 0, 1, []), (1, .iconst 0, 2, []), (2, .invokevirtual 214, 5, [0, 212, 2, 14, 2075, 2077, 75, 151]), (5, .istore_n 1, 6, []), (6, .aload_n 0, 7, []), (7, .invokevirtual 211, 10, [0, 218, 1, 14, 2059, 2061, 71, 151]), (10, .aload_n 0, 11, []), (11, .iconst 0, 12, []), (12, .iload_n 1, 13, []), (13, .iconst 0, 14, []), (14, .invokevirtual 220, 17, [0, 219, 4, 14, 2063, 2065, 72, 151]), (17, .ireturn, 18, [])]
/-- WhoKnowsModel.readsItem()I -/
def mm_c225 : List mm_I := [(0, .aload_n 0, 1, []), (1, .getfield 142, 4, [0, 14, 14, 1842]), (4, .ifCond .eq 5, 7, [9]), (7, .iconst 0, 8, []), (8, .ireturn, 9, []), (9, .aload_n 0, 10, []), (10, .invokevirtual 151, 13, [0, 202, 1, 14, 1965, 1967, 51, 151]), (13, .bipush 40, 15, []), (15, .if_icmp .ne 8, 18, [23]), (18, .aload_n 0, 19, []), (19, .invokevirtual 233, 22, [0, 223, 1, 14, 2051, 2053, 69, 151]), (22, .ireturn, 23, []), (23, .aload_n 0, 24, []), (24, .ldc 170, 26, [1, 6, 1994]), (26, .invokevirtual 162, 29, [0, 205, 2, 14, 1961, 1963, 50, 151]), (29, .ifCond .eq 8, 32, [37]), (32, .aload_n 0, 33, []), (33, .invokevirtual 236, 36, [0, 222, 1, 14, 2055, 2057, 70, 151]), (36, .ireturn, 37, []), (37, .aload_n 0, 38, []), (38, .invokevirtual 239, 41, [0, 220, 1, 14, 2067, 2069, 73, 151]), (41, .istore_n 1, 42, []), (42, .iload_n 1, 43, []), (43, .iconst (-1), 44, []), (44, .if_icmp .eq 11, 47, [55]), (47, .aload_n 0, 48, []), (48, .iload_n 1, 49, []), (49, .invokevirtual 242, 52, [0, 221, 2, 14, 2071, 2073, 74, 151]), (52, .goto 7, 55, [59]), (55, .aload_n 0, 56, []), (56, .invokevirtual 245, 59, [0, 224, 1, 14, 2079, 2081, 76, 151]), (59, .ireturn, 60, [])]
/-- WhoKnowsModel.readsPart()I -/
def mm_c226 : List mm_I := [(0, .aload_n 0, 1, []), (1, .invokevirtual 217, 4, [0, 225, 1, 14, 2047, 2049, 68, 151]), (4, .istore_n 1, 5, []), (5, .aload_n 0, 6, []), (6, .ldc 172, 8, [1, 16, 1995]), (8, .invokevirtual 162, 11, [0, 205, 2, 14, 1961, 1963, 50, 151]), (11, .ifCond .eq 43, 14, [54]), (14, .aload_n 0, 15, []), (15, .invokevirtual 211, 18, [0, 218, 1, 14, 2059, 2061, 71, 151]), (18, .aload_n 0, 19, []), (19, .getfield 142, 22, [0, 14, 14, 1842]), (22, .ifCond .eq 5, 25, [27]), (25, .iconst 0, 26, []), (26, .ireturn, 27, []), (27, .aload_n 0, 28, []), (28, .aload_n 0, 29, []), (29, .getfield 132, 32, [0, 14, 12, 1840]), (32, .aload_n 0, 33, []), (33, .getfield 135, 36, [0, 14, 13, 1841]), (36, .iadd, 37, []), (37, .putfield 126, 40, [0, 14, 11, 1839]), (40, .aload_n 0, 41, []), (41, .iconst 2, 42, []), (42, .iload_n 1, 43, []), (43, .aload_n 0, 44, []), (44, .invokevirtual 217, 47, [0, 225, 1, 14, 2047, 2049, 68, 151]), (47, .invokevirtual 220, 50, [0, 219, 4, 14, 2063, 2065, 72, 151]), (50, .istore_n 1, 51, []), (51, .goto (-46), 54, [5]), (54, .iload_n 1, 55, []), (55, .ireturn, 56, [])]
/-- WhoKnowsModel.readsAll()I -/
def mm_c227 : List mm_I := [(0, .aload_n 0, 1, []), (1, .invokevirtual 248, 4, [0, 226, 1, 14, 2043, 2045, 67, 151]), (4, .istore_n 1, 5, []), (5, .aload_n 0, 6, []), (6, .ldc 174, 8, [1, 18, 1996]), (8, .invokevirtual 162, 11, [0, 205, 2, 14, 1961, 1963, 50, 151]), (11, .ifCond .eq 43, 14, [54]), (14, .aload_n 0, 15, []), (15, .invokevirtual 211, 18, [0, 218, 1, 14, 2059, 2061, 71, 151]), (18, .aload_n 0, 19, []), (19, .getfield 142, 22, [0, 14, 14, 1842]), (22, .ifCond .eq 5, 25, [27]), (25, .iconst 0, 26, []), (26, .ireturn, 27, []), (27, .aload_n 0, 28, []), (28, .aload_n 0, 29, []), (29, .getfield 132, 32, [0, 14, 12, 1840]), (32, .aload_n 0, 33, []), (33, .getfield 135, 36, [0, 14, 13, 1841]), (36, .iadd, 37, []), (37, .putfield 126, 40, [0, 14, 11, 1839]), (40, .aload_n 0, 41, []), (41, .iconst 3, 42, []), (42, .iload_n 1, 43, []), (43, .aload_n 0, 44, []), (44, .invokevirtual 248, 47, [0, 226, 1, 14, 2043, 2045, 67, 151]), (47, .invokevirtual 220, 50, [0, 219, 4, 14, 2063, 2065, 72, 151]), (50, .istore_n 1, 51, []), (51, .goto (-46), 54, [5]), (54, .iload_n 1, 55, []), (55, .ireturn, 56, [])]
/-- WhoKnowsModel.readsFormula(IZ)V -/
def mm_c228 : List mm_I := [(0, .aload_n 0, 1, []), (1, .sipush 241, 4, []), (4, .iload_n 1, 5, []), (5, .imul, 6, []), (6, .putfield 204, 9, [0, 14, 19, 1847]), (9, .aload_n 0, 10, []), (10, .getfield 35, 13, [0, 14, 18, 1846]), (13, .aload_n 0, 14, []), (14, .getfield 204, 17, [0, 14, 19, 1847]), (17, .iconst 0, 18, []), (18, .iastore, 19, []), (19, .aload_n 0, 20, []), (20, .iconst 0, 21, []), (21, .putfield 201, 24, [0, 14, 20, 1848]), (24, .aload_n 0, 25, []), (25, .iconst 0, 26, []), (26, .putfield 223, 29, [0, 14, 21, 1849]), (29, .aload_n 0, 30, []), (30, .iload_n 2, 31, []), (31, .putfield 207, 34, [0, 14, 22, 1850]), (34, .aload_n 0, 35, []), (35, .invokevirtual 226, 38, [0, 227, 1, 14, 2039, 2041, 66, 151]), (38, .istore_n 3, 39, []), (39, .return_, 40, [])]
/-- WhoKnowsModel.factsLine()V -/
def mm_c229 : List mm_I := [(0, .aload_n 0, 1, []), (1, .aload_n 0, 2, []), (2, .ldc 251, 4, [1, 22, 1956]), (4, .invokevirtual 252, 7, [0, 206, 2, 14, 1957, 1959, 49, 151]), (7, .iconst 1, 8, []), (8, .invokevirtual 166, 11, [0, 204, 3, 14, 1977, 1979, 53, 151]), (11, .aload_n 0, 12, []), (12, .aload_n 0, 13, []), (13, .iconst 0, 14, []), (14, .invokevirtual 195, 17, [0, 211, 2, 14, 1985, 1987, 55, 151]), (17, .iconst (-1), 18, []), (18, .if_icmp .ne 7, 21, [25]), (21, .iconst 1, 22, []), (22, .goto 4, 25, [26]), (25, .iconst 0, 26, []), (26, .iconst 2, 27, []), (27, .invokevirtual 166, 30, [0, 204, 3, 14, 1977, 1979, 53, 151]), (30, .aload_n 0, 31, []), (31, .aload_n 0, 32, []), (32, .invokevirtual 55, 35, [0, 178, 1, 14, 2002, 2004, 57, 151]), (35, .iconst 5, 36, []), (36, .if_icmp .ge 7, 39, [43]), (39, .iconst 1, 40, []), (40, .goto 4, 43, [44]), (43, .iconst 0, 44, []), (44, .iconst 3, 45, []), (45, .invokevirtual 166, 48, [0, 204, 3, 14, 1977, 1979, 53, 151]), (48, .aload_n 0, 49, []), (49, .getfield 142, 52, [0, 14, 14, 1842]), (52, .ifCond .eq 4, 55, [56]), (55, .return_, 56, []), (56, .aload_n 0, 57, []), (57, .bipush 80, 59, []), (59, .bipush 7, 61, []), (61, .aload_n 0, 62, []), (62, .invokevirtual 55, 65, [0, 178, 1, 14, 2002, 2004, 57, 151]), (65, .imul, 66, []), (66, .iadd, 67, []), (67, .invokevirtual 255, 70, [0, 213, 2, 14, 2010, 2012, 59, 151]), (70, .aload_n 0, 71, []), (71, .getfield 7, 74, [0, 14, 0, 1828]), (74, .iconst 0, 75, []), (75, .dup2, 76, []), (76, .iaload, 77, []), (77, .iconst 1, 78, []), (78, .iadd, 79, []), (79, .iastore, 80, []), (80, .aload_n 0, 81, []), (81, .invokevirtual 258, 84, [0, 209, 1, 14, 2014, 2016, 60, 151]), (84, .ifCond .ne (-73), 87, [11]), (87, .aload_n 0, 88, []), (88, .getfield 7, 91, [0, 14, 0, 1828]), (91, .iconst 2, 92, []), (92, .aload_n 0, 93, []), (93, .invokevirtual 55, 96, [0, 178, 1, 14, 2002, 2004, 57, 151]), (96, .iconst 5, 97, []), (97, .if_icmp .ne 7, 100, [104]), (100, .iconst (-1), 101, []), (101, .goto 13, 104, [114]), (104, .iconst 1, 105, []), (105, .iconst 1, 106, []), (106, .aload_n 0, 107, []), (107, .invokevirtual 55, 110, [0, 178, 1, 14, 2002, 2004, 57, 151]), (110, .ishl, 111, []), (111, .ishl, 112, []), (112, .iconst 1, 113, []), (113, .isub, 114, []), (114, .iastore, 115, []), (115, .return_, 116, [])]
/-- WhoKnowsModel.lawLine(I)V -/
def mm_c230 : List mm_I := [(0, .aload_n 0, 1, []), (1, .aload_n 0, 2, []), (2, .getfield 7, 5, [0, 14, 0, 1828]), (5, .iconst 5, 6, []), (6, .iaload, 7, []), (7, .bipush 6, 9, []), (9, .if_icmp .ge 7, 12, [16]), (12, .iconst 1, 13, []), (13, .goto 4, 16, [17]), (16, .iconst 0, 17, []), (17, .iconst 3, 18, []), (18, .invokevirtual 166, 21, [0, 204, 3, 14, 1977, 1979, 53, 151]), (21, .aload_n 0, 22, []), (22, .getfield 142, 25, [0, 14, 14, 1842]), (25, .ifCond .eq 4, 28, [29]), (28, .return_, 29, []), (29, .aload_n 0, 30, []), (30, .aload_n 0, 31, []), (31, .getfield 132, 34, [0, 14, 12, 1840]), (34, .aload_n 0, 35, []), (35, .getfield 135, 38, [0, 14, 13, 1841]), (38, .iadd, 39, []), (39, .putfield 126, 42, [0, 14, 11, 1839]), (42, .aload_n 0, 43, []), (43, .bipush 20, 45, []), (45, .iconst 1, 46, []), (46, .invokevirtual 261, 49, [0, 228, 3, 14, 2035, 2037, 65, 151]), (49, .aload_n 0, 50, []), (50, .getfield 142, 53, [0, 14, 14, 1842]), (53, .ifCond .eq 4, 56, [57]), (56, .return_, 57, []), (57, .aload_n 0, 58, []), (58, .getfield 7, 61, [0, 14, 0, 1828]), (61, .iconst 2, 62, []), (62, .aload_n 0, 63, []), (63, .aload_n 0, 64, []), (64, .getfield 35, 67, [0, 14, 18, 1846]), (67, .sipush 4820, 70, []), (70, .invokevirtual 107, 73, [0, 195, 3, 14, 2083, 2085, 77, 151]), (73, .iastore, 74, []), (74, .aload_n 0, 75, []), (75, .getfield 7, 78, [0, 14, 0, 1828]), (78, .iconst 5, 79, []), (79, .dup2, 80, []), (80, .iaload, 81, []), (81, .iconst 1, 82, []), (82, .iadd, 83, []), (83, .iastore, 84, []), (84, .aload_n 0, 85, []), (85, .iload_n 1, 86, []), (86, .putfield 132, 89, [0, 14, 12, 1840]), (89, .aload_n 0, 90, []), (90, .aload_n 0, 91, []), (91, .getfield 7, 94, [0, 14, 0, 1828]), (94, .iconst 2, 95, []), (95, .iaload, 96, []), (96, .ifCond .eq 7, 99, [103]), (99, .iconst 1, 100, []), (100, .goto 4, 103, [104]), (103, .iconst 0, 104, []), (104, .iconst 4, 105, []), (105, .invokevirtual 166, 108, [0, 204, 3, 14, 1977, 1979, 53, 151]), (108, .return_, 109, [])]
/-- WhoKnowsModel.readsFacts()I -/
def mm_c231 : List mm_I := [(0, .iconst 0, 1, []), (1, .istore_n 1, 2, []), (2, .aload_n 0, 3, []), (3, .invokevirtual 258, 6, [0, 209, 1, 14, 2014, 2016, 60, 151]), (6, .ifCond .eq 54, 9, [60]), (9, .aload_n 0, 10, []), (10, .iconst 0, 11, []), (11, .invokevirtual 214, 14, [0, 212, 2, 14, 2075, 2077, 75, 151]), (14, .istore_n 2, 15, []), (15, .aload_n 0, 16, []), (16, .aload_n 0, 17, []), (17, .getfield 142, 20, [0, 14, 14, 1842]), (20, .ifCond .ne 11, 23, [31]), (23, .iload_n 1, 24, []), (24, .iload_n 2, 25, []), (25, .invokestatic 51, 28, [1, 173, 2, 2094, 2095, 151]), (28, .ifCond .ne 7, 31, [35]), (31, .iconst 1, 32, []), (32, .goto 4, 35, [36]), (35, .iconst 0, 36, []), (36, .iconst 2, 37, []), (37, .invokevirtual 166, 40, [0, 204, 3, 14, 1977, 1979, 53, 151]), (40, .iload_n 1, 41, []), (41, .aload_n 0, 42, []), (42, .getfield 142, 45, [0, 14, 14, 1842]), (45, .ifCond .ne 9, 48, [54]), (48, .iconst 1, 49, []), (49, .iload_n 2, 50, []), (50, .ishl, 51, []), (51, .goto 4, 54, [55]), (54, .iconst 0, 55, []), (55, .ior, 56, []), (56, .istore_n 1, 57, []), (57, .goto (-55), 60, [2]), (60, .iload_n 1, 61, []), (61, .ireturn, 62, [])]
/-- WhoKnowsModel.personLine()V -/
def mm_c232 : List mm_I := [(0, .aload_n 0, 1, []), (1, .aload_n 0, 2, []), (2, .invokevirtual 63, 5, [0, 179, 1, 14, 1821, 1823, 44, 151]), (5, .iconst 5, 6, []), (6, .if_icmp .ge 7, 9, [13]), (9, .iconst 1, 10, []), (10, .goto 4, 13, [14]), (13, .iconst 0, 14, []), (14, .iconst 3, 15, []), (15, .invokevirtual 166, 18, [0, 204, 3, 14, 1977, 1979, 53, 151]), (18, .aload_n 0, 19, []), (19, .getfield 142, 22, [0, 14, 14, 1842]), (22, .ifCond .eq 4, 25, [26]), (25, .return_, 26, []), (26, .aload_n 0, 27, []), (27, .aload_n 0, 28, []), (28, .getfield 132, 31, [0, 14, 12, 1840]), (31, .aload_n 0, 32, []), (32, .getfield 135, 35, [0, 14, 13, 1841]), (35, .iadd, 36, []), (36, .putfield 126, 39, [0, 14, 11, 1839]), (39, .aload_n 0, 40, []), (40, .aload_n 0, 41, []), (41, .iconst 1, 42, []), (42, .invokevirtual 195, 45, [0, 211, 2, 14, 1985, 1987, 55, 151]), (45, .iconst (-1), 46, []), (46, .if_icmp .ne 7, 49, [53]), (49, .iconst 1, 50, []), (50, .goto 4, 53, [54]), (53, .iconst 0, 54, []), (54, .iconst 2, 55, []), (55, .invokevirtual 166, 58, [0, 204, 3, 14, 1977, 1979, 53, 151]), (58, .aload_n 0, 59, []), (59, .getfield 142, 62, [0, 14, 14, 1842]), (62, .ifCond .eq 4, 65, [66]), (65, .return_, 66, []), (66, .aload_n 0, 67, []), (67, .bipush 115, 69, []), (69, .bipush 7, 71, []), (71, .aload_n 0, 72, []), (72, .invokevirtual 63, 75, [0, 179, 1, 14, 1821, 1823, 44, 151]), (75, .imul, 76, []), (76, .iadd, 77, []), (77, .invokevirtual 255, 80, [0, 213, 2, 14, 2010, 2012, 59, 151]), (80, .aload_n 0, 81, []), (81, .getfield 7, 84, [0, 14, 0, 1828]), (84, .sipush 150, 87, []), (87, .aload_n 0, 88, []), (88, .invokevirtual 63, 91, [0, 179, 1, 14, 1821, 1823, 44, 151]), (91, .iadd, 92, []), (92, .aload_n 0, 93, []), (93, .invokevirtual 265, 96, [0, 231, 1, 14, 2134, 2136, 88, 151]), (96, .iastore, 97, []), (97, .aload_n 0, 98, []), (98, .getfield 7, 101, [0, 14, 0, 1828]), (101, .iconst 1, 102, []), (102, .dup2, 103, []), (103, .iaload, 104, []), (104, .iconst 1, 105, []), (105, .iadd, 106, []), (106, .iastore, 107, []), (107, .return_, 108, [])]
/-- WhoKnowsModel.realLine(I)V -/
def mm_c233 : List mm_I := [(0, .aload_n 0, 1, []), (1, .aload_n 0, 2, []), (2, .getfield 132, 5, [0, 14, 12, 1840]), (5, .aload_n 0, 6, []), (6, .getfield 135, 9, [0, 14, 13, 1841]), (9, .iadd, 10, []), (10, .putfield 126, 13, [0, 14, 11, 1839]), (13, .aload_n 0, 14, []), (14, .invokevirtual 265, 17, [0, 231, 1, 14, 2134, 2136, 88, 151]), (17, .istore_n 2, 18, []), (18, .aload_n 0, 19, []), (19, .getfield 142, 22, [0, 14, 14, 1842]), (22, .ifCond .eq 4, 25, [26]), (25, .return_, 26, []), (26, .aload_n 0, 27, []), (27, .iload_n 1, 28, []), (28, .putfield 132, 31, [0, 14, 12, 1840]), (31, .aload_n 0, 32, []), (32, .aload_n 0, 33, []), (33, .iload_n 2, 34, []), (34, .invokevirtual 70, 37, [0, 185, 2, 14, 2101, 2103, 80, 151]), (37, .iconst 4, 38, []), (38, .invokevirtual 166, 41, [0, 204, 3, 14, 1977, 1979, 53, 151]), (41, .aload_n 0, 42, []), (42, .getfield 7, 45, [0, 14, 0, 1828]), (45, .iconst 4, 46, []), (46, .iload_n 2, 47, []), (47, .iastore, 48, []), (48, .return_, 49, [])]
/-- WhoKnowsModel.readsLines()V -/
def mm_c234 : List mm_I := [(0, .aload_n 0, 1, []), (1, .getfield 142, 4, [0, 14, 14, 1842]), (4, .ifCond .ne 31, 7, [35]), (7, .aload_n 0, 8, []), (8, .invokevirtual 63, 11, [0, 179, 1, 14, 1821, 1823, 44, 151]), (11, .ifCond .ne 24, 14, [35]), (14, .aload_n 0, 15, []), (15, .ldc_w 268, 18, [1, 24, 2022]), (18, .invokevirtual 270, 21, [0, 235, 2, 14, 2023, 2025, 62, 151]), (21, .ifCond .eq 14, 24, [35]), (24, .aload_n 0, 25, []), (25, .aload_n 0, 26, []), (26, .getfield 132, 29, [0, 14, 12, 1840]), (29, .invokevirtual 273, 32, [0, 230, 2, 14, 2031, 2033, 64, 151]), (32, .goto (-32), 35, [0]), (35, .aload_n 0, 36, []), (36, .getfield 142, 39, [0, 14, 14, 1842]), (39, .ifCond .eq 4, 42, [43]), (42, .return_, 43, []), (43, .aload_n 0, 44, []), (44, .aload_n 0, 45, []), (45, .ldc_w 276, 48, [1, 26, 2129]), (48, .invokevirtual 162, 51, [0, 205, 2, 14, 1961, 1963, 50, 151]), (51, .iconst 1, 52, []), (52, .invokevirtual 166, 55, [0, 204, 3, 14, 1977, 1979, 53, 151]), (55, .aload_n 0, 56, []), (56, .getfield 142, 59, [0, 14, 14, 1842]), (59, .ifCond .ne 7, 62, [66]), (62, .aload_n 0, 63, []), (63, .invokevirtual 278, 66, [0, 232, 1, 14, 2130, 2132, 87, 151]), (66, .iconst 0, 67, []), (67, .istore_n 1, 68, []), (68, .aload_n 0, 69, []), (69, .getfield 142, 72, [0, 14, 14, 1842]), (72, .ifCond .ne 78, 75, [150]), (75, .iload_n 1, 76, []), (76, .ifCond .ne 74, 79, [150]), (79, .aload_n 0, 80, []), (80, .invokevirtual 151, 83, [0, 202, 1, 14, 1965, 1967, 51, 151]), (83, .iconst (-1), 84, []), (84, .if_icmp .eq 66, 87, [150]), (87, .aload_n 0, 88, []), (88, .bipush 59, 90, []), (90, .invokevirtual 229, 93, [0, 207, 2, 14, 2027, 2029, 63, 151]), (93, .aload_n 0, 94, []), (94, .ldc_w 276, 97, [1, 26, 2129]), (97, .invokevirtual 162, 100, [0, 205, 2, 14, 1961, 1963, 50, 151]), (100, .ifCond .eq 10, 103, [110]), (103, .aload_n 0, 104, []), (104, .invokevirtual 278, 107, [0, 232, 1, 14, 2130, 2132, 87, 151]), (107, .goto (-39), 110, [68]), (110, .aload_n 0, 111, []), (111, .aload_n 0, 112, []), (112, .ldc_w 281, 115, [1, 28, 2138]), (115, .invokevirtual 162, 118, [0, 205, 2, 14, 1961, 1963, 50, 151]), (118, .iconst 1, 119, []), (119, .invokevirtual 166, 122, [0, 204, 3, 14, 1977, 1979, 53, 151]), (122, .iconst 1, 123, []), (123, .istore_n 1, 124, []), (124, .aload_n 0, 125, []), (125, .getfield 142, 128, [0, 14, 14, 1842]), (128, .ifCond .eq 4, 131, [132]), (131, .return_, 132, []), (132, .aload_n 0, 133, []), (133, .getfield 7, 136, [0, 14, 0, 1828]), (136, .iconst 4, 137, []), (137, .iconst (-1), 138, []), (138, .iastore, 139, []), (139, .aload_n 0, 140, []), (140, .aload_n 0, 141, []), (141, .getfield 132, 144, [0, 14, 12, 1840]), (144, .invokevirtual 283, 147, [0, 233, 2, 14, 2139, 2141, 89, 151]), (147, .goto (-79), 150, [68]), (150, .aload_n 0, 151, []), (151, .getfield 142, 154, [0, 14, 14, 1842]), (154, .ifCond .ne 21, 157, [175]), (157, .aload_n 0, 158, []), (158, .aload_n 0, 159, []), (159, .invokevirtual 151, 162, [0, 202, 1, 14, 1965, 1967, 51, 151]), (162, .iconst (-1), 163, []), (163, .if_icmp .ne 7, 166, [170]), (166, .iconst 1, 167, []), (167, .goto 4, 170, [171]), (170, .iconst 0, 171, []), (171, .iconst 1, 172, []), (172, .invokevirtual 166, 175, [0, 204, 3, 14, 1977, 1979, 53, 151]), (175, .return_, 176, [])]
/-- WhoKnowsModel.nextLine(Ljava/lang/String;)Z -/
def mm_c235 : List mm_I := [(0, .aload_n 0, 1, []), (1, .bipush 59, 3, []), (3, .invokevirtual 229, 6, [0, 207, 2, 14, 2027, 2029, 63, 151]), (6, .aload_n 0, 7, []), (7, .getfield 142, 10, [0, 14, 14, 1842]), (10, .ifCond .ne 15, 13, [25]), (13, .aload_n 0, 14, []), (14, .aload_n 1, 15, []), (15, .invokevirtual 162, 18, [0, 205, 2, 14, 1961, 1963, 50, 151]), (18, .ifCond .eq 7, 21, [25]), (21, .iconst 1, 22, []), (22, .goto 4, 25, [26]), (25, .iconst 0, 26, []), (26, .ireturn, 27, [])]
/-- WhoKnowsModel.readText()I -/
def mm_c236 : List mm_I := [(0, .aload_n 0, 1, []), (1, .getfield 7, 4, [0, 14, 0, 1828]), (4, .iconst 0, 5, []), (5, .aload_n 0, 6, []), (6, .getfield 16, 9, [0, 14, 2, 1830]), (9, .iconst 0, 10, []), (10, .invokestatic 286, 13, [1, 177, 4, 1945, 1946, 151]), (13, .iconst 0, 14, []), (14, .istore_n 1, 15, []), (15, .iload_n 1, 16, []), (16, .sipush 564, 19, []), (19, .if_icmp .ge 16, 22, [35]), (22, .aload_n 0, 23, []), (23, .getfield 7, 26, [0, 14, 0, 1828]), (26, .iload_n 1, 27, []), (27, .iconst 0, 28, []), (28, .iastore, 29, []), (29, .iinc 1 1, 32, []), (32, .goto (-17), 35, [15]), (35, .aload_n 0, 36, []), (36, .invokevirtual 290, 39, [0, 214, 1, 14, 1948, 1950, 47, 151]), (39, .aload_n 0, 40, []), (40, .invokevirtual 293, 43, [0, 229, 1, 14, 1952, 1954, 48, 151]), (43, .aload_n 0, 44, []), (44, .getfield 7, 47, [0, 14, 0, 1828]), (47, .iconst 4, 48, []), (48, .iconst (-1), 49, []), (49, .iastore, 50, []), (50, .aload_n 0, 51, []), (51, .getfield 142, 54, [0, 14, 14, 1842]), (54, .ifCond .ne 7, 57, [61]), (57, .aload_n 0, 58, []), (58, .invokevirtual 296, 61, [0, 234, 1, 14, 2018, 2020, 61, 151]), (61, .aload_n 0, 62, []), (62, .aload_n 0, 63, []), (63, .invokevirtual 299, 66, [0, 215, 1, 14, 2143, 2145, 90, 151]), (66, .invokevirtual 119, 69, [0, 176, 2, 14, 1918, 1920, 45, 151]), (69, .ifCond .ne 18, 72, [87]), (72, .aload_n 0, 73, []), (73, .getfield 16, 76, [0, 14, 2, 1830]), (76, .iconst 0, 77, []), (77, .aload_n 0, 78, []), (78, .getfield 7, 81, [0, 14, 0, 1828]), (81, .iconst 0, 82, []), (82, .invokestatic 286, 85, [1, 177, 4, 1945, 1946, 151]), (85, .iconst 0, 86, []), (86, .ireturn, 87, []), (87, .aload_n 0, 88, []), (88, .getfield 7, 91, [0, 14, 0, 1828]), (91, .iconst 4, 92, []), (92, .iaload, 93, []), (93, .istore_n 1, 94, []), (94, .aload_n 0, 95, []), (95, .aload_n 0, 96, []), (96, .getfield 7, 99, [0, 14, 0, 1828]), (99, .iconst 2, 100, []), (100, .iaload, 101, []), (101, .invokevirtual 44, 104, [0, 187, 2, 14, 1814, 1816, 43, 151]), (104, .aload_n 0, 105, []), (105, .getfield 7, 108, [0, 14, 0, 1828]), (108, .iconst 4, 109, []), (109, .iload_n 1, 110, []), (110, .iconst (-1), 111, []), (111, .if_icmp .ne 15, 114, [126]), (114, .aload_n 0, 115, []), (115, .getfield 7, 118, [0, 14, 0, 1828]), (118, .iconst 2, 119, []), (119, .iaload, 120, []), (120, .invokestatic 302, 123, [1, 175, 1, 2147, 2148, 151]), (123, .goto 4, 126, [127]), (126, .iload_n 1, 127, []), (127, .iastore, 128, []), (128, .aload_n 0, 129, []), (129, .iconst 0, 130, []), (130, .putfield 305, 133, [0, 14, 5, 1833]), (133, .aload_n 0, 134, []), (134, .getfield 7, 137, [0, 14, 0, 1828]), (137, .iconst 3, 138, []), (138, .iaload, 139, []), (139, .ireturn, 140, [])]
/-- WhoKnowsModel.grows(II)V -/
def mm_c237 : List mm_I := [(0, .aload_n 0, 1, []), (1, .getfield 7, 4, [0, 14, 0, 1828]), (4, .bipush 8, 6, []), (6, .iload_n 1, 7, []), (7, .iadd, 8, []), (8, .dup2, 9, []), (9, .iaload, 10, []), (10, .iload_n 2, 11, []), (11, .iadd, 12, []), (12, .iastore, 13, []), (13, .return_, 14, [])]
/-- WhoKnowsModel.notes(III)V -/
def mm_c238 : List mm_I := [(0, .bipush 59, 2, []), (2, .istore 4, 4, []), (4, .iload 4, 6, []), (6, .iconst 3, 7, []), (7, .if_icmp .lt 31, 10, [38]), (10, .aload_n 0, 11, []), (11, .getfield 7, 14, [0, 14, 0, 1828]), (14, .bipush 16, 16, []), (16, .iload 4, 18, []), (18, .iadd, 19, []), (19, .aload_n 0, 20, []), (20, .getfield 7, 23, [0, 14, 0, 1828]), (23, .bipush 16, 25, []), (25, .iload 4, 27, []), (27, .iadd, 28, []), (28, .iconst 3, 29, []), (29, .isub, 30, []), (30, .iaload, 31, []), (31, .iastore, 32, []), (32, .iinc 4 (-1), 35, []), (35, .goto (-31), 38, [4]), (38, .aload_n 0, 39, []), (39, .getfield 7, 42, [0, 14, 0, 1828]), (42, .bipush 16, 44, []), (44, .iload_n 1, 45, []), (45, .iastore, 46, []), (46, .aload_n 0, 47, []), (47, .getfield 7, 50, [0, 14, 0, 1828]), (50, .bipush 17, 52, []), (52, .iload_n 2, 53, []), (53, .iastore, 54, []), (54, .aload_n 0, 55, []), (55, .getfield 7, 58, [0, 14, 0, 1828]), (58, .bipush 18, 60, []), (60, .iload_n 3, 61, []), (61, .iastore, 62, []), (62, .aload_n 0, 63, []), (63, .getfield 7, 66, [0, 14, 0, 1828]), (66, .bipush 6, 68, []), (68, .bipush 20, 70, []), (70, .aload_n 0, 71, []), (71, .getfield 7, 74, [0, 14, 0, 1828]), (74, .bipush 6, 76, []), (76, .iaload, 77, []), (77, .iconst 1, 78, []), (78, .iadd, 79, []), (79, .invokestatic 308, 82, [12, 2199]), (82, .iastore, 83, []), (83, .return_, 84, [])]
/-- WhoKnowsModel.rules(I)I -/
def mm_c239 : List mm_I := [(0, .aload_n 0, 1, []), (1, .getfield 7, 4, [0, 14, 0, 1828]), (4, .iconst 2, 5, []), (5, .iaload, 6, []), (6, .iload_n 1, 7, []), (7, .iconst (-1), 8, []), (8, .ixor, 9, []), (9, .iand, 10, []), (10, .istore_n 2, 11, []), (11, .aload_n 0, 12, []), (12, .getfield 7, 15, [0, 14, 0, 1828]), (15, .iconst 2, 16, []), (16, .dup2, 17, []), (17, .iaload, 18, []), (18, .iload_n 1, 19, []), (19, .iand, 20, []), (20, .iastore, 21, []), (21, .aload_n 0, 22, []), (22, .iconst 5, 23, []), (23, .iload_n 2, 24, []), (24, .invokestatic 74, 27, [1, 174, 1, 1818, 1819, 151]), (27, .invokevirtual 311, 30, [0, 237, 3, 14, 2191, 2193, 99, 151]), (30, .iload_n 2, 31, []), (31, .ireturn, 32, [])]
/-- WhoKnowsModel.announceNow([II)I -/
def mm_c240 : List mm_I := [(0, .aload_n 0, 1, []), (1, .aload_n 1, 2, []), (2, .iload_n 2, 3, []), (3, .invokevirtual 107, 6, [0, 195, 3, 14, 2083, 2085, 77, 151]), (6, .istore_n 3, 7, []), (7, .iload_n 3, 8, []), (8, .aload_n 0, 9, []), (9, .getfield 7, 12, [0, 14, 0, 1828]), (12, .iconst 4, 13, []), (13, .iaload, 14, []), (14, .invokestatic 51, 17, [1, 173, 2, 2094, 2095, 151]), (17, .ifCond .ne 5, 20, [22]), (20, .iconst (-1), 21, []), (21, .ireturn, 22, []), (22, .aload_n 0, 23, []), (23, .iload_n 3, 24, []), (24, .invokevirtual 315, 27, [0, 239, 2, 14, 2187, 2189, 98, 151]), (27, .istore 4, 29, []), (29, .aload_n 0, 30, []), (30, .iconst 0, 31, []), (31, .iconst 1, 32, []), (32, .invokevirtual 311, 35, [0, 237, 3, 14, 2191, 2193, 99, 151]), (35, .aload_n 0, 36, []), (36, .iconst 0, 37, []), (37, .iconst 0, 38, []), (38, .iload 4, 40, []), (40, .invokevirtual 318, 43, [0, 238, 4, 14, 2195, 2197, 100, 151]), (43, .aload_n 0, 44, []), (44, .getfield 7, 47, [0, 14, 0, 1828]), (47, .iconst 2, 48, []), (48, .iaload, 49, []), (49, .invokestatic 74, 52, [1, 174, 1, 1818, 1819, 151]), (52, .ireturn, 53, [])]
/-- WhoKnowsModel.sayNow(I[II)I -/
def mm_c241 : List mm_I := [(0, .aload_n 0, 1, []), (1, .aload_n 2, 2, []), (2, .iload_n 3, 3, []), (3, .invokevirtual 107, 6, [0, 195, 3, 14, 2083, 2085, 77, 151]), (6, .istore 4, 8, []), (8, .iload 4, 10, []), (10, .aload_n 0, 11, []), (11, .getfield 7, 14, [0, 14, 0, 1828]), (14, .iconst 4, 15, []), (15, .iaload, 16, []), (16, .invokestatic 51, 19, [1, 173, 2, 2094, 2095, 151]), (19, .ifCond .ne 5, 22, [24]), (22, .iconst (-1), 23, []), (23, .ireturn, 24, []), (24, .aload_n 0, 25, []), (25, .iload_n 1, 26, []), (26, .iload 4, 28, []), (28, .invokevirtual 82, 31, [0, 188, 3, 14, 2097, 2099, 79, 151]), (31, .istore 5, 33, []), (33, .iload 5, 35, []), (35, .aload_n 0, 36, []), (36, .getfield 7, 39, [0, 14, 0, 1828]), (39, .iconst 4, 40, []), (40, .iaload, 41, []), (41, .invokestatic 51, 44, [1, 173, 2, 2094, 2095, 151]), (44, .ifCond .ne 6, 47, [50]), (47, .bipush (-2), 49, []), (49, .ireturn, 50, []), (50, .aload_n 0, 51, []), (51, .iload 5, 53, []), (53, .invokevirtual 315, 56, [0, 239, 2, 14, 2187, 2189, 98, 151]), (56, .istore 6, 58, []), (58, .aload_n 0, 59, []), (59, .iconst 1, 60, []), (60, .iconst 1, 61, []), (61, .invokevirtual 311, 64, [0, 237, 3, 14, 2191, 2193, 99, 151]), (64, .aload_n 0, 65, []), (65, .iconst 1, 66, []), (66, .iconst 1, 67, []), (67, .iload_n 1, 68, []), (68, .ishl, 69, []), (69, .iload 6, 71, []), (71, .invokevirtual 318, 74, [0, 238, 4, 14, 2195, 2197, 100, 151]), (74, .aload_n 0, 75, []), (75, .getfield 7, 78, [0, 14, 0, 1828]), (78, .iconst 2, 79, []), (79, .iaload, 80, []), (80, .invokestatic 74, 83, [1, 174, 1, 1818, 1819, 151]), (83, .ireturn, 84, [])]
/-- WhoKnowsModel.partedBy(II)I -/
def mm_c242 : List mm_I := [(0, .iconst 0, 1, []), (1, .istore_n 3, 2, []), (2, .iconst 0, 3, []), (3, .istore 4, 5, []), (5, .iload 4, 7, []), (7, .bipush 32, 9, []), (9, .if_icmp .ge 39, 12, [48]), (12, .iload_n 3, 13, []), (13, .iload_n 2, 14, []), (14, .iload 4, 16, []), (16, .invokestatic 51, 19, [1, 173, 2, 2094, 2095, 151]), (19, .ifCond .eq 20, 22, [39]), (22, .aload_n 0, 23, []), (23, .iload_n 1, 24, []), (24, .iload 4, 26, []), (26, .invokevirtual 78, 29, [0, 186, 3, 14, 2105, 2107, 81, 151]), (29, .iload_n 2, 30, []), (30, .iconst (-1), 31, []), (31, .ixor, 32, []), (32, .iand, 33, []), (33, .invokestatic 74, 36, [1, 174, 1, 1818, 1819, 151]), (36, .goto 4, 39, [40]), (39, .iconst 0, 40, []), (40, .iadd, 41, []), (41, .istore_n 3, 42, []), (42, .iinc 4 1, 45, []), (45, .goto (-40), 48, [5]), (48, .iload_n 3, 49, []), (49, .ireturn, 50, [])]
/-- WhoKnowsModel.parts(II)I -/
def mm_c243 : List mm_I := [(0, .aload_n 0, 1, []), (1, .iload_n 1, 2, []), (2, .iload_n 2, 3, []), (3, .invokevirtual 322, 6, [0, 242, 3, 14, 2212, 2214, 104, 151]), (6, .istore_n 3, 7, []), (7, .iconst 0, 8, []), (8, .istore 4, 10, []), (10, .iload 4, 12, []), (12, .bipush 32, 14, []), (14, .if_icmp .ge 44, 17, [58]), (17, .aload_n 0, 18, []), (18, .getfield 7, 21, [0, 14, 0, 1828]), (21, .sipush 160, 24, []), (24, .bipush 32, 26, []), (26, .iload_n 1, 27, []), (27, .imul, 28, []), (28, .iadd, 29, []), (29, .iload 4, 31, []), (31, .iadd, 32, []), (32, .dup2, 33, []), (33, .iaload, 34, []), (34, .iload_n 2, 35, []), (35, .iload 4, 37, []), (37, .invokestatic 51, 40, [1, 173, 2, 2094, 2095, 151]), (40, .ifCond .eq 7, 43, [47]), (43, .iload_n 2, 44, []), (44, .goto 6, 47, [50]), (47, .iload_n 2, 48, []), (48, .iconst (-1), 49, []), (49, .ixor, 50, []), (50, .iand, 51, []), (51, .iastore, 52, []), (52, .iinc 4 1, 55, []), (55, .goto (-45), 58, [10]), (58, .aload_n 0, 59, []), (59, .bipush 6, 61, []), (61, .iload_n 3, 62, []), (62, .invokevirtual 311, 65, [0, 237, 3, 14, 2191, 2193, 99, 151]), (65, .iload_n 3, 66, []), (66, .ireturn, 67, [])]
/-- WhoKnowsModel.whisperNow(I[II)I -/
def mm_c244 : List mm_I := [(0, .aload_n 0, 1, []), (1, .aload_n 2, 2, []), (2, .iload_n 3, 3, []), (3, .invokevirtual 107, 6, [0, 195, 3, 14, 2083, 2085, 77, 151]), (6, .istore 4, 8, []), (8, .iconst 0, 9, []), (9, .istore 5, 11, []), (11, .iconst 0, 12, []), (12, .istore 6, 14, []), (14, .iload 6, 16, []), (16, .aload_n 0, 17, []), (17, .invokevirtual 63, 20, [0, 179, 1, 14, 1821, 1823, 44, 151]), (20, .if_icmp .ge 35, 23, [55]), (23, .iload 5, 25, []), (25, .iload_n 1, 26, []), (26, .iload 6, 28, []), (28, .invokestatic 51, 31, [1, 173, 2, 2094, 2095, 151]), (31, .ifCond .eq 14, 34, [45]), (34, .aload_n 0, 35, []), (35, .iload 6, 37, []), (37, .iload 4, 39, []), (39, .invokevirtual 325, 42, [0, 243, 3, 14, 2208, 2210, 103, 151]), (42, .goto 4, 45, [46]), (45, .iconst 0, 46, []), (46, .iadd, 47, []), (47, .istore 5, 49, []), (49, .iinc 6 1, 52, []), (52, .goto (-38), 55, [14]), (55, .aload_n 0, 56, []), (56, .iconst 2, 57, []), (57, .iconst 1, 58, []), (58, .invokevirtual 311, 61, [0, 237, 3, 14, 2191, 2193, 99, 151]), (61, .aload_n 0, 62, []), (62, .iconst 2, 63, []), (63, .iload_n 1, 64, []), (64, .iconst 0, 65, []), (65, .invokevirtual 318, 68, [0, 238, 4, 14, 2195, 2197, 100, 151]), (68, .iload 5, 70, []), (70, .ireturn, 71, [])]
/-- WhoKnowsModel.showNow(II)I -/
def mm_c245 : List mm_I := [(0, .aload_n 0, 1, []), (1, .iload_n 1, 2, []), (2, .iload_n 2, 3, []), (3, .invokestatic 91, 6, [1, 184, 1, 2091, 2092, 151]), (6, .aload_n 0, 7, []), (7, .getfield 7, 10, [0, 14, 0, 1828]), (10, .iconst 2, 11, []), (11, .iaload, 12, []), (12, .iand, 13, []), (13, .invokevirtual 325, 16, [0, 243, 3, 14, 2208, 2210, 103, 151]), (16, .istore_n 3, 17, []), (17, .aload_n 0, 18, []), (18, .iconst 3, 19, []), (19, .iconst 1, 20, []), (20, .invokevirtual 311, 23, [0, 237, 3, 14, 2191, 2193, 99, 151]), (23, .aload_n 0, 24, []), (24, .iconst 3, 25, []), (25, .iconst 1, 26, []), (26, .iload_n 1, 27, []), (27, .ishl, 28, []), (28, .iconst 0, 29, []), (29, .invokevirtual 318, 32, [0, 238, 4, 14, 2195, 2197, 100, 151]), (32, .iload_n 3, 33, []), (33, .ireturn, 34, [])]
/-- WhoKnowsModel.knowersOf(II)I -/
def mm_c246 : List mm_I := [(0, .iconst 0, 1, []), (1, .istore_n 3, 2, []), (2, .iconst 0, 3, []), (3, .istore 4, 5, []), (5, .iload 4, 7, []), (7, .aload_n 0, 8, []), (8, .invokevirtual 63, 11, [0, 179, 1, 14, 1821, 1823, 44, 151]), (11, .if_icmp .ge 48, 14, [59]), (14, .aload_n 0, 15, []), (15, .iload 4, 17, []), (17, .iload_n 1, 18, []), (18, .invokevirtual 78, 21, [0, 186, 3, 14, 2105, 2107, 81, 151]), (21, .istore 5, 23, []), (23, .iload_n 3, 24, []), (24, .iload 5, 26, []), (26, .iload_n 2, 27, []), (27, .iconst (-1), 28, []), (28, .ixor, 29, []), (29, .iand, 30, []), (30, .ifCond .eq 10, 33, [40]), (33, .iload 5, 35, []), (35, .iload_n 2, 36, []), (36, .iand, 37, []), (37, .ifCond .ne 7, 40, [44]), (40, .iconst 1, 41, []), (41, .goto 4, 44, [45]), (44, .iconst 0, 45, []), (45, .invokestatic 66, 48, [1, 172, 1, 1825, 1826, 151]), (48, .iload 4, 50, []), (50, .ishl, 51, []), (51, .ior, 52, []), (52, .istore_n 3, 53, []), (53, .iinc 4 1, 56, []), (56, .goto (-51), 59, [5]), (59, .iload_n 3, 60, []), (60, .ireturn, 61, [])]
/-- WhoKnowsModel.roundNow(I)I -/
def mm_c247 : List mm_I := [(0, .iload_n 1, 1, []), (1, .invokestatic 91, 4, [1, 184, 1, 2091, 2092, 151]), (4, .istore_n 2, 5, []), (5, .aload_n 0, 6, []), (6, .aload_n 0, 7, []), (7, .getfield 7, 10, [0, 14, 0, 1828]), (10, .iconst 4, 11, []), (11, .iaload, 12, []), (12, .iload_n 2, 13, []), (13, .invokevirtual 328, 16, [0, 246, 3, 14, 2224, 2226, 107, 151]), (16, .istore_n 3, 17, []), (17, .iconst 0, 18, []), (18, .istore 4, 20, []), (20, .iconst 0, 21, []), (21, .istore 5, 23, []), (23, .iload 5, 25, []), (25, .bipush 32, 27, []), (27, .if_icmp .ge 45, 30, [72]), (30, .iload 4, 32, []), (32, .aload_n 0, 33, []), (33, .iload 5, 35, []), (35, .invokevirtual 70, 38, [0, 185, 2, 14, 2101, 2103, 80, 151]), (38, .ifCond .eq 18, 41, [56]), (41, .aload_n 0, 42, []), (42, .iload 5, 44, []), (44, .iload_n 2, 45, []), (45, .invokevirtual 328, 48, [0, 246, 3, 14, 2224, 2226, 107, 151]), (48, .iload_n 3, 49, []), (49, .if_icmp .ne 7, 52, [56]), (52, .iconst 1, 53, []), (53, .goto 4, 56, [57]), (56, .iconst 0, 57, []), (57, .invokestatic 66, 60, [1, 172, 1, 1825, 1826, 151]), (60, .iload 5, 62, []), (62, .ishl, 63, []), (63, .ior, 64, []), (64, .istore 4, 66, []), (66, .iinc 5 1, 69, []), (69, .goto (-46), 72, [23]), (72, .aload_n 0, 73, []), (73, .iload 4, 75, []), (75, .invokevirtual 315, 78, [0, 239, 2, 14, 2187, 2189, 98, 151]), (78, .istore 5, 80, []), (80, .aload_n 0, 81, []), (81, .iconst 4, 82, []), (82, .iconst 1, 83, []), (83, .invokevirtual 311, 86, [0, 237, 3, 14, 2191, 2193, 99, 151]), (86, .aload_n 0, 87, []), (87, .iconst 4, 88, []), (88, .iconst 0, 89, []), (89, .iload 5, 91, []), (91, .invokevirtual 318, 94, [0, 238, 4, 14, 2195, 2197, 100, 151]), (94, .iload_n 3, 95, []), (95, .ireturn, 96, [])]
/-- WhoKnowsModel.orderHere()I -/
def mm_c248 : List mm_I := [(0, .aload_n 0, 1, []), (1, .ldc_w 331, 4, [1, 36, 2162]), (4, .invokevirtual 162, 7, [0, 205, 2, 14, 1961, 1963, 50, 151]), (7, .ifCond .eq 5, 10, [12]), (10, .iconst 0, 11, []), (11, .ireturn, 12, []), (12, .aload_n 0, 13, []), (13, .ldc_w 333, 16, [1, 38, 2163]), (16, .invokevirtual 162, 19, [0, 205, 2, 14, 1961, 1963, 50, 151]), (19, .ifCond .eq 5, 22, [24]), (22, .iconst 1, 23, []), (23, .ireturn, 24, []), (24, .aload_n 0, 25, []), (25, .ldc_w 335, 28, [1, 40, 2164]), (28, .invokevirtual 162, 31, [0, 205, 2, 14, 1961, 1963, 50, 151]), (31, .ifCond .eq 5, 34, [36]), (34, .iconst 2, 35, []), (35, .ireturn, 36, []), (36, .aload_n 0, 37, []), (37, .ldc_w 337, 40, [1, 42, 2165]), (40, .invokevirtual 162, 43, [0, 205, 2, 14, 1961, 1963, 50, 151]), (43, .ifCond .eq 5, 46, [48]), (46, .iconst 3, 47, []), (47, .ireturn, 48, []), (48, .aload_n 0, 49, []), (49, .ldc_w 339, 52, [1, 44, 2166]), (52, .invokevirtual 162, 55, [0, 205, 2, 14, 1961, 1963, 50, 151]), (55, .ifCond .eq 7, 58, [62]), (58, .iconst 4, 59, []), (59, .goto 4, 62, [63]), (62, .iconst (-1), 63, []), (63, .ireturn, 64, [])]
/-- WhoKnowsModel.readsTold()I -/
def mm_c249 : List mm_I := [(0, .iconst 0, 1, []), (1, .istore_n 1, 2, []), (2, .aload_n 0, 3, []), (3, .iconst 1, 4, []), (4, .invokevirtual 214, 7, [0, 212, 2, 14, 2075, 2077, 75, 151]), (7, .istore_n 2, 8, []), (8, .aload_n 0, 9, []), (9, .aload_n 0, 10, []), (10, .getfield 142, 13, [0, 14, 14, 1842]), (13, .ifCond .ne 11, 16, [24]), (16, .iload_n 1, 17, []), (17, .iload_n 2, 18, []), (18, .invokestatic 51, 21, [1, 173, 2, 2094, 2095, 151]), (21, .ifCond .ne 7, 24, [28]), (24, .iconst 1, 25, []), (25, .goto 4, 28, [29]), (28, .iconst 0, 29, []), (29, .iconst 2, 30, []), (30, .invokevirtual 166, 33, [0, 204, 3, 14, 1977, 1979, 53, 151]), (33, .iload_n 1, 34, []), (34, .aload_n 0, 35, []), (35, .getfield 142, 38, [0, 14, 14, 1842]), (38, .ifCond .ne 9, 41, [47]), (41, .iconst 1, 42, []), (42, .iload_n 2, 43, []), (43, .ishl, 44, []), (44, .goto 4, 47, [48]), (47, .iconst 0, 48, []), (48, .ior, 49, []), (49, .istore_n 1, 50, []), (50, .aload_n 0, 51, []), (51, .invokevirtual 258, 54, [0, 209, 1, 14, 2014, 2016, 60, 151]), (54, .ifCond .eq 12, 57, [66]), (57, .aload_n 0, 58, []), (58, .ldc 184, 60, [1, 20, 2001]), (60, .invokevirtual 162, 63, [0, 205, 2, 14, 1961, 1963, 50, 151]), (63, .ifCond .eq (-61), 66, [2]), (66, .aload_n 0, 67, []), (67, .aload_n 0, 68, []), (68, .ldc 184, 70, [1, 20, 2001]), (70, .invokevirtual 252, 73, [0, 206, 2, 14, 1957, 1959, 49, 151]), (73, .iconst 1, 74, []), (74, .invokevirtual 166, 77, [0, 204, 3, 14, 1977, 1979, 53, 151]), (77, .iload_n 1, 78, []), (78, .ireturn, 79, [])]
/-- WhoKnowsModel.readsParts(I)V -/
def mm_c250 : List mm_I := [(0, .iconst 0, 1, []), (1, .istore_n 2, 2, []), (2, .iconst 0, 3, []), (3, .istore_n 3, 4, []), (4, .iload_n 1, 5, []), (5, .iconst 1, 6, []), (6, .if_icmp .eq 8, 9, [14]), (9, .iload_n 1, 10, []), (10, .iconst 3, 11, []), (11, .if_icmp .ne 9, 14, [20]), (14, .aload_n 0, 15, []), (15, .iconst 1, 16, []), (16, .invokevirtual 214, 19, [0, 212, 2, 14, 2075, 2077, 75, 151]), (19, .istore_n 2, 20, []), (20, .iload_n 1, 21, []), (21, .iconst 2, 22, []), (22, .if_icmp .ne 8, 25, [30]), (25, .aload_n 0, 26, []), (26, .invokevirtual 341, 29, [0, 249, 1, 14, 2171, 2173, 94, 151]), (29, .istore_n 2, 30, []), (30, .iload_n 1, 31, []), (31, .iconst 3, 32, []), (32, .if_icmp .eq 8, 35, [40]), (35, .iload_n 1, 36, []), (36, .iconst 4, 37, []), (37, .if_icmp .ne 9, 40, [46]), (40, .aload_n 0, 41, []), (41, .iconst 0, 42, []), (42, .invokevirtual 214, 45, [0, 212, 2, 14, 2075, 2077, 75, 151]), (45, .istore_n 3, 46, []), (46, .iload_n 1, 47, []), (47, .iconst 3, 48, []), (48, .if_icmp .ge 12, 51, [60]), (51, .aload_n 0, 52, []), (52, .aload_n 0, 53, []), (53, .getfield 344, 56, [0, 14, 24, 1852]), (56, .iconst 0, 57, []), (57, .invokevirtual 261, 60, [0, 228, 3, 14, 2035, 2037, 65, 151]), (60, .aload_n 0, 61, []), (61, .getfield 38, 64, [0, 14, 23, 1851]), (64, .iconst 3, 65, []), (65, .aload_n 0, 66, []), (66, .getfield 344, 69, [0, 14, 24, 1852]), (69, .imul, 70, []), (70, .iconst 1, 71, []), (71, .iadd, 72, []), (72, .iload_n 2, 73, []), (73, .iastore, 74, []), (74, .aload_n 0, 75, []), (75, .getfield 38, 78, [0, 14, 23, 1851]), (78, .iconst 3, 79, []), (79, .aload_n 0, 80, []), (80, .getfield 344, 83, [0, 14, 24, 1852]), (83, .imul, 84, []), (84, .iconst 2, 85, []), (85, .iadd, 86, []), (86, .iload_n 3, 87, []), (87, .iastore, 88, []), (88, .return_, 89, [])]
/-- WhoKnowsModel.readsOrder()V -/
def mm_c251 : List mm_I := [(0, .aload_n 0, 1, []), (1, .invokevirtual 347, 4, [0, 248, 1, 14, 2158, 2160, 92, 151]), (4, .istore_n 1, 5, []), (5, .aload_n 0, 6, []), (6, .iload_n 1, 7, []), (7, .iconst (-1), 8, []), (8, .if_icmp .eq 7, 11, [15]), (11, .iconst 1, 12, []), (12, .goto 4, 15, [16]), (15, .iconst 0, 16, []), (16, .iconst 1, 17, []), (17, .invokevirtual 166, 20, [0, 204, 3, 14, 1977, 1979, 53, 151]), (20, .aload_n 0, 21, []), (21, .aload_n 0, 22, []), (22, .getfield 344, 25, [0, 14, 24, 1852]), (25, .bipush 20, 27, []), (27, .if_icmp .ge 7, 30, [34]), (30, .iconst 1, 31, []), (31, .goto 4, 34, [35]), (34, .iconst 0, 35, []), (35, .iconst 3, 36, []), (36, .invokevirtual 166, 39, [0, 204, 3, 14, 1977, 1979, 53, 151]), (39, .aload_n 0, 40, []), (40, .getfield 142, 43, [0, 14, 14, 1842]), (43, .ifCond .eq 4, 46, [47]), (46, .return_, 47, []), (47, .aload_n 0, 48, []), (48, .aload_n 0, 49, []), (49, .getfield 132, 52, [0, 14, 12, 1840]), (52, .aload_n 0, 53, []), (53, .getfield 135, 56, [0, 14, 13, 1841]), (56, .iadd, 57, []), (57, .putfield 126, 60, [0, 14, 11, 1839]), (60, .aload_n 0, 61, []), (61, .getfield 38, 64, [0, 14, 23, 1851]), (64, .iconst 3, 65, []), (65, .aload_n 0, 66, []), (66, .getfield 344, 69, [0, 14, 24, 1852]), (69, .imul, 70, []), (70, .iload_n 1, 71, []), (71, .iastore, 72, []), (72, .aload_n 0, 73, []), (73, .iload_n 1, 74, []), (74, .invokevirtual 350, 77, [0, 250, 2, 14, 2167, 2169, 93, 151]), (77, .aload_n 0, 78, []), (78, .dup, 79, []), (79, .getfield 344, 82, [0, 14, 24, 1852]), (82, .iconst 1, 83, []), (83, .iadd, 84, []), (84, .putfield 344, 87, [0, 14, 24, 1852]), (87, .aload_n 0, 88, []), (88, .bipush 59, 90, []), (90, .invokevirtual 229, 93, [0, 207, 2, 14, 2027, 2029, 63, 151]), (93, .return_, 94, [])]
/-- WhoKnowsModel.doesOrder(I)I -/
def mm_c252 : List mm_I := [(0, .aload_n 0, 1, []), (1, .getfield 38, 4, [0, 14, 23, 1851]), (4, .iconst 3, 5, []), (5, .iload_n 1, 6, []), (6, .imul, 7, []), (7, .iconst 1, 8, []), (8, .iadd, 9, []), (9, .iaload, 10, []), (10, .istore_n 2, 11, []), (11, .aload_n 0, 12, []), (12, .getfield 38, 15, [0, 14, 23, 1851]), (15, .iconst 3, 16, []), (16, .iload_n 1, 17, []), (17, .imul, 18, []), (18, .iaload, 19, []), (19, .tableswitch 89 0 3 #[29, 43, 58, 73], 48, [108, 48, 62, 77, 92]), (48, .aload_n 0, 49, []), (49, .aload_n 0, 50, []), (50, .getfield 35, 53, [0, 14, 18, 1846]), (53, .sipush 241, 56, []), (56, .iload_n 1, 57, []), (57, .imul, 58, []), (58, .invokevirtual 353, 61, [0, 240, 3, 14, 2183, 2185, 97, 151]), (61, .ireturn, 62, []), (62, .aload_n 0, 63, []), (63, .iload_n 2, 64, []), (64, .aload_n 0, 65, []), (65, .getfield 35, 68, [0, 14, 18, 1846]), (68, .sipush 241, 71, []), (71, .iload_n 1, 72, []), (72, .imul, 73, []), (73, .invokevirtual 356, 76, [0, 241, 4, 14, 2200, 2202, 101, 151]), (76, .ireturn, 77, []), (77, .aload_n 0, 78, []), (78, .iload_n 2, 79, []), (79, .aload_n 0, 80, []), (80, .getfield 35, 83, [0, 14, 18, 1846]), (83, .sipush 241, 86, []), (86, .iload_n 1, 87, []), (87, .imul, 88, []), (88, .invokevirtual 360, 91, [0, 244, 4, 14, 2204, 2206, 102, 151]), (91, .ireturn, 92, []), (92, .aload_n 0, 93, []), (93, .iload_n 2, 94, []), (94, .aload_n 0, 95, []), (95, .getfield 38, 98, [0, 14, 23, 1851]), (98, .iconst 3, 99, []), (99, .iload_n 1, 100, []), (100, .imul, 101, []), (101, .iconst 2, 102, []), (102, .iadd, 103, []), (103, .iaload, 104, []), (104, .invokevirtual 363, 107, [0, 245, 3, 14, 2216, 2218, 105, 151]), (107, .ireturn, 108, []), (108, .aload_n 0, 109, []), (109, .aload_n 0, 110, []), (110, .getfield 38, 113, [0, 14, 23, 1851]), (113, .iconst 3, 114, []), (114, .iload_n 1, 115, []), (115, .imul, 116, []), (116, .iconst 2, 117, []), (117, .iadd, 118, []), (118, .iaload, 119, []), (119, .invokevirtual 366, 122, [0, 247, 2, 14, 2220, 2222, 106, 151]), (122, .ireturn, 123, [])]
/-- WhoKnowsModel.keeps([I)V -/
def mm_c253 : List mm_I := [(0, .aload_n 0, 1, []), (1, .getfield 305, 4, [0, 14, 5, 1833]), (4, .bipush 8, 6, []), (6, .if_icmp .ne 44, 9, [50]), (9, .iconst 0, 10, []), (10, .istore_n 2, 11, []), (11, .iload_n 2, 12, []), (12, .sipush 3948, 15, []), (15, .if_icmp .ge 25, 18, [40]), (18, .aload_n 0, 19, []), (19, .getfield 22, 22, [0, 14, 4, 1832]), (22, .iload_n 2, 23, []), (23, .aload_n 0, 24, []), (24, .getfield 22, 27, [0, 14, 4, 1832]), (27, .iload_n 2, 28, []), (28, .sipush 564, 31, []), (31, .iadd, 32, []), (32, .iaload, 33, []), (33, .iastore, 34, []), (34, .iinc 2 1, 37, []), (37, .goto (-26), 40, [11]), (40, .aload_n 0, 41, []), (41, .dup, 42, []), (42, .getfield 305, 45, [0, 14, 5, 1833]), (45, .iconst 1, 46, []), (46, .isub, 47, []), (47, .putfield 305, 50, [0, 14, 5, 1833]), (50, .aload_n 1, 51, []), (51, .iconst 0, 52, []), (52, .aload_n 0, 53, []), (53, .getfield 22, 56, [0, 14, 4, 1832]), (56, .sipush 564, 59, []), (59, .aload_n 0, 60, []), (60, .getfield 305, 63, [0, 14, 5, 1833]), (63, .imul, 64, []), (64, .invokestatic 286, 67, [1, 177, 4, 1945, 1946, 151]), (67, .aload_n 0, 68, []), (68, .dup, 69, []), (69, .getfield 305, 72, [0, 14, 5, 1833]), (72, .iconst 1, 73, []), (73, .iadd, 74, []), (74, .putfield 305, 77, [0, 14, 5, 1833]), (77, .return_, 78, [])]
/-- WhoKnowsModel.runOrders()I -/
def mm_c254 : List mm_I := [(0, .aload_n 0, 1, []), (1, .invokevirtual 290, 4, [0, 214, 1, 14, 1948, 1950, 47, 151]), (4, .aload_n 0, 5, []), (5, .iconst 0, 6, []), (6, .putfield 344, 9, [0, 14, 24, 1852]), (9, .aload_n 0, 10, []), (10, .getfield 142, 13, [0, 14, 14, 1842]), (13, .ifCond .ne 18, 16, [31]), (16, .aload_n 0, 17, []), (17, .invokevirtual 151, 20, [0, 202, 1, 14, 1965, 1967, 51, 151]), (20, .iconst (-1), 21, []), (21, .if_icmp .eq 10, 24, [31]), (24, .aload_n 0, 25, []), (25, .invokevirtual 369, 28, [0, 251, 1, 14, 2154, 2156, 91, 151]), (28, .goto (-19), 31, [9]), (31, .aload_n 0, 32, []), (32, .aload_n 0, 33, []), (33, .invokevirtual 299, 36, [0, 215, 1, 14, 2143, 2145, 90, 151]), (36, .invokevirtual 119, 39, [0, 176, 2, 14, 1918, 1920, 45, 151]), (39, .ifCond .ne 5, 42, [44]), (42, .iconst 0, 43, []), (43, .ireturn, 44, []), (44, .aload_n 0, 45, []), (45, .aload_n 0, 46, []), (46, .getfield 7, 49, [0, 14, 0, 1828]), (49, .invokevirtual 372, 52, [0, 253, 2, 14, 2175, 2177, 95, 151]), (52, .iconst 0, 53, []), (53, .istore_n 1, 54, []), (54, .iload_n 1, 55, []), (55, .aload_n 0, 56, []), (56, .getfield 344, 59, [0, 14, 24, 1852]), (59, .if_icmp .ge 17, 62, [76]), (62, .aload_n 0, 63, []), (63, .iload_n 1, 64, []), (64, .invokevirtual 376, 67, [0, 252, 2, 14, 2179, 2181, 96, 151]), (67, .ifCond .lt 9, 70, [76]), (70, .iinc 1 1, 73, []), (73, .goto (-19), 76, [54]), (76, .iload_n 1, 77, []), (77, .ireturn, 78, [])]
/-- WhoKnowsModel.ask()I -/
def mm_c255 : List mm_I := [(0, .aload_n 0, 1, []), (1, .invokevirtual 290, 4, [0, 214, 1, 14, 1948, 1950, 47, 151]), (4, .aload_n 0, 5, []), (5, .bipush 20, 7, []), (7, .iconst 0, 8, []), (8, .invokevirtual 261, 11, [0, 228, 3, 14, 2035, 2037, 65, 151]), (11, .aload_n 0, 12, []), (12, .getfield 142, 15, [0, 14, 14, 1842]), (15, .ifCond .ne 21, 18, [36]), (18, .aload_n 0, 19, []), (19, .aload_n 0, 20, []), (20, .invokevirtual 151, 23, [0, 202, 1, 14, 1965, 1967, 51, 151]), (23, .iconst (-1), 24, []), (24, .if_icmp .ne 7, 27, [31]), (27, .iconst 1, 28, []), (28, .goto 4, 31, [32]), (31, .iconst 0, 32, []), (32, .iconst 1, 33, []), (33, .invokevirtual 166, 36, [0, 204, 3, 14, 1977, 1979, 53, 151]), (36, .aload_n 0, 37, []), (37, .aload_n 0, 38, []), (38, .invokevirtual 299, 41, [0, 215, 1, 14, 2143, 2145, 90, 151]), (41, .invokevirtual 119, 44, [0, 176, 2, 14, 1918, 1920, 45, 151]), (44, .ifCond .ne 5, 47, [49]), (47, .iconst 0, 48, []), (48, .ireturn, 49, []), (49, .aload_n 0, 50, []), (50, .aload_n 0, 51, []), (51, .getfield 7, 54, [0, 14, 0, 1828]), (54, .invokevirtual 372, 57, [0, 253, 2, 14, 2175, 2177, 95, 151]), (57, .iconst 0, 58, []), (58, .istore_n 1, 59, []), (59, .iload_n 1, 60, []), (60, .sipush 241, 63, []), (63, .if_icmp .ge 29, 66, [92]), (66, .aload_n 0, 67, []), (67, .getfield 7, 70, [0, 14, 0, 1828]), (70, .sipush 320, 73, []), (73, .iload_n 1, 74, []), (74, .iadd, 75, []), (75, .aload_n 0, 76, []), (76, .getfield 35, 79, [0, 14, 18, 1846]), (79, .sipush 4820, 82, []), (82, .iload_n 1, 83, []), (83, .iadd, 84, []), (84, .iaload, 85, []), (85, .iastore, 86, []), (86, .iinc 1 1, 89, []), (89, .goto (-30), 92, [59]), (92, .aload_n 0, 93, []), (93, .getfield 7, 96, [0, 14, 0, 1828]), (96, .sipush 320, 99, []), (99, .iaload, 100, []), (100, .ireturn, 101, [])]
/-- WhoKnowsModel.size(I)I -/
def mm_c256 : List mm_I := [(0, .aload_n 0, 1, []), (1, .iload_n 1, 2, []), (2, .i2l, 3, []), (3, .lconst 0, 4, []), (4, .ldc2_w 379, 7, [9, 2236]), (7, .invokestatic 59, 10, [1, 171, 3, 1930, 1931, 151]), (10, .invokevirtual 119, 13, [0, 176, 2, 14, 1918, 1920, 45, 151]), (13, .ifCond .ne 5, 16, [18]), (16, .iconst 0, 17, []), (17, .ireturn, 18, []), (18, .iload_n 1, 19, []), (19, .tableswitch 119 0 8 #[49, 54, 59, 69, 76, 83, 92, 104, 111], 68, [138, 68, 73, 78, 88, 95, 102, 111, 123, 130]), (68, .aload_n 0, 69, []), (69, .invokevirtual 55, 72, [0, 178, 1, 14, 2002, 2004, 57, 151]), (72, .ireturn, 73, []), (73, .aload_n 0, 74, []), (74, .invokevirtual 63, 77, [0, 179, 1, 14, 1821, 1823, 44, 151]), (77, .ireturn, 78, []), (78, .aload_n 0, 79, []), (79, .getfield 7, 82, [0, 14, 0, 1828]), (82, .iconst 2, 83, []), (83, .iaload, 84, []), (84, .invokestatic 74, 87, [1, 174, 1, 1818, 1819, 151]), (87, .ireturn, 88, []), (88, .aload_n 0, 89, []), (89, .getfield 7, 92, [0, 14, 0, 1828]), (92, .iconst 3, 93, []), (93, .iaload, 94, []), (94, .ireturn, 95, []), (95, .aload_n 0, 96, []), (96, .getfield 7, 99, [0, 14, 0, 1828]), (99, .iconst 4, 100, []), (100, .iaload, 101, []), (101, .ireturn, 102, []), (102, .aload_n 0, 103, []), (103, .getfield 7, 106, [0, 14, 0, 1828]), (106, .sipush 320, 109, []), (109, .iaload, 110, []), (110, .ireturn, 111, []), (111, .aload_n 0, 112, []), (112, .aload_n 0, 113, []), (113, .getfield 7, 116, [0, 14, 0, 1828]), (116, .sipush 320, 119, []), (119, .invokevirtual 381, 122, [0, 197, 3, 14, 2237, 2239, 108, 151]), (122, .ireturn, 123, []), (123, .aload_n 0, 124, []), (124, .getfield 7, 127, [0, 14, 0, 1828]), (127, .iconst 5, 128, []), (128, .iaload, 129, []), (129, .ireturn, 130, []), (130, .aload_n 0, 131, []), (131, .getfield 7, 134, [0, 14, 0, 1828]), (134, .bipush 6, 136, []), (136, .iaload, 137, []), (137, .ireturn, 138, []), (138, .aload_n 0, 139, []), (139, .getfield 305, 142, [0, 14, 5, 1833]), (142, .ireturn, 143, [])]
/-- WhoKnowsModel.letter(ZII)I -/
def mm_c257 : List mm_I := [(0, .aload_n 0, 1, []), (1, .iload_n 1, 2, []), (2, .ifCond .eq 11, 5, [13]), (5, .aload_n 0, 6, []), (6, .iload_n 2, 7, []), (7, .invokevirtual 384, 10, [0, 181, 2, 14, 2246, 2248, 109, 151]), (10, .goto 8, 13, [18]), (13, .aload_n 0, 14, []), (14, .iload_n 2, 15, []), (15, .invokevirtual 387, 18, [0, 180, 2, 14, 2250, 2252, 110, 151]), (18, .invokevirtual 119, 21, [0, 176, 2, 14, 1918, 1920, 45, 151]), (21, .ifCond .ne 5, 24, [26]), (24, .iconst 0, 25, []), (25, .ireturn, 26, []), (26, .iload_n 1, 27, []), (27, .ifCond .eq 8, 30, [35]), (30, .bipush 115, 32, []), (32, .goto 5, 35, [37]), (35, .bipush 80, 37, []), (37, .bipush 7, 39, []), (39, .iload_n 2, 40, []), (40, .imul, 41, []), (41, .iadd, 42, []), (42, .istore 4, 44, []), (44, .iload_n 3, 45, []), (45, .i2l, 46, []), (46, .lconst 0, 47, []), (47, .aload_n 0, 48, []), (48, .getfield 7, 51, [0, 14, 0, 1828]), (51, .iload 4, 53, []), (53, .iaload, 54, []), (54, .iconst 1, 55, []), (55, .isub, 56, []), (56, .i2l, 57, []), (57, .invokestatic 59, 60, [1, 171, 3, 1930, 1931, 151]), (60, .ifCond .eq 17, 63, [77]), (63, .aload_n 0, 64, []), (64, .getfield 7, 67, [0, 14, 0, 1828]), (67, .iload 4, 69, []), (69, .iconst 1, 70, []), (70, .iadd, 71, []), (71, .iload_n 3, 72, []), (72, .iadd, 73, []), (73, .iaload, 74, []), (74, .goto 4, 77, [78]), (77, .iconst (-1), 78, []), (78, .ireturn, 79, [])]
/-- WhoKnowsModel.sees(I)I -/
def mm_c258 : List mm_I := [(0, .aload_n 0, 1, []), (1, .aload_n 0, 2, []), (2, .iload_n 1, 3, []), (3, .invokevirtual 384, 6, [0, 181, 2, 14, 2246, 2248, 109, 151]), (6, .invokevirtual 119, 9, [0, 176, 2, 14, 1918, 1920, 45, 151]), (9, .ifCond .eq 16, 12, [25]), (12, .aload_n 0, 13, []), (13, .getfield 7, 16, [0, 14, 0, 1828]), (16, .sipush 150, 19, []), (19, .iload_n 1, 20, []), (20, .iadd, 21, []), (21, .iaload, 22, []), (22, .goto 4, 25, [26]), (25, .iconst 0, 26, []), (26, .ireturn, 27, [])]
/-- WhoKnowsModel.worlds()I -/
def mm_c259 : List mm_I := [(0, .aload_n 0, 1, []), (1, .iconst 0, 2, []), (2, .putfield 48, 5, [0, 14, 6, 1834]), (5, .aload_n 0, 6, []), (6, .getfield 7, 9, [0, 14, 0, 1828]), (9, .iconst 2, 10, []), (10, .iaload, 11, []), (11, .ireturn, 12, [])]
/-- WhoKnowsModel.alike(II)I -/
def mm_c260 : List mm_I := [(0, .aload_n 0, 1, []), (1, .aload_n 0, 2, []), (2, .iload_n 1, 3, []), (3, .invokevirtual 384, 6, [0, 181, 2, 14, 2246, 2248, 109, 151]), (6, .ifCond .eq 15, 9, [21]), (9, .aload_n 0, 10, []), (10, .iload_n 2, 11, []), (11, .invokevirtual 390, 14, [0, 182, 2, 14, 2266, 2268, 111, 151]), (14, .ifCond .eq 7, 17, [21]), (17, .iconst 1, 18, []), (18, .goto 4, 21, [22]), (21, .iconst 0, 22, []), (22, .invokevirtual 119, 25, [0, 176, 2, 14, 1918, 1920, 45, 151]), (25, .ifCond .eq 12, 28, [37]), (28, .aload_n 0, 29, []), (29, .iload_n 1, 30, []), (30, .iload_n 2, 31, []), (31, .invokevirtual 78, 34, [0, 186, 3, 14, 2105, 2107, 81, 151]), (34, .goto 4, 37, [38]), (37, .iconst 0, 38, []), (38, .ireturn, 39, [])]
/-- WhoKnowsModel.isFirstOf(II)Z -/
def mm_c261 : List mm_I := [(0, .aload_n 0, 1, []), (1, .iload_n 2, 2, []), (2, .invokevirtual 70, 5, [0, 185, 2, 14, 2101, 2103, 80, 151]), (5, .ifCond .eq 20, 8, [25]), (8, .aload_n 0, 9, []), (9, .iload_n 1, 10, []), (10, .iload_n 2, 11, []), (11, .invokevirtual 78, 14, [0, 186, 3, 14, 2105, 2107, 81, 151]), (14, .invokestatic 302, 17, [1, 175, 1, 2147, 2148, 151]), (17, .iload_n 2, 18, []), (18, .if_icmp .ne 7, 21, [25]), (21, .iconst 1, 22, []), (22, .goto 4, 25, [26]), (25, .iconst 0, 26, []), (26, .ireturn, 27, [])]
/-- WhoKnowsModel.kinds(I)I -/
def mm_c262 : List mm_I := [(0, .aload_n 0, 1, []), (1, .aload_n 0, 2, []), (2, .iload_n 1, 3, []), (3, .invokevirtual 384, 6, [0, 181, 2, 14, 2246, 2248, 109, 151]), (6, .invokevirtual 119, 9, [0, 176, 2, 14, 1918, 1920, 45, 151]), (9, .ifCond .ne 5, 12, [14]), (12, .iconst 0, 13, []), (13, .ireturn, 14, []), (14, .iconst 0, 15, []), (15, .istore_n 2, 16, []), (16, .iconst 0, 17, []), (17, .istore_n 3, 18, []), (18, .iload_n 3, 19, []), (19, .bipush 32, 21, []), (21, .if_icmp .ge 21, 24, [42]), (24, .iload_n 2, 25, []), (25, .aload_n 0, 26, []), (26, .iload_n 1, 27, []), (27, .iload_n 3, 28, []), (28, .invokevirtual 393, 31, [0, 261, 3, 14, 2274, 2276, 112, 151]), (31, .invokestatic 66, 34, [1, 172, 1, 1825, 1826, 151]), (34, .iadd, 35, []), (35, .istore_n 2, 36, []), (36, .iinc 3 1, 39, []), (39, .goto (-21), 42, [18]), (42, .iload_n 2, 43, []), (43, .ireturn, 44, [])]
/-- WhoKnowsModel.doubts(I)I -/
def mm_c263 : List mm_I := [(0, .aload_n 0, 1, []), (1, .aload_n 0, 2, []), (2, .iload_n 1, 3, []), (3, .invokevirtual 384, 6, [0, 181, 2, 14, 2246, 2248, 109, 151]), (6, .invokevirtual 119, 9, [0, 176, 2, 14, 1918, 1920, 45, 151]), (9, .ifCond .ne 5, 12, [14]), (12, .iconst 0, 13, []), (13, .ireturn, 14, []), (14, .iconst 0, 15, []), (15, .istore_n 2, 16, []), (16, .iconst 0, 17, []), (17, .istore_n 3, 18, []), (18, .iload_n 3, 19, []), (19, .bipush 32, 21, []), (21, .if_icmp .ge 35, 24, [56]), (24, .iload_n 2, 25, []), (25, .aload_n 0, 26, []), (26, .iload_n 3, 27, []), (27, .invokevirtual 70, 30, [0, 185, 2, 14, 2101, 2103, 80, 151]), (30, .ifCond .eq 17, 33, [47]), (33, .aload_n 0, 34, []), (34, .iload_n 1, 35, []), (35, .iload_n 3, 36, []), (36, .invokevirtual 78, 39, [0, 186, 3, 14, 2105, 2107, 81, 151]), (39, .invokestatic 74, 42, [1, 174, 1, 1818, 1819, 151]), (42, .iconst 1, 43, []), (43, .isub, 44, []), (44, .goto 4, 47, [48]), (47, .iconst 0, 48, []), (48, .iadd, 49, []), (49, .istore_n 2, 50, []), (50, .iinc 3 1, 53, []), (53, .goto (-35), 56, [18]), (56, .iload_n 2, 57, []), (57, .iconst 2, 58, []), (58, .idiv, 59, []), (59, .ireturn, 60, [])]
/-- WhoKnowsModel.reach(I)I -/
def mm_c264 : List mm_I := [(0, .aload_n 0, 1, []), (1, .aload_n 0, 2, []), (2, .iload_n 1, 3, []), (3, .invokevirtual 390, 6, [0, 182, 2, 14, 2266, 2268, 111, 151]), (6, .invokevirtual 119, 9, [0, 176, 2, 14, 1918, 1920, 45, 151]), (9, .ifCond .eq 11, 12, [20]), (12, .aload_n 0, 13, []), (13, .iload_n 1, 14, []), (14, .invokevirtual 88, 17, [0, 192, 2, 14, 2121, 2123, 85, 151]), (17, .goto 4, 20, [21]), (20, .iconst 0, 21, []), (21, .ireturn, 22, [])]
/-- WhoKnowsModel.steps(II)I -/
def mm_c265 : List mm_I := [(0, .aload_n 0, 1, []), (1, .aload_n 0, 2, []), (2, .iload_n 1, 3, []), (3, .invokevirtual 390, 6, [0, 182, 2, 14, 2266, 2268, 111, 151]), (6, .ifCond .eq 15, 9, [21]), (9, .aload_n 0, 10, []), (10, .iload_n 2, 11, []), (11, .invokevirtual 390, 14, [0, 182, 2, 14, 2266, 2268, 111, 151]), (14, .ifCond .eq 7, 17, [21]), (17, .iconst 1, 18, []), (18, .goto 4, 21, [22]), (21, .iconst 0, 22, []), (22, .invokevirtual 119, 25, [0, 176, 2, 14, 1918, 1920, 45, 151]), (25, .ifCond .ne 5, 28, [30]), (28, .iconst 0, 29, []), (29, .ireturn, 30, []), (30, .aload_n 0, 31, []), (31, .getfield 7, 34, [0, 14, 0, 1828]), (34, .iconst 2, 35, []), (35, .iaload, 36, []), (36, .iconst 1, 37, []), (37, .iload_n 1, 38, []), (38, .ishl, 39, []), (39, .iand, 40, []), (40, .istore_n 3, 41, []), (41, .iconst 0, 42, []), (42, .istore 4, 44, []), (44, .iconst 0, 45, []), (45, .istore 5, 47, []), (47, .iload_n 3, 48, []), (48, .iload 4, 50, []), (50, .if_icmp .eq 29, 53, [79]), (53, .iload_n 3, 54, []), (54, .iload_n 2, 55, []), (55, .invokestatic 51, 58, [1, 173, 2, 2094, 2095, 151]), (58, .ifCond .eq 6, 61, [64]), (61, .iload 5, 63, []), (63, .ireturn, 64, []), (64, .iload_n 3, 65, []), (65, .istore 4, 67, []), (67, .aload_n 0, 68, []), (68, .iload_n 3, 69, []), (69, .invokevirtual 85, 72, [0, 191, 2, 14, 2125, 2127, 86, 151]), (72, .istore_n 3, 73, []), (73, .iinc 5 1, 76, []), (76, .goto (-29), 79, [47]), (79, .iconst (-1), 80, []), (80, .ireturn, 81, [])]
/-- WhoKnowsModel.holds(I)Z -/
def mm_c266 : List mm_I := [(0, .aload_n 0, 1, []), (1, .aload_n 0, 2, []), (2, .iload_n 1, 3, []), (3, .invokevirtual 390, 6, [0, 182, 2, 14, 2266, 2268, 111, 151]), (6, .invokevirtual 119, 9, [0, 176, 2, 14, 1918, 1920, 45, 151]), (9, .ifCond .eq 18, 12, [27]), (12, .aload_n 0, 13, []), (13, .invokevirtual 396, 16, [0, 196, 1, 14, 2294, 2296, 113, 151]), (16, .iload_n 1, 17, []), (17, .invokestatic 51, 20, [1, 173, 2, 2094, 2095, 151]), (20, .ifCond .eq 7, 23, [27]), (23, .iconst 1, 24, []), (24, .goto 4, 27, [28]), (27, .iconst 0, 28, []), (28, .ireturn, 29, [])]
/-- WhoKnowsModel.truth()I -/
def mm_c267 : List mm_I := [(0, .aload_n 0, 1, []), (1, .iconst 0, 2, []), (2, .putfield 48, 5, [0, 14, 6, 1834]), (5, .aload_n 0, 6, []), (6, .invokevirtual 396, 9, [0, 196, 1, 14, 2294, 2296, 113, 151]), (9, .ireturn, 10, [])]
/-- WhoKnowsModel.who()I -/
def mm_c268 : List mm_I := [(0, .aload_n 0, 1, []), (1, .iconst 0, 2, []), (2, .putfield 48, 5, [0, 14, 6, 1834]), (5, .aload_n 0, 6, []), (6, .invokevirtual 396, 9, [0, 196, 1, 14, 2294, 2296, 113, 151]), (9, .istore_n 1, 10, []), (10, .iconst 0, 11, []), (11, .istore_n 2, 12, []), (12, .iconst 0, 13, []), (13, .istore_n 3, 14, []), (14, .iload_n 3, 15, []), (15, .aload_n 0, 16, []), (16, .invokevirtual 63, 19, [0, 179, 1, 14, 1821, 1823, 44, 151]), (19, .if_icmp .ge 40, 22, [59]), (22, .iload_n 2, 23, []), (23, .aload_n 0, 24, []), (24, .iload_n 3, 25, []), (25, .aload_n 0, 26, []), (26, .getfield 7, 29, [0, 14, 0, 1828]), (29, .iconst 4, 30, []), (30, .iaload, 31, []), (31, .invokevirtual 78, 34, [0, 186, 3, 14, 2105, 2107, 81, 151]), (34, .iload_n 1, 35, []), (35, .iconst (-1), 36, []), (36, .ixor, 37, []), (37, .iand, 38, []), (38, .ifCond .ne 7, 41, [45]), (41, .iconst 1, 42, []), (42, .goto 4, 45, [46]), (45, .iconst 0, 46, []), (46, .invokestatic 66, 49, [1, 172, 1, 1825, 1826, 151]), (49, .iload_n 3, 50, []), (50, .ishl, 51, []), (51, .ior, 52, []), (52, .istore_n 2, 53, []), (53, .iinc 3 1, 56, []), (56, .goto (-42), 59, [14]), (59, .iload_n 2, 60, []), (60, .ireturn, 61, [])]
/-- WhoKnowsModel.whether()I -/
def mm_c269 : List mm_I := [(0, .aload_n 0, 1, []), (1, .iconst 0, 2, []), (2, .putfield 48, 5, [0, 14, 6, 1834]), (5, .aload_n 0, 6, []), (6, .aload_n 0, 7, []), (7, .getfield 7, 10, [0, 14, 0, 1828]), (10, .iconst 4, 11, []), (11, .iaload, 12, []), (12, .aload_n 0, 13, []), (13, .invokevirtual 396, 16, [0, 196, 1, 14, 2294, 2296, 113, 151]), (16, .invokevirtual 328, 19, [0, 246, 3, 14, 2224, 2226, 107, 151]), (19, .ireturn, 20, [])]
/-- WhoKnowsModel.isCommon()Z -/
def mm_c270 : List mm_I := [(0, .aload_n 0, 1, []), (1, .iconst 0, 2, []), (2, .putfield 48, 5, [0, 14, 6, 1834]), (5, .aload_n 0, 6, []), (6, .aload_n 0, 7, []), (7, .getfield 7, 10, [0, 14, 0, 1828]), (10, .iconst 4, 11, []), (11, .iaload, 12, []), (12, .invokevirtual 88, 15, [0, 192, 2, 14, 2121, 2123, 85, 151]), (15, .aload_n 0, 16, []), (16, .invokevirtual 396, 19, [0, 196, 1, 14, 2294, 2296, 113, 151]), (19, .iconst (-1), 20, []), (20, .ixor, 21, []), (21, .iand, 22, []), (22, .ifCond .ne 7, 25, [29]), (25, .iconst 1, 26, []), (26, .goto 4, 29, [30]), (29, .iconst 0, 30, []), (30, .ireturn, 31, [])]
/-- WhoKnowsModel.level()I -/
def mm_c271 : List mm_I := [(0, .aload_n 0, 1, []), (1, .iconst 0, 2, []), (2, .putfield 48, 5, [0, 14, 6, 1834]), (5, .aload_n 0, 6, []), (6, .invokevirtual 396, 9, [0, 196, 1, 14, 2294, 2296, 113, 151]), (9, .istore_n 1, 10, []), (10, .iload_n 1, 11, []), (11, .aload_n 0, 12, []), (12, .getfield 7, 15, [0, 14, 0, 1828]), (15, .iconst 4, 16, []), (16, .iaload, 17, []), (17, .invokestatic 51, 20, [1, 173, 2, 2094, 2095, 151]), (20, .ifCond .ne 5, 23, [25]), (23, .iconst (-1), 24, []), (24, .ireturn, 25, []), (25, .iconst 0, 26, []), (26, .istore_n 2, 27, []), (27, .aload_n 0, 28, []), (28, .iload_n 1, 29, []), (29, .invokevirtual 97, 32, [0, 190, 2, 14, 2113, 2115, 83, 151]), (32, .istore_n 3, 33, []), (33, .iload_n 3, 34, []), (34, .iload_n 1, 35, []), (35, .if_icmp .eq 32, 38, [67]), (38, .iload_n 3, 39, []), (39, .aload_n 0, 40, []), (40, .getfield 7, 43, [0, 14, 0, 1828]), (43, .iconst 4, 44, []), (44, .iaload, 45, []), (45, .invokestatic 51, 48, [1, 173, 2, 2094, 2095, 151]), (48, .ifCond .ne 5, 51, [53]), (51, .iload_n 2, 52, []), (52, .ireturn, 53, []), (53, .iinc 2 1, 56, []), (56, .iload_n 3, 57, []), (57, .istore_n 1, 58, []), (58, .aload_n 0, 59, []), (59, .iload_n 1, 60, []), (60, .invokevirtual 97, 63, [0, 190, 2, 14, 2113, 2115, 83, 151]), (63, .istore_n 3, 64, []), (64, .goto (-31), 67, [33]), (67, .bipush 99, 69, []), (69, .ireturn, 70, [])]
/-- WhoKnowsModel.unlike()I -/
def mm_c272 : List mm_I := [(0, .aload_n 0, 1, []), (1, .iconst 0, 2, []), (2, .putfield 48, 5, [0, 14, 6, 1834]), (5, .aload_n 0, 6, []), (6, .invokevirtual 396, 9, [0, 196, 1, 14, 2294, 2296, 113, 151]), (9, .istore_n 1, 10, []), (10, .iload_n 1, 11, []), (11, .istore_n 2, 12, []), (12, .aload_n 0, 13, []), (13, .iload_n 2, 14, []), (14, .invokevirtual 97, 17, [0, 190, 2, 14, 2113, 2115, 83, 151]), (17, .istore_n 3, 18, []), (18, .iload_n 3, 19, []), (19, .iload_n 2, 20, []), (20, .if_icmp .eq 14, 23, [34]), (23, .iload_n 3, 24, []), (24, .istore_n 2, 25, []), (25, .aload_n 0, 26, []), (26, .iload_n 2, 27, []), (27, .invokevirtual 97, 30, [0, 190, 2, 14, 2113, 2115, 83, 151]), (30, .istore_n 3, 31, []), (31, .goto (-13), 34, [18]), (34, .iload_n 2, 35, []), (35, .aload_n 0, 36, []), (36, .iload_n 1, 37, []), (37, .invokevirtual 100, 40, [0, 193, 2, 14, 2117, 2119, 84, 151]), (40, .ixor, 41, []), (41, .invokestatic 74, 44, [1, 174, 1, 1818, 1819, 151]), (44, .ireturn, 45, [])]
/-- WhoKnowsModel.knowsFact(II)I -/
def mm_c273 : List mm_I := [(0, .aload_n 0, 1, []), (1, .aload_n 0, 2, []), (2, .iload_n 1, 3, []), (3, .invokevirtual 384, 6, [0, 181, 2, 14, 2246, 2248, 109, 151]), (6, .ifCond .eq 15, 9, [21]), (9, .aload_n 0, 10, []), (10, .iload_n 2, 11, []), (11, .invokevirtual 387, 14, [0, 180, 2, 14, 2250, 2252, 110, 151]), (14, .ifCond .eq 7, 17, [21]), (17, .iconst 1, 18, []), (18, .goto 4, 21, [22]), (21, .iconst 0, 22, []), (22, .invokevirtual 119, 25, [0, 176, 2, 14, 1918, 1920, 45, 151]), (25, .ifCond .ne 5, 28, [30]), (28, .iconst 0, 29, []), (29, .ireturn, 30, []), (30, .aload_n 0, 31, []), (31, .iload_n 1, 32, []), (32, .aload_n 0, 33, []), (33, .getfield 7, 36, [0, 14, 0, 1828]), (36, .iconst 4, 37, []), (37, .iaload, 38, []), (38, .invokevirtual 78, 41, [0, 186, 3, 14, 2105, 2107, 81, 151]), (41, .istore_n 3, 42, []), (42, .iload_n 2, 43, []), (43, .invokestatic 91, 46, [1, 184, 1, 2091, 2092, 151]), (46, .istore 4, 48, []), (48, .iload_n 3, 49, []), (49, .iload 4, 51, []), (51, .iconst (-1), 52, []), (52, .ixor, 53, []), (53, .iand, 54, []), (54, .ifCond .ne 7, 57, [61]), (57, .iconst 1, 58, []), (58, .goto 15, 61, [73]), (61, .iload_n 3, 62, []), (62, .iload 4, 64, []), (64, .iand, 65, []), (65, .ifCond .ne 7, 68, [72]), (68, .iconst 0, 69, []), (69, .goto 4, 72, [73]), (72, .iconst (-1), 73, []), (73, .ireturn, 74, [])]
/-- WhoKnowsModel.knowersNow()I -/
def mm_c274 : List mm_I := [(0, .iconst 0, 1, []), (1, .istore_n 1, 2, []), (2, .iconst 0, 3, []), (3, .istore_n 2, 4, []), (4, .iload_n 2, 5, []), (5, .aload_n 0, 6, []), (6, .invokevirtual 63, 9, [0, 179, 1, 14, 1821, 1823, 44, 151]), (9, .if_icmp .ge 44, 12, [53]), (12, .iload_n 1, 13, []), (13, .aload_n 0, 14, []), (14, .iload_n 2, 15, []), (15, .aload_n 0, 16, []), (16, .getfield 7, 19, [0, 14, 0, 1828]), (19, .iconst 4, 20, []), (20, .iaload, 21, []), (21, .invokevirtual 78, 24, [0, 186, 3, 14, 2105, 2107, 81, 151]), (24, .iconst 1, 25, []), (25, .aload_n 0, 26, []), (26, .getfield 7, 29, [0, 14, 0, 1828]), (29, .iconst 4, 30, []), (30, .iaload, 31, []), (31, .ishl, 32, []), (32, .if_icmp .ne 7, 35, [39]), (35, .iconst 1, 36, []), (36, .goto 4, 39, [40]), (39, .iconst 0, 40, []), (40, .invokestatic 66, 43, [1, 172, 1, 1825, 1826, 151]), (43, .iload_n 2, 44, []), (44, .ishl, 45, []), (45, .ior, 46, []), (46, .istore_n 1, 47, []), (47, .iinc 2 1, 50, []), (50, .goto (-46), 53, [4]), (53, .iload_n 1, 54, []), (54, .ireturn, 55, [])]
/-- WhoKnowsModel.knowers()I -/
def mm_c275 : List mm_I := [(0, .aload_n 0, 1, []), (1, .iconst 0, 2, []), (2, .putfield 48, 5, [0, 14, 6, 1834]), (5, .aload_n 0, 6, []), (6, .invokevirtual 399, 9, [0, 274, 1, 14, 2330, 2332, 114, 151]), (9, .ireturn, 10, [])]
/-- WhoKnowsModel.tries()V -/
def mm_c276 : List mm_I := [(0, .aload_n 0, 1, []), (1, .getfield 7, 4, [0, 14, 0, 1828]), (4, .iconst 0, 5, []), (5, .aload_n 0, 6, []), (6, .getfield 19, 9, [0, 14, 3, 1831]), (9, .iconst 0, 10, []), (10, .invokestatic 286, 13, [1, 177, 4, 1945, 1946, 151]), (13, .return_, 14, [])]
/-- WhoKnowsModel.back(I)I -/
def mm_c277 : List mm_I := [(0, .aload_n 0, 1, []), (1, .getfield 19, 4, [0, 14, 3, 1831]), (4, .iconst 0, 5, []), (5, .aload_n 0, 6, []), (6, .getfield 7, 9, [0, 14, 0, 1828]), (9, .iconst 0, 10, []), (10, .invokestatic 286, 13, [1, 177, 4, 1945, 1946, 151]), (13, .iload_n 1, 14, []), (14, .ireturn, 15, [])]
/-- WhoKnowsModel.wouldLeave()I -/
def mm_c278 : List mm_I := [(0, .aload_n 0, 1, []), (1, .iconst 0, 2, []), (2, .putfield 48, 5, [0, 14, 6, 1834]), (5, .aload_n 0, 6, []), (6, .invokevirtual 402, 9, [0, 276, 1, 14, 2338, 2340, 115, 151]), (9, .aload_n 0, 10, []), (10, .aload_n 0, 11, []), (11, .aload_n 0, 12, []), (12, .getfield 7, 15, [0, 14, 0, 1828]), (15, .sipush 320, 18, []), (18, .invokevirtual 353, 21, [0, 240, 3, 14, 2183, 2185, 97, 151]), (21, .invokevirtual 405, 24, [0, 277, 2, 14, 2342, 2344, 116, 151]), (24, .ireturn, 25, [])]
/-- WhoKnowsModel.wouldSay(I)I -/
def mm_c279 : List mm_I := [(0, .aload_n 0, 1, []), (1, .aload_n 0, 2, []), (2, .iload_n 1, 3, []), (3, .invokevirtual 384, 6, [0, 181, 2, 14, 2246, 2248, 109, 151]), (6, .invokevirtual 119, 9, [0, 176, 2, 14, 1918, 1920, 45, 151]), (9, .ifCond .ne 5, 12, [14]), (12, .iconst 0, 13, []), (13, .ireturn, 14, []), (14, .aload_n 0, 15, []), (15, .invokevirtual 402, 18, [0, 276, 1, 14, 2338, 2340, 115, 151]), (18, .aload_n 0, 19, []), (19, .aload_n 0, 20, []), (20, .iload_n 1, 21, []), (21, .aload_n 0, 22, []), (22, .getfield 7, 25, [0, 14, 0, 1828]), (25, .sipush 320, 28, []), (28, .invokevirtual 356, 31, [0, 241, 4, 14, 2200, 2202, 101, 151]), (31, .invokevirtual 405, 34, [0, 277, 2, 14, 2342, 2344, 116, 151]), (34, .ireturn, 35, [])]
/-- WhoKnowsModel.arePersons(I)Z -/
def mm_c280 : List mm_I := [(0, .iload_n 1, 1, []), (1, .aload_n 0, 2, []), (2, .invokevirtual 408, 5, [0, 183, 1, 14, 2358, 2360, 118, 151]), (5, .iconst (-1), 6, []), (6, .ixor, 7, []), (7, .iand, 8, []), (8, .ifCond .ne 7, 11, [15]), (11, .iconst 1, 12, []), (12, .goto 4, 15, [16]), (15, .iconst 0, 16, []), (16, .ireturn, 17, [])]
/-- WhoKnowsModel.wouldKnow(I)I -/
def mm_c281 : List mm_I := [(0, .aload_n 0, 1, []), (1, .aload_n 0, 2, []), (2, .iload_n 1, 3, []), (3, .invokevirtual 411, 6, [0, 280, 2, 14, 2354, 2356, 117, 151]), (6, .invokevirtual 119, 9, [0, 176, 2, 14, 1918, 1920, 45, 151]), (9, .ifCond .ne 5, 12, [14]), (12, .iconst 0, 13, []), (13, .ireturn, 14, []), (14, .aload_n 0, 15, []), (15, .invokevirtual 402, 18, [0, 276, 1, 14, 2338, 2340, 115, 151]), (18, .aload_n 0, 19, []), (19, .iload_n 1, 20, []), (20, .aload_n 0, 21, []), (21, .getfield 7, 24, [0, 14, 0, 1828]), (24, .sipush 320, 27, []), (27, .invokevirtual 360, 30, [0, 244, 4, 14, 2204, 2206, 102, 151]), (30, .istore_n 2, 31, []), (31, .aload_n 0, 32, []), (32, .aload_n 0, 33, []), (33, .invokevirtual 399, 36, [0, 274, 1, 14, 2330, 2332, 114, 151]), (36, .invokevirtual 405, 39, [0, 277, 2, 14, 2342, 2344, 116, 151]), (39, .ireturn, 40, [])]
/-- WhoKnowsModel.roundsNow(I)I -/
def mm_c282 : List mm_I := [(0, .iconst 0, 1, []), (1, .istore_n 2, 2, []), (2, .aload_n 0, 3, []), (3, .aload_n 0, 4, []), (4, .getfield 7, 7, [0, 14, 0, 1828]), (7, .iconst 4, 8, []), (8, .iaload, 9, []), (9, .iload_n 1, 10, []), (10, .invokestatic 91, 13, [1, 184, 1, 2091, 2092, 151]), (13, .invokevirtual 328, 16, [0, 246, 3, 14, 2224, 2226, 107, 151]), (16, .aload_n 0, 17, []), (17, .invokevirtual 408, 20, [0, 183, 1, 14, 2358, 2360, 118, 151]), (20, .if_icmp .eq 35, 23, [55]), (23, .aload_n 0, 24, []), (24, .getfield 7, 27, [0, 14, 0, 1828]), (27, .iconst 2, 28, []), (28, .iaload, 29, []), (29, .istore_n 3, 30, []), (30, .aload_n 0, 31, []), (31, .iload_n 1, 32, []), (32, .invokevirtual 366, 35, [0, 247, 2, 14, 2220, 2222, 106, 151]), (35, .istore 4, 37, []), (37, .aload_n 0, 38, []), (38, .getfield 7, 41, [0, 14, 0, 1828]), (41, .iconst 2, 42, []), (42, .iaload, 43, []), (43, .iload_n 3, 44, []), (44, .if_icmp .ne 5, 47, [49]), (47, .iconst (-1), 48, []), (48, .ireturn, 49, []), (49, .iinc 2 1, 52, []), (52, .goto (-50), 55, [2]), (55, .iload_n 2, 56, []), (56, .ireturn, 57, [])]
/-- WhoKnowsModel.roundsTo(I)I -/
def mm_c283 : List mm_I := [(0, .aload_n 0, 1, []), (1, .aload_n 0, 2, []), (2, .iload_n 1, 3, []), (3, .invokevirtual 387, 6, [0, 180, 2, 14, 2250, 2252, 110, 151]), (6, .invokevirtual 119, 9, [0, 176, 2, 14, 1918, 1920, 45, 151]), (9, .ifCond .ne 5, 12, [14]), (12, .iconst 0, 13, []), (13, .ireturn, 14, []), (14, .aload_n 0, 15, []), (15, .invokevirtual 402, 18, [0, 276, 1, 14, 2338, 2340, 115, 151]), (18, .aload_n 0, 19, []), (19, .aload_n 0, 20, []), (20, .iload_n 1, 21, []), (21, .invokevirtual 414, 24, [0, 282, 2, 14, 2366, 2368, 119, 151]), (24, .invokevirtual 405, 27, [0, 277, 2, 14, 2342, 2344, 116, 151]), (27, .ireturn, 28, [])]
/-- WhoKnowsModel.bestFact()I -/
def mm_c284 : List mm_I := [(0, .aload_n 0, 1, []), (1, .iconst 0, 2, []), (2, .putfield 48, 5, [0, 14, 6, 1834]), (5, .iconst 0, 6, []), (6, .istore_n 1, 7, []), (7, .bipush 33, 9, []), (9, .istore_n 2, 10, []), (10, .iconst 0, 11, []), (11, .istore_n 3, 12, []), (12, .iload_n 3, 13, []), (13, .aload_n 0, 14, []), (14, .invokevirtual 55, 17, [0, 178, 1, 14, 2002, 2004, 57, 151]), (17, .if_icmp .ge 65, 20, [82]), (20, .aload_n 0, 21, []), (21, .getfield 7, 24, [0, 14, 0, 1828]), (24, .iconst 4, 25, []), (25, .iaload, 26, []), (26, .iload_n 3, 27, []), (27, .invokestatic 51, 30, [1, 173, 2, 2094, 2095, 151]), (30, .ifCond .eq 10, 33, [40]), (33, .iload_n 3, 34, []), (34, .invokestatic 91, 37, [1, 184, 1, 2091, 2092, 151]), (37, .goto 9, 40, [46]), (40, .iload_n 3, 41, []), (41, .invokestatic 91, 44, [1, 184, 1, 2091, 2092, 151]), (44, .iconst (-1), 45, []), (45, .ixor, 46, []), (46, .istore 4, 48, []), (48, .aload_n 0, 49, []), (49, .getfield 7, 52, [0, 14, 0, 1828]), (52, .iconst 2, 53, []), (53, .iaload, 54, []), (54, .iload 4, 56, []), (56, .iand, 57, []), (57, .invokestatic 74, 60, [1, 174, 1, 1818, 1819, 151]), (60, .istore 5, 62, []), (62, .iload 5, 64, []), (64, .iload_n 2, 65, []), (65, .if_icmp .lt 6, 68, [71]), (68, .goto 8, 71, [76]), (71, .iload_n 3, 72, []), (72, .istore_n 1, 73, []), (73, .iload 5, 75, []), (75, .istore_n 2, 76, []), (76, .iinc 3 1, 79, []), (79, .goto (-67), 82, [12]), (82, .iload_n 1, 83, []), (83, .ireturn, 84, [])]
/-- WhoKnowsModel.agreeing(I)I -/
def mm_c285 : List mm_I := [(0, .iconst 0, 1, []), (1, .istore_n 2, 2, []), (2, .iconst 0, 3, []), (3, .istore_n 3, 4, []), (4, .iload_n 3, 5, []), (5, .bipush 32, 7, []), (7, .if_icmp .ge 35, 10, [42]), (10, .iload_n 2, 11, []), (11, .iload_n 3, 12, []), (12, .aload_n 0, 13, []), (13, .getfield 7, 16, [0, 14, 0, 1828]), (16, .iconst 4, 17, []), (17, .iaload, 18, []), (18, .ixor, 19, []), (19, .iload_n 1, 20, []), (20, .iand, 21, []), (21, .ifCond .ne 7, 24, [28]), (24, .iconst 1, 25, []), (25, .goto 4, 28, [29]), (28, .iconst 0, 29, []), (29, .invokestatic 66, 32, [1, 172, 1, 1825, 1826, 151]), (32, .iload_n 3, 33, []), (33, .ishl, 34, []), (34, .ior, 35, []), (35, .istore_n 2, 36, []), (36, .iinc 3 1, 39, []), (39, .goto (-35), 42, [4]), (42, .iload_n 2, 43, []), (43, .ireturn, 44, [])]
/-- WhoKnowsModel.leastShown(I)I -/
def mm_c286 : List mm_I := [(0, .aload_n 0, 1, []), (1, .aload_n 0, 2, []), (2, .iload_n 1, 3, []), (3, .invokevirtual 384, 6, [0, 181, 2, 14, 2246, 2248, 109, 151]), (6, .invokevirtual 119, 9, [0, 176, 2, 14, 1918, 1920, 45, 151]), (9, .ifCond .ne 5, 12, [14]), (12, .iconst 0, 13, []), (13, .ireturn, 14, []), (14, .iconst 1, 15, []), (15, .aload_n 0, 16, []), (16, .invokevirtual 55, 19, [0, 178, 1, 14, 2002, 2004, 57, 151]), (19, .ishl, 20, []), (20, .iconst 1, 21, []), (21, .isub, 22, []), (22, .istore_n 2, 23, []), (23, .iload_n 2, 24, []), (24, .iconst 1, 25, []), (25, .isub, 26, []), (26, .istore_n 3, 27, []), (27, .iload_n 3, 28, []), (28, .ifCond .lt 62, 31, [90]), (31, .aload_n 0, 32, []), (32, .iload_n 1, 33, []), (33, .aload_n 0, 34, []), (34, .getfield 7, 37, [0, 14, 0, 1828]), (37, .iconst 4, 38, []), (38, .iaload, 39, []), (39, .invokevirtual 78, 42, [0, 186, 3, 14, 2105, 2107, 81, 151]), (42, .aload_n 0, 43, []), (43, .iload_n 3, 44, []), (44, .invokevirtual 417, 47, [0, 285, 2, 14, 2378, 2380, 120, 151]), (47, .iand, 48, []), (48, .iconst 1, 49, []), (49, .aload_n 0, 50, []), (50, .getfield 7, 53, [0, 14, 0, 1828]), (53, .iconst 4, 54, []), (54, .iaload, 55, []), (55, .ishl, 56, []), (56, .if_icmp .ne 7, 59, [63]), (59, .iconst 1, 60, []), (60, .goto 4, 63, [64]), (63, .iconst 0, 64, []), (64, .istore 4, 66, []), (66, .iload 4, 68, []), (68, .ifCond .eq 16, 71, [84]), (71, .iload_n 3, 72, []), (72, .invokestatic 74, 75, [1, 174, 1, 1818, 1819, 151]), (75, .iload_n 2, 76, []), (76, .invokestatic 74, 79, [1, 174, 1, 1818, 1819, 151]), (79, .if_icmp .gt 5, 82, [84]), (82, .iload_n 3, 83, []), (83, .istore_n 2, 84, []), (84, .iinc 3 (-1), 87, []), (87, .goto (-60), 90, [27]), (90, .iload_n 2, 91, []), (91, .ireturn, 92, [])]
/-- WhoKnowsModel.log(II)I -/
def mm_c287 : List mm_I := [(0, .aload_n 0, 1, []), (1, .iload_n 2, 2, []), (2, .i2l, 3, []), (3, .lconst 0, 4, []), (4, .ldc2_w 420, 7, [2, 2386]), (7, .invokestatic 59, 10, [1, 171, 3, 1930, 1931, 151]), (10, .invokevirtual 119, 13, [0, 176, 2, 14, 1918, 1920, 45, 151]), (13, .ifCond .ne 5, 16, [18]), (16, .iconst 0, 17, []), (17, .ireturn, 18, []), (18, .iload_n 1, 19, []), (19, .i2l, 20, []), (20, .lconst 0, 21, []), (21, .aload_n 0, 22, []), (22, .getfield 7, 25, [0, 14, 0, 1828]), (25, .bipush 6, 27, []), (27, .iaload, 28, []), (28, .iconst 1, 29, []), (29, .isub, 30, []), (30, .i2l, 31, []), (31, .invokestatic 59, 34, [1, 171, 3, 1930, 1931, 151]), (34, .ifCond .eq 19, 37, [53]), (37, .aload_n 0, 38, []), (38, .getfield 7, 41, [0, 14, 0, 1828]), (41, .bipush 16, 43, []), (43, .iconst 3, 44, []), (44, .iload_n 1, 45, []), (45, .imul, 46, []), (46, .iadd, 47, []), (47, .iload_n 2, 48, []), (48, .iadd, 49, []), (49, .iaload, 50, []), (50, .goto 4, 53, [54]), (53, .iconst (-1), 54, []), (54, .ireturn, 55, [])]
/-- WhoKnowsModel.account(I)I -/
def mm_c288 : List mm_I := [(0, .aload_n 0, 1, []), (1, .iload_n 1, 2, []), (2, .i2l, 3, []), (3, .lconst 0, 4, []), (4, .ldc2_w 186, 7, [6, 1989]), (7, .invokestatic 59, 10, [1, 171, 3, 1930, 1931, 151]), (10, .invokevirtual 119, 13, [0, 176, 2, 14, 1918, 1920, 45, 151]), (13, .ifCond .eq 15, 16, [28]), (16, .aload_n 0, 17, []), (17, .getfield 7, 20, [0, 14, 0, 1828]), (20, .bipush 8, 22, []), (22, .iload_n 1, 23, []), (23, .iadd, 24, []), (24, .iaload, 25, []), (25, .goto 4, 28, [29]), (28, .iconst 0, 29, []), (29, .ireturn, 30, [])]
/-- WhoKnowsModel.gap()I -/
def mm_c289 : List mm_I := [(0, .aload_n 0, 1, []), (1, .iconst 0, 2, []), (2, .putfield 48, 5, [0, 14, 6, 1834]), (5, .aload_n 0, 6, []), (6, .getfield 7, 9, [0, 14, 0, 1828]), (9, .iconst 3, 10, []), (10, .iaload, 11, []), (11, .aload_n 0, 12, []), (12, .getfield 7, 15, [0, 14, 0, 1828]), (15, .iconst 2, 16, []), (16, .iaload, 17, []), (17, .invokestatic 74, 20, [1, 174, 1, 1818, 1819, 151]), (20, .isub, 21, []), (21, .aload_n 0, 22, []), (22, .getfield 7, 25, [0, 14, 0, 1828]), (25, .bipush 13, 27, []), (27, .iaload, 28, []), (28, .isub, 29, []), (29, .ireturn, 30, [])]
/-- WhoKnowsModel.share()F -/
def mm_c290 : List mm_I := [(0, .aload_n 0, 1, []), (1, .iconst 0, 2, []), (2, .putfield 48, 5, [0, 14, 6, 1834]), (5, .aload_n 0, 6, []), (6, .getfield 7, 9, [0, 14, 0, 1828]), (9, .iconst 2, 10, []), (10, .iaload, 11, []), (11, .invokestatic 74, 14, [1, 174, 1, 1818, 1819, 151]), (14, .i2f, 15, []), (15, .aload_n 0, 16, []), (16, .getfield 7, 19, [0, 14, 0, 1828]), (19, .iconst 3, 20, []), (20, .iaload, 21, []), (21, .i2f, 22, []), (22, .fdiv, 23, []), (23, .freturn, 24, [])]
/-- WhoKnowsModel.meanAlike()D -/
def mm_c291 : List mm_I := [(0, .aload_n 0, 1, []), (1, .iconst 0, 2, []), (2, .putfield 48, 5, [0, 14, 6, 1834]), (5, .iconst 0, 6, []), (6, .istore_n 1, 7, []), (7, .iconst 0, 8, []), (8, .istore_n 2, 9, []), (9, .iload_n 2, 10, []), (10, .aload_n 0, 11, []), (11, .invokevirtual 63, 14, [0, 179, 1, 14, 1821, 1823, 44, 151]), (14, .if_icmp .ge 35, 17, [49]), (17, .iconst 0, 18, []), (18, .istore_n 3, 19, []), (19, .iload_n 3, 20, []), (20, .bipush 32, 22, []), (22, .if_icmp .ge 21, 25, [43]), (25, .iload_n 1, 26, []), (26, .aload_n 0, 27, []), (27, .iload_n 2, 28, []), (28, .iload_n 3, 29, []), (29, .invokevirtual 78, 32, [0, 186, 3, 14, 2105, 2107, 81, 151]), (32, .invokestatic 74, 35, [1, 174, 1, 1818, 1819, 151]), (35, .iadd, 36, []), (36, .istore_n 1, 37, []), (37, .iinc 3 1, 40, []), (40, .goto (-21), 43, [19]), (43, .iinc 2 1, 46, []), (46, .goto (-37), 49, [9]), (49, .iload_n 1, 50, []), (50, .i2d, 51, []), (51, .aload_n 0, 52, []), (52, .getfield 7, 55, [0, 14, 0, 1828]), (55, .iconst 2, 56, []), (56, .iaload, 57, []), (57, .invokestatic 74, 60, [1, 174, 1, 1818, 1819, 151]), (60, .aload_n 0, 61, []), (61, .invokevirtual 63, 64, [0, 179, 1, 14, 1821, 1823, 44, 151]), (64, .imul, 65, []), (65, .i2d, 66, []), (66, .ddiv, 67, []), (67, .dreturn, 68, [])]
/-- WhoKnowsModel.tried(Z)Z -/
def mm_c292 : List mm_I := [(0, .iload_n 1, 1, []), (1, .ifCond .eq 16, 4, [17]), (4, .aload_n 0, 5, []), (5, .getfield 7, 8, [0, 14, 0, 1828]), (8, .iconst 0, 9, []), (9, .aload_n 0, 10, []), (10, .getfield 16, 13, [0, 14, 2, 1830]), (13, .iconst 0, 14, []), (14, .invokestatic 286, 17, [1, 177, 4, 1945, 1946, 151]), (17, .iload_n 1, 18, []), (18, .ireturn, 19, [])]
/-- WhoKnowsModel.done(I)I -/
def mm_c293 : List mm_I := [(0, .iload_n 1, 1, []), (1, .ifCond .lt 11, 4, [12]), (4, .aload_n 0, 5, []), (5, .aload_n 0, 6, []), (6, .getfield 16, 9, [0, 14, 2, 1830]), (9, .invokevirtual 372, 12, [0, 253, 2, 14, 2175, 2177, 95, 151]), (12, .iload_n 1, 13, []), (13, .ireturn, 14, [])]
/-- WhoKnowsModel.announce()I -/
def mm_c294 : List mm_I := [(0, .aload_n 0, 1, []), (1, .aload_n 0, 2, []), (2, .iconst 1, 3, []), (3, .invokevirtual 119, 6, [0, 176, 2, 14, 1918, 1920, 45, 151]), (6, .invokevirtual 422, 9, [0, 292, 2, 14, 2407, 2409, 121, 151]), (9, .ifCond .eq 21, 12, [30]), (12, .aload_n 0, 13, []), (13, .aload_n 0, 14, []), (14, .aload_n 0, 15, []), (15, .getfield 7, 18, [0, 14, 0, 1828]), (18, .sipush 320, 21, []), (21, .invokevirtual 353, 24, [0, 240, 3, 14, 2183, 2185, 97, 151]), (24, .invokevirtual 425, 27, [0, 293, 2, 14, 2411, 2413, 122, 151]), (27, .goto 4, 30, [31]), (30, .iconst 0, 31, []), (31, .ireturn, 32, [])]
/-- WhoKnowsModel.say(I)I -/
def mm_c295 : List mm_I := [(0, .aload_n 0, 1, []), (1, .aload_n 0, 2, []), (2, .aload_n 0, 3, []), (3, .iload_n 1, 4, []), (4, .invokevirtual 384, 7, [0, 181, 2, 14, 2246, 2248, 109, 151]), (7, .invokevirtual 119, 10, [0, 176, 2, 14, 1918, 1920, 45, 151]), (10, .invokevirtual 422, 13, [0, 292, 2, 14, 2407, 2409, 121, 151]), (13, .ifCond .eq 22, 16, [35]), (16, .aload_n 0, 17, []), (17, .aload_n 0, 18, []), (18, .iload_n 1, 19, []), (19, .aload_n 0, 20, []), (20, .getfield 7, 23, [0, 14, 0, 1828]), (23, .sipush 320, 26, []), (26, .invokevirtual 356, 29, [0, 241, 4, 14, 2200, 2202, 101, 151]), (29, .invokevirtual 425, 32, [0, 293, 2, 14, 2411, 2413, 122, 151]), (32, .goto 4, 35, [36]), (35, .iconst 0, 36, []), (36, .ireturn, 37, [])]
/-- WhoKnowsModel.whisper(I)I -/
def mm_c296 : List mm_I := [(0, .aload_n 0, 1, []), (1, .aload_n 0, 2, []), (2, .iload_n 1, 3, []), (3, .ifCond .eq 15, 6, [18]), (6, .aload_n 0, 7, []), (7, .iload_n 1, 8, []), (8, .invokevirtual 411, 11, [0, 280, 2, 14, 2354, 2356, 117, 151]), (11, .ifCond .eq 7, 14, [18]), (14, .iconst 1, 15, []), (15, .goto 4, 18, [19]), (18, .iconst 0, 19, []), (19, .invokevirtual 119, 22, [0, 176, 2, 14, 1918, 1920, 45, 151]), (22, .invokevirtual 422, 25, [0, 292, 2, 14, 2407, 2409, 121, 151]), (25, .ifCond .eq 22, 28, [47]), (28, .aload_n 0, 29, []), (29, .aload_n 0, 30, []), (30, .iload_n 1, 31, []), (31, .aload_n 0, 32, []), (32, .getfield 7, 35, [0, 14, 0, 1828]), (35, .sipush 320, 38, []), (38, .invokevirtual 360, 41, [0, 244, 4, 14, 2204, 2206, 102, 151]), (41, .invokevirtual 425, 44, [0, 293, 2, 14, 2411, 2413, 122, 151]), (44, .goto 4, 47, [48]), (47, .iconst 0, 48, []), (48, .ireturn, 49, [])]
/-- WhoKnowsModel.show(II)I -/
def mm_c297 : List mm_I := [(0, .aload_n 0, 1, []), (1, .aload_n 0, 2, []), (2, .aload_n 0, 3, []), (3, .iload_n 1, 4, []), (4, .invokevirtual 384, 7, [0, 181, 2, 14, 2246, 2248, 109, 151]), (7, .ifCond .eq 15, 10, [22]), (10, .aload_n 0, 11, []), (11, .iload_n 2, 12, []), (12, .invokevirtual 387, 15, [0, 180, 2, 14, 2250, 2252, 110, 151]), (15, .ifCond .eq 7, 18, [22]), (18, .iconst 1, 19, []), (19, .goto 4, 22, [23]), (22, .iconst 0, 23, []), (23, .invokevirtual 119, 26, [0, 176, 2, 14, 1918, 1920, 45, 151]), (26, .invokevirtual 422, 29, [0, 292, 2, 14, 2407, 2409, 121, 151]), (29, .ifCond .eq 16, 32, [45]), (32, .aload_n 0, 33, []), (33, .aload_n 0, 34, []), (34, .iload_n 1, 35, []), (35, .iload_n 2, 36, []), (36, .invokevirtual 363, 39, [0, 245, 3, 14, 2216, 2218, 105, 151]), (39, .invokevirtual 425, 42, [0, 293, 2, 14, 2411, 2413, 122, 151]), (42, .goto 4, 45, [46]), (45, .iconst 0, 46, []), (46, .ireturn, 47, [])]
/-- WhoKnowsModel.round(I)I -/
def mm_c298 : List mm_I := [(0, .aload_n 0, 1, []), (1, .aload_n 0, 2, []), (2, .aload_n 0, 3, []), (3, .iload_n 1, 4, []), (4, .invokevirtual 387, 7, [0, 180, 2, 14, 2250, 2252, 110, 151]), (7, .invokevirtual 119, 10, [0, 176, 2, 14, 1918, 1920, 45, 151]), (10, .invokevirtual 422, 13, [0, 292, 2, 14, 2407, 2409, 121, 151]), (13, .ifCond .eq 15, 16, [28]), (16, .aload_n 0, 17, []), (17, .aload_n 0, 18, []), (18, .iload_n 1, 19, []), (19, .invokevirtual 366, 22, [0, 247, 2, 14, 2220, 2222, 106, 151]), (22, .invokevirtual 425, 25, [0, 293, 2, 14, 2411, 2413, 122, 151]), (25, .goto 4, 28, [29]), (28, .iconst 0, 29, []), (29, .ireturn, 30, [])]
/-- WhoKnowsModel.writes(I)V -/
def mm_c299 : List mm_I := [(0, .aload_n 0, 1, []), (1, .getfield 41, 4, [0, 14, 25, 1853]), (4, .aload_n 0, 5, []), (5, .getfield 428, 8, [0, 14, 26, 1854]), (8, .iload_n 1, 9, []), (9, .iastore, 10, []), (10, .aload_n 0, 11, []), (11, .dup, 12, []), (12, .getfield 428, 15, [0, 14, 26, 1854]), (15, .iconst 1, 16, []), (16, .iadd, 17, []), (17, .putfield 428, 20, [0, 14, 26, 1854]), (20, .return_, 21, [])]
/-- WhoKnowsModel.writesText(Ljava/lang/String;)V -/
def mm_c300 : List mm_I := [(0, .iconst 0, 1, []), (1, .istore_n 2, 2, []), (2, .iload_n 2, 3, []), (3, .aload_n 1, 4, []), (4, .invokevirtual 154, 7, [0, 362, 1, 0, 1975, 399, 400, 142]), (7, .if_icmp .ge 18, 10, [25]), (10, .aload_n 0, 11, []), (11, .aload_n 1, 12, []), (12, .iload_n 2, 13, []), (13, .invokevirtual 158, 16, [0, 363, 2, 0, 1976, 411, 412, 142]), (16, .invokevirtual 431, 19, [0, 299, 2, 14, 2440, 2442, 124, 151]), (19, .iinc 2 1, 22, []), (22, .goto (-20), 25, [2]), (25, .return_, 26, [])]
/-- WhoKnowsModel.writesName(I)V -/
def mm_c301 : List mm_I := [(0, .iconst 0, 1, []), (1, .istore_n 2, 2, []), (2, .iload_n 2, 3, []), (3, .aload_n 0, 4, []), (4, .getfield 7, 7, [0, 14, 0, 1828]), (7, .iload_n 1, 8, []), (8, .iaload, 9, []), (9, .if_icmp .ge 23, 12, [32]), (12, .aload_n 0, 13, []), (13, .aload_n 0, 14, []), (14, .getfield 7, 17, [0, 14, 0, 1828]), (17, .iload_n 1, 18, []), (18, .iconst 1, 19, []), (19, .iadd, 20, []), (20, .iload_n 2, 21, []), (21, .iadd, 22, []), (22, .iaload, 23, []), (23, .invokevirtual 431, 26, [0, 299, 2, 14, 2440, 2442, 124, 151]), (26, .iinc 2 1, 29, []), (29, .goto (-27), 32, [2]), (32, .return_, 33, [])]
/-- WhoKnowsModel.writesNumber(I)V -/
def mm_c302 : List mm_I := [(0, .iload_n 1, 1, []), (1, .bipush 9, 3, []), (3, .if_icmp .le 14, 6, [17]), (6, .aload_n 0, 7, []), (7, .bipush 48, 9, []), (9, .iload_n 1, 10, []), (10, .bipush 10, 12, []), (12, .idiv, 13, []), (13, .iadd, 14, []), (14, .invokevirtual 431, 17, [0, 299, 2, 14, 2440, 2442, 124, 151]), (17, .aload_n 0, 18, []), (18, .bipush 48, 20, []), (20, .iload_n 1, 21, []), (21, .bipush 10, 23, []), (23, .irem, 24, []), (24, .iadd, 25, []), (25, .invokevirtual 431, 28, [0, 299, 2, 14, 2440, 2442, 124, 151]), (28, .return_, 29, [])]
/-- WhoKnowsModel.writeWorld(I)I -/
def mm_c303 : List mm_I := [(0, .aload_n 0, 1, []), (1, .aload_n 0, 2, []), (2, .iload_n 1, 3, []), (3, .invokevirtual 390, 6, [0, 182, 2, 14, 2266, 2268, 111, 151]), (6, .invokevirtual 119, 9, [0, 176, 2, 14, 1918, 1920, 45, 151]), (9, .ifCond .ne 5, 12, [14]), (12, .iconst 0, 13, []), (13, .ireturn, 14, []), (14, .aload_n 0, 15, []), (15, .iconst 0, 16, []), (16, .putfield 428, 19, [0, 14, 26, 1854]), (19, .aload_n 0, 20, []), (20, .iload_n 1, 21, []), (21, .invokevirtual 70, 24, [0, 185, 2, 14, 2101, 2103, 80, 151]), (24, .ifCond .ne 10, 27, [34]), (27, .aload_n 0, 28, []), (28, .ldc_w 434, 31, [1, 46, 2435]), (31, .invokevirtual 436, 34, [0, 300, 2, 14, 2436, 2438, 123, 151]), (34, .iload_n 1, 35, []), (35, .aload_n 0, 36, []), (36, .getfield 7, 39, [0, 14, 0, 1828]), (39, .iconst 4, 40, []), (40, .iaload, 41, []), (41, .if_icmp .ne 9, 44, [50]), (44, .aload_n 0, 45, []), (45, .bipush 33, 47, []), (47, .invokevirtual 431, 50, [0, 299, 2, 14, 2440, 2442, 124, 151]), (50, .iconst 1, 51, []), (51, .istore_n 2, 52, []), (52, .iconst 0, 53, []), (53, .istore_n 3, 54, []), (54, .iload_n 3, 55, []), (55, .aload_n 0, 56, []), (56, .invokevirtual 55, 59, [0, 178, 1, 14, 2002, 2004, 57, 151]), (59, .if_icmp .ge 43, 62, [102]), (62, .iload_n 1, 63, []), (63, .iload_n 3, 64, []), (64, .invokestatic 51, 67, [1, 173, 2, 2094, 2095, 151]), (67, .ifCond .ne 6, 70, [73]), (70, .goto 26, 73, [96]), (73, .iload_n 2, 74, []), (74, .ifCond .ne 9, 77, [83]), (77, .aload_n 0, 78, []), (78, .bipush 43, 80, []), (80, .invokevirtual 431, 83, [0, 299, 2, 14, 2440, 2442, 124, 151]), (83, .aload_n 0, 84, []), (84, .bipush 80, 86, []), (86, .bipush 7, 88, []), (88, .iload_n 3, 89, []), (89, .imul, 90, []), (90, .iadd, 91, []), (91, .invokevirtual 440, 94, [0, 301, 2, 14, 2444, 2446, 125, 151]), (94, .iconst 0, 95, []), (95, .istore_n 2, 96, []), (96, .iinc 3 1, 99, []), (99, .goto (-45), 102, [54]), (102, .iload_n 2, 103, []), (103, .ifCond .eq 9, 106, [112]), (106, .aload_n 0, 107, []), (107, .bipush 45, 109, []), (109, .invokevirtual 431, 112, [0, 299, 2, 14, 2440, 2442, 124, 151]), (112, .aload_n 0, 113, []), (113, .getfield 428, 116, [0, 14, 26, 1854]), (116, .ireturn, 117, [])]
/-- WhoKnowsModel.writesKind(II)V -/
def mm_c304 : List mm_I := [(0, .aload_n 0, 1, []), (1, .iload_n 1, 2, []), (2, .iload_n 2, 3, []), (3, .invokevirtual 78, 6, [0, 186, 3, 14, 2105, 2107, 81, 151]), (6, .istore_n 3, 7, []), (7, .iload_n 2, 8, []), (8, .istore 4, 10, []), (10, .iload 4, 12, []), (12, .bipush 32, 14, []), (14, .if_icmp .ge 39, 17, [53]), (17, .iload_n 3, 18, []), (18, .iload 4, 20, []), (20, .invokestatic 51, 23, [1, 173, 2, 2094, 2095, 151]), (23, .ifCond .ne 6, 26, [29]), (26, .goto 21, 29, [47]), (29, .iload 4, 31, []), (31, .iload_n 2, 32, []), (32, .if_icmp .le 9, 35, [41]), (35, .aload_n 0, 36, []), (36, .bipush 32, 38, []), (38, .invokevirtual 431, 41, [0, 299, 2, 14, 2440, 2442, 124, 151]), (41, .aload_n 0, 42, []), (42, .iload 4, 44, []), (44, .invokevirtual 443, 47, [0, 302, 2, 14, 2456, 2458, 127, 151]), (47, .iinc 4 1, 50, []), (50, .goto (-40), 53, [10]), (53, .return_, 54, [])]
/-- WhoKnowsModel.writeKinds(I)I -/
def mm_c305 : List mm_I := [(0, .aload_n 0, 1, []), (1, .aload_n 0, 2, []), (2, .iload_n 1, 3, []), (3, .invokevirtual 384, 6, [0, 181, 2, 14, 2246, 2248, 109, 151]), (6, .invokevirtual 119, 9, [0, 176, 2, 14, 1918, 1920, 45, 151]), (9, .ifCond .ne 5, 12, [14]), (12, .iconst 0, 13, []), (13, .ireturn, 14, []), (14, .aload_n 0, 15, []), (15, .iconst 0, 16, []), (16, .putfield 428, 19, [0, 14, 26, 1854]), (19, .iconst 0, 20, []), (20, .istore_n 2, 21, []), (21, .iload_n 2, 22, []), (22, .bipush 32, 24, []), (24, .if_icmp .ge 40, 27, [64]), (27, .aload_n 0, 28, []), (28, .iload_n 1, 29, []), (29, .iload_n 2, 30, []), (30, .invokevirtual 393, 33, [0, 261, 3, 14, 2274, 2276, 112, 151]), (33, .ifCond .ne 6, 36, [39]), (36, .goto 22, 39, [58]), (39, .aload_n 0, 40, []), (40, .getfield 428, 43, [0, 14, 26, 1854]), (43, .ifCond .le 9, 46, [52]), (46, .aload_n 0, 47, []), (47, .bipush 124, 49, []), (49, .invokevirtual 431, 52, [0, 299, 2, 14, 2440, 2442, 124, 151]), (52, .aload_n 0, 53, []), (53, .iload_n 1, 54, []), (54, .iload_n 2, 55, []), (55, .invokevirtual 446, 58, [0, 304, 3, 14, 2452, 2454, 126, 151]), (58, .iinc 2 1, 61, []), (61, .goto (-40), 64, [21]), (64, .aload_n 0, 65, []), (65, .getfield 428, 68, [0, 14, 26, 1854]), (68, .ireturn, 69, [])]
/-- WhoKnowsModel.writesTwo(IILjava/lang/String;)V -/
def mm_c306 : List mm_I := [(0, .aload_n 0, 1, []), (1, .bipush 40, 3, []), (3, .invokevirtual 431, 6, [0, 299, 2, 14, 2440, 2442, 124, 151]), (6, .aload_n 0, 7, []), (7, .iload_n 1, 8, []), (8, .invokevirtual 449, 11, [0, 308, 2, 14, 2464, 2466, 128, 151]), (11, .aload_n 0, 12, []), (12, .aload_n 3, 13, []), (13, .invokevirtual 436, 16, [0, 300, 2, 14, 2436, 2438, 123, 151]), (16, .aload_n 0, 17, []), (17, .iload_n 2, 18, []), (18, .invokevirtual 449, 21, [0, 308, 2, 14, 2464, 2466, 128, 151]), (21, .aload_n 0, 22, []), (22, .bipush 41, 24, []), (24, .invokevirtual 431, 27, [0, 299, 2, 14, 2440, 2442, 124, 151]), (27, .return_, 28, [])]
/-- WhoKnowsModel.writesAhead(Ljava/lang/String;II)V -/
def mm_c307 : List mm_I := [(0, .aload_n 0, 1, []), (1, .aload_n 1, 2, []), (2, .invokevirtual 436, 5, [0, 300, 2, 14, 2436, 2438, 123, 151]), (5, .iload_n 2, 6, []), (6, .iconst (-1), 7, []), (7, .if_icmp .eq 20, 10, [27]), (10, .aload_n 0, 11, []), (11, .bipush 115, 13, []), (13, .bipush 7, 15, []), (15, .iload_n 2, 16, []), (16, .imul, 17, []), (17, .iadd, 18, []), (18, .invokevirtual 440, 21, [0, 301, 2, 14, 2444, 2446, 125, 151]), (21, .aload_n 0, 22, []), (22, .bipush 32, 24, []), (24, .invokevirtual 431, 27, [0, 299, 2, 14, 2440, 2442, 124, 151]), (27, .aload_n 0, 28, []), (28, .iload_n 3, 29, []), (29, .invokevirtual 449, 32, [0, 308, 2, 14, 2464, 2466, 128, 151]), (32, .return_, 33, [])]
/-- WhoKnowsModel.writesNode(I)V -/
def mm_c308 : List mm_I := [(0, .sipush 321, 3, []), (3, .iconst 4, 4, []), (4, .iload_n 1, 5, []), (5, .imul, 6, []), (6, .iadd, 7, []), (7, .istore_n 2, 8, []), (8, .aload_n 0, 9, []), (9, .getfield 7, 12, [0, 14, 0, 1828]), (12, .iload_n 2, 13, []), (13, .iconst 1, 14, []), (14, .iadd, 15, []), (15, .iaload, 16, []), (16, .istore_n 3, 17, []), (17, .aload_n 0, 18, []), (18, .getfield 7, 21, [0, 14, 0, 1828]), (21, .iload_n 2, 22, []), (22, .iconst 2, 23, []), (23, .iadd, 24, []), (24, .iaload, 25, []), (25, .istore 4, 27, []), (27, .aload_n 0, 28, []), (28, .getfield 7, 31, [0, 14, 0, 1828]), (31, .iload_n 2, 32, []), (32, .iaload, 33, []), (33, .tableswitch 119 0 6 #[43, 55, 65, 76, 87, 98, 109], 76, [152, 76, 88, 98, 109, 120, 131, 142]), (76, .aload_n 0, 77, []), (77, .bipush 80, 79, []), (79, .bipush 7, 81, []), (81, .iload_n 3, 82, []), (82, .imul, 83, []), (83, .iadd, 84, []), (84, .invokevirtual 440, 87, [0, 301, 2, 14, 2444, 2446, 125, 151]), (87, .return_, 88, []), (88, .aload_n 0, 89, []), (89, .ldc_w 452, 92, [1, 48, 2468]), (92, .iconst (-1), 93, []), (93, .iload_n 3, 94, []), (94, .invokevirtual 454, 97, [0, 307, 4, 14, 2469, 2471, 129, 151]), (97, .return_, 98, []), (98, .aload_n 0, 99, []), (99, .iload_n 3, 100, []), (100, .iload 4, 102, []), (102, .ldc_w 458, 105, [1, 30, 2473]), (105, .invokevirtual 460, 108, [0, 306, 4, 14, 2474, 2476, 130, 151]), (108, .return_, 109, []), (109, .aload_n 0, 110, []), (110, .iload_n 3, 111, []), (111, .iload 4, 113, []), (113, .ldc_w 464, 116, [1, 32, 2478]), (116, .invokevirtual 460, 119, [0, 306, 4, 14, 2474, 2476, 130, 151]), (119, .return_, 120, []), (120, .aload_n 0, 121, []), (121, .ldc_w 466, 124, [1, 50, 2479]), (124, .iload 4, 126, []), (126, .iload_n 3, 127, []), (127, .invokevirtual 454, 130, [0, 307, 4, 14, 2469, 2471, 129, 151]), (130, .return_, 131, []), (131, .aload_n 0, 132, []), (132, .ldc_w 468, 135, [1, 52, 2480]), (135, .iload 4, 137, []), (137, .iload_n 3, 138, []), (138, .invokevirtual 454, 141, [0, 307, 4, 14, 2469, 2471, 129, 151]), (141, .return_, 142, []), (142, .aload_n 0, 143, []), (143, .ldc_w 470, 146, [1, 54, 2481]), (146, .iconst (-1), 147, []), (147, .iload_n 3, 148, []), (148, .invokevirtual 454, 151, [0, 307, 4, 14, 2469, 2471, 129, 151]), (151, .return_, 152, []), (152, .aload_n 0, 153, []), (153, .ldc_w 472, 156, [1, 56, 2482]), (156, .iconst (-1), 157, []), (157, .iload_n 3, 158, []), (158, .invokevirtual 454, 161, [0, 307, 4, 14, 2469, 2471, 129, 151]), (161, .return_, 162, [])]
/-- WhoKnowsModel.writeQuestion()I -/
def mm_c309 : List mm_I := [(0, .aload_n 0, 1, []), (1, .iconst 0, 2, []), (2, .putfield 48, 5, [0, 14, 6, 1834]), (5, .aload_n 0, 6, []), (6, .iconst 0, 7, []), (7, .putfield 428, 10, [0, 14, 26, 1854]), (10, .aload_n 0, 11, []), (11, .aload_n 0, 12, []), (12, .getfield 7, 15, [0, 14, 0, 1828]), (15, .sipush 320, 18, []), (18, .iaload, 19, []), (19, .iconst 1, 20, []), (20, .isub, 21, []), (21, .invokevirtual 449, 24, [0, 308, 2, 14, 2464, 2466, 128, 151]), (24, .aload_n 0, 25, []), (25, .getfield 428, 28, [0, 14, 26, 1854]), (28, .ireturn, 29, [])]
/-- WhoKnowsModel.outputByte(I)I -/
def mm_c310 : List mm_I := [(0, .aload_n 0, 1, []), (1, .iconst 0, 2, []), (2, .putfield 48, 5, [0, 14, 6, 1834]), (5, .iload_n 1, 6, []), (6, .i2l, 7, []), (7, .lconst 0, 8, []), (8, .aload_n 0, 9, []), (9, .getfield 428, 12, [0, 14, 26, 1854]), (12, .iconst 1, 13, []), (13, .isub, 14, []), (14, .i2l, 15, []), (15, .invokestatic 59, 18, [1, 171, 3, 1930, 1931, 151]), (18, .ifCond .eq 12, 21, [30]), (21, .aload_n 0, 22, []), (22, .getfield 41, 25, [0, 14, 25, 1853]), (25, .iload_n 1, 26, []), (26, .iaload, 27, []), (27, .goto 4, 30, [31]), (30, .iconst (-1), 31, []), (31, .ireturn, 32, [])]
/-- WhoKnowsModel.undo()I -/
def mm_c311 : List mm_I := [(0, .aload_n 0, 1, []), (1, .iconst 0, 2, []), (2, .putfield 48, 5, [0, 14, 6, 1834]), (5, .aload_n 0, 6, []), (6, .getfield 305, 9, [0, 14, 5, 1833]), (9, .ifCond .ne 5, 12, [14]), (12, .iconst (-1), 13, []), (13, .ireturn, 14, []), (14, .aload_n 0, 15, []), (15, .dup, 16, []), (16, .getfield 305, 19, [0, 14, 5, 1833]), (19, .iconst 1, 20, []), (20, .isub, 21, []), (21, .putfield 305, 24, [0, 14, 5, 1833]), (24, .aload_n 0, 25, []), (25, .getfield 22, 28, [0, 14, 4, 1832]), (28, .sipush 564, 31, []), (31, .aload_n 0, 32, []), (32, .getfield 305, 35, [0, 14, 5, 1833]), (35, .imul, 36, []), (36, .aload_n 0, 37, []), (37, .getfield 7, 40, [0, 14, 0, 1828]), (40, .iconst 0, 41, []), (41, .invokestatic 286, 44, [1, 177, 4, 1945, 1946, 151]), (44, .aload_n 0, 45, []), (45, .getfield 305, 48, [0, 14, 5, 1833]), (48, .ireturn, 49, [])]
/-- WhoKnowsModel.save()I -/
def mm_c312 : List mm_I := [(0, .aload_n 0, 1, []), (1, .iconst 0, 2, []), (2, .putfield 48, 5, [0, 14, 6, 1834]), (5, .aload_n 0, 6, []), (6, .getfield 7, 9, [0, 14, 0, 1828]), (9, .iconst 0, 10, []), (10, .aload_n 0, 11, []), (11, .getfield 13, 14, [0, 14, 1, 1829]), (14, .iconst 0, 15, []), (15, .invokestatic 286, 18, [1, 177, 4, 1945, 1946, 151]), (18, .aload_n 0, 19, []), (19, .iconst 1, 20, []), (20, .putfield 474, 23, [0, 14, 7, 1835]), (23, .aload_n 0, 24, []), (24, .getfield 7, 27, [0, 14, 0, 1828]), (27, .iconst 2, 28, []), (28, .iaload, 29, []), (29, .invokestatic 74, 32, [1, 174, 1, 1818, 1819, 151]), (32, .ireturn, 33, [])]
/-- WhoKnowsModel.restore()I -/
def mm_c313 : List mm_I := [(0, .aload_n 0, 1, []), (1, .aload_n 0, 2, []), (2, .getfield 474, 5, [0, 14, 7, 1835]), (5, .invokevirtual 119, 8, [0, 176, 2, 14, 1918, 1920, 45, 151]), (8, .ifCond .ne 5, 11, [13]), (11, .iconst 0, 12, []), (12, .ireturn, 13, []), (13, .aload_n 0, 14, []), (14, .getfield 13, 17, [0, 14, 1, 1829]), (17, .iconst 0, 18, []), (18, .aload_n 0, 19, []), (19, .getfield 7, 22, [0, 14, 0, 1828]), (22, .iconst 0, 23, []), (23, .invokestatic 286, 26, [1, 177, 4, 1945, 1946, 151]), (26, .aload_n 0, 27, []), (27, .iconst 0, 28, []), (28, .putfield 305, 31, [0, 14, 5, 1833]), (31, .aload_n 0, 32, []), (32, .getfield 7, 35, [0, 14, 0, 1828]), (35, .iconst 2, 36, []), (36, .iaload, 37, []), (37, .invokestatic 74, 40, [1, 174, 1, 1818, 1819, 151]), (40, .ireturn, 41, [])]
/-- WhoKnowsLaw.append(LWhoKnows;IIIII[J)I -/
def mm_c314 : List mm_I := [(0, .aload 6, 2, []), (2, .iconst 0, 3, []), (3, .aload_n 0, 4, []), (4, .iload_n 1, 5, []), (5, .iload_n 2, 6, []), (6, .iload_n 3, 7, []), (7, .iload 4, 9, []), (9, .iload 5, 11, []), (11, .invokevirtual 7, 14, [0, 98, 6, 13, 1443, 1444, 1445, 132]), (14, .i2l, 15, []), (15, .lastore, 16, []), (16, .goto 7, 19, [23]), (19, .astore 7, 21, []), (21, .iconst 1, 22, []), (22, .ireturn, 23, []), (23, .iconst 0, 24, []), (24, .ireturn, 25, [])]
/-- WhoKnowsLaw.truncate(LWhoKnows;I[J)I -/
def mm_c315 : List mm_I := [(0, .aload_n 2, 1, []), (1, .iconst 0, 2, []), (2, .aload_n 0, 3, []), (3, .iload_n 1, 4, []), (4, .invokevirtual 15, 7, [0, 99, 2, 13, 1476, 1477, 1478, 132]), (7, .i2l, 8, []), (8, .lastore, 9, []), (9, .goto 6, 12, [15]), (12, .astore_n 3, 13, []), (13, .iconst 1, 14, []), (14, .ireturn, 15, []), (15, .iconst 0, 16, []), (16, .ireturn, 17, [])]
/-- WhoKnowsLaw.readText(LWhoKnows;[J)I -/
def mm_c316 : List mm_I := [(0, .aload_n 1, 1, []), (1, .iconst 0, 2, []), (2, .aload_n 0, 3, []), (3, .invokevirtual 21, 6, [0, 100, 1, 13, 1488, 1489, 1490, 132]), (6, .i2l, 7, []), (7, .lastore, 8, []), (8, .goto 6, 11, [14]), (11, .astore_n 2, 12, []), (12, .iconst 1, 13, []), (13, .ireturn, 14, []), (14, .iconst 0, 15, []), (15, .ireturn, 16, [])]
/-- WhoKnowsLaw.runOrders(LWhoKnows;[J)I -/
def mm_c317 : List mm_I := [(0, .aload_n 1, 1, []), (1, .iconst 0, 2, []), (2, .aload_n 0, 3, []), (3, .invokevirtual 25, 6, [0, 101, 1, 13, 1499, 1500, 1501, 132]), (6, .i2l, 7, []), (7, .lastore, 8, []), (8, .goto 6, 11, [14]), (11, .astore_n 2, 12, []), (12, .iconst 1, 13, []), (13, .ireturn, 14, []), (14, .iconst 0, 15, []), (15, .ireturn, 16, [])]
/-- WhoKnowsLaw.ask(LWhoKnows;[J)I -/
def mm_c318 : List mm_I := [(0, .aload_n 1, 1, []), (1, .iconst 0, 2, []), (2, .aload_n 0, 3, []), (3, .invokevirtual 28, 6, [0, 102, 1, 13, 1572, 1573, 1574, 132]), (6, .i2l, 7, []), (7, .lastore, 8, []), (8, .goto 6, 11, [14]), (11, .astore_n 2, 12, []), (12, .iconst 1, 13, []), (13, .ireturn, 14, []), (14, .iconst 0, 15, []), (15, .ireturn, 16, [])]
/-- WhoKnowsLaw.size(LWhoKnows;I[J)I -/
def mm_c319 : List mm_I := [(0, .aload_n 2, 1, []), (1, .iconst 0, 2, []), (2, .aload_n 0, 3, []), (3, .iload_n 1, 4, []), (4, .invokevirtual 31, 7, [0, 105, 2, 13, 1583, 1584, 1585, 132]), (7, .i2l, 8, []), (8, .lastore, 9, []), (9, .goto 6, 12, [15]), (12, .astore_n 3, 13, []), (13, .iconst 1, 14, []), (14, .ireturn, 15, []), (15, .iconst 0, 16, []), (16, .ireturn, 17, [])]
/-- WhoKnowsLaw.letter(LWhoKnows;ZII[J)I -/
def mm_c320 : List mm_I := [(0, .aload 4, 2, []), (2, .iconst 0, 3, []), (3, .aload_n 0, 4, []), (4, .iload_n 1, 5, []), (5, .iload_n 2, 6, []), (6, .iload_n 3, 7, []), (7, .invokevirtual 34, 10, [0, 106, 4, 13, 1596, 1597, 1598, 132]), (10, .i2l, 11, []), (11, .lastore, 12, []), (12, .goto 7, 15, [19]), (15, .astore 5, 17, []), (17, .iconst 1, 18, []), (18, .ireturn, 19, []), (19, .iconst 0, 20, []), (20, .ireturn, 21, [])]
/-- WhoKnowsLaw.sees(LWhoKnows;I[J)I -/
def mm_c321 : List mm_I := [(0, .aload_n 2, 1, []), (1, .iconst 0, 2, []), (2, .aload_n 0, 3, []), (3, .iload_n 1, 4, []), (4, .invokevirtual 40, 7, [0, 107, 2, 13, 1619, 1620, 1621, 132]), (7, .i2l, 8, []), (8, .lastore, 9, []), (9, .goto 6, 12, [15]), (12, .astore_n 3, 13, []), (13, .iconst 1, 14, []), (14, .ireturn, 15, []), (15, .iconst 0, 16, []), (16, .ireturn, 17, [])]
/-- WhoKnowsLaw.alike(LWhoKnows;II[J)I -/
def mm_c322 : List mm_I := [(0, .aload_n 3, 1, []), (1, .iconst 0, 2, []), (2, .aload_n 0, 3, []), (3, .iload_n 1, 4, []), (4, .iload_n 2, 5, []), (5, .invokevirtual 43, 8, [0, 109, 3, 13, 1630, 1631, 1632, 132]), (8, .i2l, 9, []), (9, .lastore, 10, []), (10, .goto 7, 13, [17]), (13, .astore 4, 15, []), (15, .iconst 1, 16, []), (16, .ireturn, 17, []), (17, .iconst 0, 18, []), (18, .ireturn, 19, [])]
/-- WhoKnowsLaw.kinds(LWhoKnows;I[J)I -/
def mm_c323 : List mm_I := [(0, .aload_n 2, 1, []), (1, .iconst 0, 2, []), (2, .aload_n 0, 3, []), (3, .iload_n 1, 4, []), (4, .invokevirtual 47, 7, [0, 110, 2, 13, 1642, 1643, 1644, 132]), (7, .i2l, 8, []), (8, .lastore, 9, []), (9, .goto 6, 12, [15]), (12, .astore_n 3, 13, []), (13, .iconst 1, 14, []), (14, .ireturn, 15, []), (15, .iconst 0, 16, []), (16, .ireturn, 17, [])]
/-- WhoKnowsLaw.doubts(LWhoKnows;I[J)I -/
def mm_c324 : List mm_I := [(0, .aload_n 2, 1, []), (1, .iconst 0, 2, []), (2, .aload_n 0, 3, []), (3, .iload_n 1, 4, []), (4, .invokevirtual 50, 7, [0, 111, 2, 13, 1654, 1655, 1656, 132]), (7, .i2l, 8, []), (8, .lastore, 9, []), (9, .goto 6, 12, [15]), (12, .astore_n 3, 13, []), (13, .iconst 1, 14, []), (14, .ireturn, 15, []), (15, .iconst 0, 16, []), (16, .ireturn, 17, [])]
/-- WhoKnowsLaw.reach(LWhoKnows;I[J)I -/
def mm_c325 : List mm_I := [(0, .aload_n 2, 1, []), (1, .iconst 0, 2, []), (2, .aload_n 0, 3, []), (3, .iload_n 1, 4, []), (4, .invokevirtual 53, 7, [0, 112, 2, 13, 1661, 1662, 1663, 132]), (7, .i2l, 8, []), (8, .lastore, 9, []), (9, .goto 6, 12, [15]), (12, .astore_n 3, 13, []), (13, .iconst 1, 14, []), (14, .ireturn, 15, []), (15, .iconst 0, 16, []), (16, .ireturn, 17, [])]
/-- WhoKnowsLaw.steps(LWhoKnows;II[J)I -/
def mm_c326 : List mm_I := [(0, .aload_n 3, 1, []), (1, .iconst 0, 2, []), (2, .aload_n 0, 3, []), (3, .iload_n 1, 4, []), (4, .iload_n 2, 5, []), (5, .invokevirtual 56, 8, [0, 113, 3, 13, 1668, 1669, 1670, 132]), (8, .i2l, 9, []), (9, .lastore, 10, []), (10, .goto 7, 13, [17]), (13, .astore 4, 15, []), (15, .iconst 1, 16, []), (16, .ireturn, 17, []), (17, .iconst 0, 18, []), (18, .ireturn, 19, [])]
/-- WhoKnowsLaw.holds(LWhoKnows;I[J)I -/
def mm_c327 : List mm_I := [(0, .aload_n 2, 1, []), (1, .iconst 0, 2, []), (2, .aload_n 0, 3, []), (3, .iload_n 1, 4, []), (4, .invokevirtual 59, 7, [0, 114, 2, 13, 1679, 1680, 1681, 132]), (7, .ifCond .eq 7, 10, [14]), (10, .lconst 1, 11, []), (11, .goto 4, 14, [15]), (14, .lconst 0, 15, []), (15, .lastore, 16, []), (16, .goto 6, 19, [22]), (19, .astore_n 3, 20, []), (20, .iconst 1, 21, []), (21, .ireturn, 22, []), (22, .iconst 0, 23, []), (23, .ireturn, 24, [])]
/-- WhoKnowsLaw.knowsFact(LWhoKnows;II[J)I -/
def mm_c328 : List mm_I := [(0, .aload_n 3, 1, []), (1, .iconst 0, 2, []), (2, .aload_n 0, 3, []), (3, .iload_n 1, 4, []), (4, .iload_n 2, 5, []), (5, .invokevirtual 63, 8, [0, 121, 3, 13, 1686, 1687, 1688, 132]), (8, .i2l, 9, []), (9, .lastore, 10, []), (10, .goto 7, 13, [17]), (13, .astore 4, 15, []), (15, .iconst 1, 16, []), (16, .ireturn, 17, []), (17, .iconst 0, 18, []), (18, .ireturn, 19, [])]
/-- WhoKnowsLaw.wouldSay(LWhoKnows;I[J)I -/
def mm_c329 : List mm_I := [(0, .aload_n 2, 1, []), (1, .iconst 0, 2, []), (2, .aload_n 0, 3, []), (3, .iload_n 1, 4, []), (4, .invokevirtual 66, 7, [0, 124, 2, 13, 1697, 1698, 1699, 132]), (7, .i2l, 8, []), (8, .lastore, 9, []), (9, .goto 6, 12, [15]), (12, .astore_n 3, 13, []), (13, .iconst 1, 14, []), (14, .ireturn, 15, []), (15, .iconst 0, 16, []), (16, .ireturn, 17, [])]
/-- WhoKnowsLaw.wouldKnow(LWhoKnows;I[J)I -/
def mm_c330 : List mm_I := [(0, .aload_n 2, 1, []), (1, .iconst 0, 2, []), (2, .aload_n 0, 3, []), (3, .iload_n 1, 4, []), (4, .invokevirtual 69, 7, [0, 125, 2, 13, 1704, 1705, 1706, 132]), (7, .i2l, 8, []), (8, .lastore, 9, []), (9, .goto 6, 12, [15]), (12, .astore_n 3, 13, []), (13, .iconst 1, 14, []), (14, .ireturn, 15, []), (15, .iconst 0, 16, []), (16, .ireturn, 17, [])]
/-- WhoKnowsLaw.roundsTo(LWhoKnows;I[J)I -/
def mm_c331 : List mm_I := [(0, .aload_n 2, 1, []), (1, .iconst 0, 2, []), (2, .aload_n 0, 3, []), (3, .iload_n 1, 4, []), (4, .invokevirtual 72, 7, [0, 126, 2, 13, 1718, 1719, 1720, 132]), (7, .i2l, 8, []), (8, .lastore, 9, []), (9, .goto 6, 12, [15]), (12, .astore_n 3, 13, []), (13, .iconst 1, 14, []), (14, .ireturn, 15, []), (15, .iconst 0, 16, []), (16, .ireturn, 17, [])]
/-- WhoKnowsLaw.leastShown(LWhoKnows;I[J)I -/
def mm_c332 : List mm_I := [(0, .aload_n 2, 1, []), (1, .iconst 0, 2, []), (2, .aload_n 0, 3, []), (3, .iload_n 1, 4, []), (4, .invokevirtual 75, 7, [0, 128, 2, 13, 1726, 1727, 1728, 132]), (7, .i2l, 8, []), (8, .lastore, 9, []), (9, .goto 6, 12, [15]), (12, .astore_n 3, 13, []), (13, .iconst 1, 14, []), (14, .ireturn, 15, []), (15, .iconst 0, 16, []), (16, .ireturn, 17, [])]
/-- WhoKnowsLaw.log(LWhoKnows;II[J)I -/
def mm_c333 : List mm_I := [(0, .aload_n 3, 1, []), (1, .iconst 0, 2, []), (2, .aload_n 0, 3, []), (3, .iload_n 1, 4, []), (4, .iload_n 2, 5, []), (5, .invokevirtual 78, 8, [0, 129, 3, 13, 1733, 1734, 1735, 132]), (8, .i2l, 9, []), (9, .lastore, 10, []), (10, .goto 7, 13, [17]), (13, .astore 4, 15, []), (15, .iconst 1, 16, []), (16, .ireturn, 17, []), (17, .iconst 0, 18, []), (18, .ireturn, 19, [])]
/-- WhoKnowsLaw.account(LWhoKnows;I[J)I -/
def mm_c334 : List mm_I := [(0, .aload_n 2, 1, []), (1, .iconst 0, 2, []), (2, .aload_n 0, 3, []), (3, .iload_n 1, 4, []), (4, .invokevirtual 81, 7, [0, 130, 2, 13, 1744, 1745, 1746, 132]), (7, .i2l, 8, []), (8, .lastore, 9, []), (9, .goto 6, 12, [15]), (12, .astore_n 3, 13, []), (13, .iconst 1, 14, []), (14, .ireturn, 15, []), (15, .iconst 0, 16, []), (16, .ireturn, 17, [])]
/-- WhoKnowsLaw.say(LWhoKnows;I[J)I -/
def mm_c335 : List mm_I := [(0, .aload_n 2, 1, []), (1, .iconst 0, 2, []), (2, .aload_n 0, 3, []), (3, .iload_n 1, 4, []), (4, .invokevirtual 84, 7, [0, 135, 2, 13, 1751, 1752, 1753, 132]), (7, .i2l, 8, []), (8, .lastore, 9, []), (9, .goto 6, 12, [15]), (12, .astore_n 3, 13, []), (13, .iconst 1, 14, []), (14, .ireturn, 15, []), (15, .iconst 0, 16, []), (16, .ireturn, 17, [])]
/-- WhoKnowsLaw.whisper(LWhoKnows;I[J)I -/
def mm_c336 : List mm_I := [(0, .aload_n 2, 1, []), (1, .iconst 0, 2, []), (2, .aload_n 0, 3, []), (3, .iload_n 1, 4, []), (4, .invokevirtual 87, 7, [0, 136, 2, 13, 1758, 1759, 1760, 132]), (7, .i2l, 8, []), (8, .lastore, 9, []), (9, .goto 6, 12, [15]), (12, .astore_n 3, 13, []), (13, .iconst 1, 14, []), (14, .ireturn, 15, []), (15, .iconst 0, 16, []), (16, .ireturn, 17, [])]
/-- WhoKnowsLaw.show(LWhoKnows;II[J)I -/
def mm_c337 : List mm_I := [(0, .aload_n 3, 1, []), (1, .iconst 0, 2, []), (2, .aload_n 0, 3, []), (3, .iload_n 1, 4, []), (4, .iload_n 2, 5, []), (5, .invokevirtual 90, 8, [0, 137, 3, 13, 1766, 1767, 1768, 132]), (8, .i2l, 9, []), (9, .lastore, 10, []), (10, .goto 7, 13, [17]), (13, .astore 4, 15, []), (15, .iconst 1, 16, []), (16, .ireturn, 17, []), (17, .iconst 0, 18, []), (18, .ireturn, 19, [])]
/-- WhoKnowsLaw.round(LWhoKnows;I[J)I -/
def mm_c338 : List mm_I := [(0, .aload_n 2, 1, []), (1, .iconst 0, 2, []), (2, .aload_n 0, 3, []), (3, .iload_n 1, 4, []), (4, .invokevirtual 93, 7, [0, 138, 2, 13, 1773, 1774, 1775, 132]), (7, .i2l, 8, []), (8, .lastore, 9, []), (9, .goto 6, 12, [15]), (12, .astore_n 3, 13, []), (13, .iconst 1, 14, []), (14, .ireturn, 15, []), (15, .iconst 0, 16, []), (16, .ireturn, 17, [])]
/-- WhoKnowsLaw.writeWorld(LWhoKnows;I[J)I -/
def mm_c339 : List mm_I := [(0, .aload_n 2, 1, []), (1, .iconst 0, 2, []), (2, .aload_n 0, 3, []), (3, .iload_n 1, 4, []), (4, .invokevirtual 96, 7, [0, 139, 2, 13, 1781, 1782, 1783, 132]), (7, .i2l, 8, []), (8, .lastore, 9, []), (9, .goto 6, 12, [15]), (12, .astore_n 3, 13, []), (13, .iconst 1, 14, []), (14, .ireturn, 15, []), (15, .iconst 0, 16, []), (16, .ireturn, 17, [])]
/-- WhoKnowsLaw.writeKinds(LWhoKnows;I[J)I -/
def mm_c340 : List mm_I := [(0, .aload_n 2, 1, []), (1, .iconst 0, 2, []), (2, .aload_n 0, 3, []), (3, .iload_n 1, 4, []), (4, .invokevirtual 99, 7, [0, 140, 2, 13, 1792, 1793, 1794, 132]), (7, .i2l, 8, []), (8, .lastore, 9, []), (9, .goto 6, 12, [15]), (12, .astore_n 3, 13, []), (13, .iconst 1, 14, []), (14, .ireturn, 15, []), (15, .iconst 0, 16, []), (16, .ireturn, 17, [])]
/-- WhoKnowsLaw.restore(LWhoKnows;[J)I -/
def mm_c341 : List mm_I := [(0, .aload_n 1, 1, []), (1, .iconst 0, 2, []), (2, .aload_n 0, 3, []), (3, .invokevirtual 102, 6, [0, 145, 1, 13, 1804, 1805, 1806, 132]), (6, .i2l, 7, []), (7, .lastore, 8, []), (8, .goto 6, 11, [14]), (11, .astore_n 2, 12, []), (12, .iconst 1, 13, []), (13, .ireturn, 14, []), (14, .iconst 0, 15, []), (15, .ireturn, 16, [])]
/-- java/lang/AbstractStringBuilder.<init>(I)V -/
def mm_c342 : List mm_I := [(0, .aload_n 0, 1, []), (1, .invokespecial 3, 4, [9, 368]), (4, .getstatic 18, 7, [0, 0, 369]), (7, .ifCond .eq 18, 10, [25]), (10, .aload_n 0, 11, []), (11, .iload_n 1, 12, []), (12, .newarray .byte, 14, [2]), (14, .putfield 15, 17, [0, 1, 0, 378]), (17, .aload_n 0, 18, []), (18, .iconst 0, 19, []), (19, .putfield 22, 22, [0, 1, 1, 379]), (22, .goto 16, 25, [38]), (25, .aload_n 0, 26, []), (26, .iload_n 1, 27, []), (27, .invokestatic 26, 30, [1, 384, 1, 371, 372, 143]), (30, .putfield 15, 33, [0, 1, 0, 378]), (33, .aload_n 0, 34, []), (34, .iconst 1, 35, []), (35, .putfield 22, 38, [0, 1, 1, 379]), (38, .return_, 39, [])]
/-- java/lang/AbstractStringBuilder.length()I -/
def mm_c343 : List mm_I := [(0, .aload_n 0, 1, []), (1, .getfield 79, 4, [0, 1, 3, 382]), (4, .ireturn, 5, [])]
/-- java/lang/AbstractStringBuilder.ensureCapacityInternal(I)V -/
def mm_c344 : List mm_I := [(0, .aload_n 0, 1, []), (1, .getfield 15, 4, [0, 1, 0, 378]), (4, .arraylength, 5, []), (5, .aload_n 0, 6, []), (6, .getfield 22, 9, [0, 1, 1, 379]), (9, .ishr, 10, []), (10, .istore_n 2, 11, []), (11, .iload_n 1, 12, []), (12, .iload_n 2, 13, []), (13, .isub, 14, []), (14, .ifCond .le 24, 17, [38]), (17, .aload_n 0, 18, []), (18, .aload_n 0, 19, []), (19, .getfield 15, 22, [0, 1, 0, 378]), (22, .aload_n 0, 23, []), (23, .iload_n 1, 24, []), (24, .invokevirtual 104, 27, [3, 345, 2, 1, 1088, 2504, 2, 1090, 140, 1, 2]), (27, .aload_n 0, 28, []), (28, .getfield 22, 31, [0, 1, 1, 379]), (31, .ishl, 32, []), (32, .invokestatic 108, 35, [1, 404, 2, 1101, 1102, 162]), (35, .putfield 15, 38, [0, 1, 0, 378]), (38, .return_, 39, [])]
/-- java/lang/AbstractStringBuilder.newCapacity(I)I -/
def mm_c345 : List mm_I := [(0, .aload_n 0, 1, []), (1, .getfield 15, 4, [0, 1, 0, 378]), (4, .arraylength, 5, []), (5, .istore_n 2, 6, []), (6, .iload_n 1, 7, []), (7, .aload_n 0, 8, []), (8, .getfield 22, 11, [0, 1, 1, 379]), (11, .ishl, 12, []), (12, .istore_n 3, 13, []), (13, .iload_n 3, 14, []), (14, .iload_n 2, 15, []), (15, .isub, 16, []), (16, .istore 4, 18, []), (18, .iload_n 2, 19, []), (19, .iload 4, 21, []), (21, .iload_n 2, 22, []), (22, .iconst 2, 23, []), (23, .aload_n 0, 24, []), (24, .getfield 22, 27, [0, 1, 1, 379]), (27, .ishl, 28, []), (28, .iadd, 29, []), (29, .invokestatic 114, 32, [1, 408, 3, 1092, 1093, 161]), (32, .istore 5, 34, []), (34, .iload 5, 36, []), (36, .ldc 39, 38, [0, 2147483647, 1100]), (38, .if_icmp .ne 13, 41, [51]), (44, .dup, 45, []), (50, .athrow, 51, []), (51, .iload 5, 53, []), (53, .aload_n 0, 54, []), (54, .getfield 22, 57, [0, 1, 1, 379]), (57, .ishr, 58, []), (58, .ireturn, 59, [])]
/-- java/lang/AbstractStringBuilder.inflate()V -/
def mm_c346 : List mm_I := [(0, .aload_n 0, 1, []), (1, .invokevirtual 83, 4, [3, 354, 1, 1, 1113, 1115, 1116, 1114, 140, 1, 2]), (4, .ifCond .ne 4, 7, [8]), (7, .return_, 8, []), (8, .aload_n 0, 9, []), (9, .getfield 15, 12, [0, 1, 0, 378]), (12, .arraylength, 13, []), (13, .invokestatic 26, 16, [1, 384, 1, 371, 372, 143]), (16, .astore_n 1, 17, []), (17, .aload_n 0, 18, []), (18, .getfield 15, 21, [0, 1, 0, 378]), (21, .iconst 0, 22, []), (22, .aload_n 1, 23, []), (23, .iconst 0, 24, []), (24, .aload_n 0, 25, []), (25, .getfield 79, 28, [0, 1, 3, 382]), (28, .invokestatic 125, 31, [1, 383, 5, 1147, 1148, 145]), (31, .aload_n 0, 32, []), (32, .aload_n 1, 33, []), (33, .putfield 15, 36, [0, 1, 0, 378]), (36, .aload_n 0, 37, []), (37, .iconst 1, 38, []), (38, .putfield 22, 41, [0, 1, 1, 379]), (41, .return_, 42, [])]
/-- java/lang/AbstractStringBuilder.setLength(I)V -/
def mm_c347 : List mm_I := [(0, .iload_n 1, 1, []), (1, .ifCond .ge 12, 4, [13]), (7, .dup, 8, []), (8, .iload_n 1, 9, []), (9, .invokespecial 131, 12, [2, 379, 2, 1067, 1068, 160]), (12, .athrow, 13, []), (13, .aload_n 0, 14, []), (14, .iload_n 1, 15, []), (15, .invokevirtual 100, 18, [3, 344, 2, 1, 1084, 2503, 1, 1086, 140, 1, 2]), (18, .aload_n 0, 19, []), (19, .getfield 79, 22, [0, 1, 3, 382]), (22, .iload_n 1, 23, []), (23, .if_icmp .ge 40, 26, [63]), (26, .aload_n 0, 27, []), (27, .invokevirtual 83, 30, [3, 354, 1, 1, 1113, 1115, 1116, 1114, 140, 1, 2]), (30, .ifCond .eq 18, 33, [48]), (33, .aload_n 0, 34, []), (34, .getfield 15, 37, [0, 1, 0, 378]), (37, .aload_n 0, 38, []), (38, .getfield 79, 41, [0, 1, 3, 382]), (41, .iload_n 1, 42, []), (42, .invokestatic 133, 45, [1, 382, 3, 1335, 1336, 145]), (45, .goto 31, 48, [76]), (48, .aload_n 0, 49, []), (49, .getfield 15, 52, [0, 1, 0, 378]), (52, .aload_n 0, 53, []), (53, .getfield 79, 56, [0, 1, 3, 382]), (56, .iload_n 1, 57, []), (57, .invokestatic 137, 60, [1, 392, 3, 1370, 1371, 143]), (60, .goto 16, 63, [76]), (63, .aload_n 0, 64, []), (64, .getfield 79, 67, [0, 1, 3, 382]), (67, .iload_n 1, 68, []), (68, .if_icmp .le 8, 71, [76]), (71, .aload_n 0, 72, []), (72, .iconst 1, 73, []), (73, .putfield 73, 76, [0, 1, 2, 380]), (76, .aload_n 0, 77, []), (77, .iload_n 1, 78, []), (78, .putfield 79, 81, [0, 1, 3, 382]), (81, .return_, 82, [])]
/-- java/lang/AbstractStringBuilder.charAt(I)C -/
def mm_c348 : List mm_I := [(0, .aload_n 0, 1, []), (1, .getfield 22, 4, [0, 1, 1, 379]), (4, .istore_n 2, 5, []), (5, .aload_n 0, 6, []), (6, .getfield 15, 9, [0, 1, 0, 378]), (9, .astore_n 3, 10, []), (10, .aload_n 0, 11, []), (11, .getfield 79, 14, [0, 1, 3, 382]), (14, .aload_n 3, 15, []), (15, .arraylength, 16, []), (16, .iload_n 2, 17, []), (17, .ishr, 18, []), (18, .invokestatic 138, 21, [12, 1428]), (21, .istore 4, 23, []), (23, .iload_n 1, 24, []), (24, .iload 4, 26, []), (26, .invokestatic 144, 29, [1, 368, 2, 1429, 422, 142]), (29, .iload_n 2, 30, []), (30, .ifCond .ne 12, 33, [42]), (33, .aload_n 3, 34, []), (34, .iload_n 1, 35, []), (35, .baload, 36, []), (36, .sipush 255, 39, []), (39, .iand, 40, []), (40, .i2c, 41, []), (41, .ireturn, 42, []), (42, .aload_n 3, 43, []), (43, .iload_n 1, 44, []), (44, .invokestatic 148, 47, [1, 387, 2, 1430, 440, 143]), (47, .ireturn, 48, [])]
/-- java/lang/AbstractStringBuilder.append(Ljava/lang/String;)Ljava/lang/AbstractStringBuilder; -/
def mm_c349 : List mm_I := [(0, .aload_n 1, 1, []), (1, .ifnonnull 8, 4, [9]), (4, .aload_n 0, 5, []), (5, .invokevirtual 204, 8, [3, 350, 1, 1, 1080, 2502, 0, 1082, 140, 1, 2]), (8, .areturn, 9, []), (9, .aload_n 1, 10, []), (10, .invokevirtual 32, 13, [0, 362, 1, 0, 1133, 399, 400, 142]), (13, .istore_n 2, 14, []), (14, .aload_n 0, 15, []), (15, .aload_n 0, 16, []), (16, .getfield 79, 19, [0, 1, 3, 382]), (19, .iload_n 2, 20, []), (20, .iadd, 21, []), (21, .invokevirtual 100, 24, [3, 344, 2, 1, 1084, 2503, 1, 1086, 140, 1, 2]), (24, .aload_n 0, 25, []), (25, .aload_n 0, 26, []), (26, .getfield 79, 29, [0, 1, 3, 382]), (29, .aload_n 1, 30, []), (30, .invokevirtual 208, 33, [3, 356, 3, 1, 1134, 2505, 3, 1136, 140, 1, 2]), (33, .aload_n 0, 34, []), (34, .dup, 35, []), (35, .getfield 79, 38, [0, 1, 3, 382]), (38, .iload_n 2, 39, []), (39, .iadd, 40, []), (40, .putfield 79, 43, [0, 1, 3, 382]), (43, .aload_n 0, 44, []), (44, .areturn, 45, [])]
/-- java/lang/AbstractStringBuilder.appendNull()Ljava/lang/AbstractStringBuilder; -/
def mm_c350 : List mm_I := [(0, .aload_n 0, 1, []), (1, .aload_n 0, 2, []), (2, .getfield 79, 5, [0, 1, 3, 382]), (5, .iconst 4, 6, []), (6, .iadd, 7, []), (7, .invokevirtual 100, 10, [3, 344, 2, 1, 1084, 2503, 1, 1086, 140, 1, 2]), (10, .aload_n 0, 11, []), (11, .getfield 79, 14, [0, 1, 3, 382]), (14, .istore_n 1, 15, []), (15, .aload_n 0, 16, []), (16, .getfield 15, 19, [0, 1, 0, 378]), (19, .astore_n 2, 20, []), (20, .aload_n 0, 21, []), (21, .invokevirtual 83, 24, [3, 354, 1, 1, 1113, 1115, 1116, 1114, 140, 1, 2]), (24, .ifCond .eq 38, 27, [62]), (27, .aload_n 2, 28, []), (28, .iload_n 1, 29, []), (29, .iinc 1 1, 32, []), (32, .bipush 110, 34, []), (34, .bastore, 35, []), (35, .aload_n 2, 36, []), (36, .iload_n 1, 37, []), (37, .iinc 1 1, 40, []), (40, .bipush 117, 42, []), (42, .bastore, 43, []), (43, .aload_n 2, 44, []), (44, .iload_n 1, 45, []), (45, .iinc 1 1, 48, []), (48, .bipush 108, 50, []), (50, .bastore, 51, []), (51, .aload_n 2, 52, []), (52, .iload_n 1, 53, []), (53, .iinc 1 1, 56, []), (56, .bipush 108, 58, []), (58, .bastore, 59, []), (59, .goto 17, 62, [76]), (62, .aload_n 2, 63, []), (63, .iload_n 1, 64, []), (64, .bipush 110, 66, []), (66, .bipush 117, 68, []), (68, .bipush 108, 70, []), (70, .bipush 108, 72, []), (72, .invokestatic 226, 75, [1, 395, 6, 1118, 1119, 143]), (75, .istore_n 1, 76, []), (76, .aload_n 0, 77, []), (77, .iload_n 1, 78, []), (78, .putfield 79, 81, [0, 1, 3, 382]), (81, .aload_n 0, 82, []), (82, .areturn, 83, [])]
/-- java/lang/AbstractStringBuilder.append(C)Ljava/lang/AbstractStringBuilder; -/
def mm_c351 : List mm_I := [(0, .aload_n 0, 1, []), (1, .aload_n 0, 2, []), (2, .getfield 79, 5, [0, 1, 3, 382]), (5, .iconst 1, 6, []), (6, .iadd, 7, []), (7, .invokevirtual 100, 10, [3, 344, 2, 1, 1084, 2503, 1, 1086, 140, 1, 2]), (10, .aload_n 0, 11, []), (11, .invokevirtual 83, 14, [3, 354, 1, 1, 1113, 1115, 1116, 1114, 140, 1, 2]), (14, .ifCond .eq 31, 17, [45]), (17, .iload_n 1, 18, []), (18, .invokestatic 191, 21, [1, 381, 1, 1403, 1404, 145]), (21, .ifCond .eq 24, 24, [45]), (24, .aload_n 0, 25, []), (25, .getfield 15, 28, [0, 1, 0, 378]), (28, .aload_n 0, 29, []), (29, .dup, 30, []), (30, .getfield 79, 33, [0, 1, 3, 382]), (33, .dup_x1, 34, []), (34, .iconst 1, 35, []), (35, .iadd, 36, []), (36, .putfield 79, 39, [0, 1, 3, 382]), (39, .iload_n 1, 40, []), (40, .i2b, 41, []), (41, .bastore, 42, []), (42, .goto 33, 45, [75]), (45, .aload_n 0, 46, []), (46, .invokevirtual 83, 49, [3, 354, 1, 1, 1113, 1115, 1116, 1114, 140, 1, 2]), (49, .ifCond .eq 7, 52, [56]), (52, .aload_n 0, 53, []), (53, .invokevirtual 195, 56, [3, 346, 1, 1, 1143, 2507, 5, 1145, 140, 1, 2]), (56, .aload_n 0, 57, []), (57, .getfield 15, 60, [0, 1, 0, 378]), (60, .aload_n 0, 61, []), (61, .dup, 62, []), (62, .getfield 79, 65, [0, 1, 3, 382]), (65, .dup_x1, 66, []), (66, .iconst 1, 67, []), (67, .iadd, 68, []), (68, .putfield 79, 71, [0, 1, 3, 382]), (71, .iload_n 1, 72, []), (72, .invokestatic 197, 75, [1, 393, 3, 1406, 1407, 143]), (75, .aload_n 0, 76, []), (76, .areturn, 77, [])]
/-- java/lang/AbstractStringBuilder.append(I)Ljava/lang/AbstractStringBuilder; -/
def mm_c352 : List mm_I := [(0, .aload_n 0, 1, []), (1, .getfield 79, 4, [0, 1, 3, 382]), (4, .istore_n 2, 5, []), (5, .iload_n 2, 6, []), (6, .iload_n 1, 7, []), (7, .invokestatic 245, 10, [1, 359, 1, 1175, 1176, 157]), (10, .iadd, 11, []), (11, .istore_n 3, 12, []), (12, .aload_n 0, 13, []), (13, .iload_n 3, 14, []), (14, .invokevirtual 100, 17, [3, 344, 2, 1, 1084, 2503, 1, 1086, 140, 1, 2]), (17, .aload_n 0, 18, []), (18, .invokevirtual 83, 21, [3, 354, 1, 1, 1113, 1115, 1116, 1114, 140, 1, 2]), (21, .ifCond .eq 16, 24, [37]), (24, .iload_n 1, 25, []), (25, .iload_n 3, 26, []), (26, .aload_n 0, 27, []), (27, .getfield 15, 30, [0, 1, 0, 378]), (30, .invokestatic 248, 33, [1, 358, 3, 1178, 1179, 157]), (33, .pop, 34, []), (34, .goto 14, 37, [48]), (37, .iload_n 1, 38, []), (38, .iload_n 2, 39, []), (39, .iload_n 3, 40, []), (40, .aload_n 0, 41, []), (41, .getfield 15, 44, [0, 1, 0, 378]), (44, .invokestatic 251, 47, [1, 394, 4, 1185, 1186, 143]), (47, .pop, 48, []), (48, .aload_n 0, 49, []), (49, .iload_n 3, 50, []), (50, .putfield 79, 53, [0, 1, 3, 382]), (53, .aload_n 0, 54, []), (54, .areturn, 55, [])]
/-- java/lang/AbstractStringBuilder.getValue()[B -/
def mm_c353 : List mm_I := [(0, .aload_n 0, 1, []), (1, .getfield 15, 4, [0, 1, 0, 378]), (4, .areturn, 5, [])]
/-- java/lang/AbstractStringBuilder.isLatin1()Z -/
def mm_c354 : List mm_I := [(0, .getstatic 18, 3, [0, 0, 369]), (3, .ifCond .eq 14, 6, [17]), (6, .aload_n 0, 7, []), (7, .getfield 22, 10, [0, 1, 1, 379]), (10, .ifCond .ne 7, 13, [17]), (13, .iconst 1, 14, []), (14, .goto 4, 17, [18]), (17, .iconst 0, 18, []), (18, .ireturn, 19, [])]
/-- java/lang/AbstractStringBuilder.inflateIfNeededFor(Ljava/lang/String;)V -/
def mm_c355 : List mm_I := [(0, .getstatic 18, 3, [0, 0, 369]), (3, .ifCond .eq 18, 6, [21]), (6, .aload_n 0, 7, []), (7, .getfield 22, 10, [0, 1, 1, 379]), (10, .aload_n 1, 11, []), (11, .invokevirtual 40, 14, [0, 366, 1, 0, 1142, 403, 404, 142]), (14, .if_icmp .eq 7, 17, [21]), (17, .aload_n 0, 18, []), (18, .invokevirtual 195, 21, [3, 346, 1, 1, 1143, 2507, 5, 1145, 140, 1, 2]), (21, .return_, 22, [])]
/-- java/lang/AbstractStringBuilder.putStringAt(ILjava/lang/String;)V -/
def mm_c356 : List mm_I := [(0, .aload_n 0, 1, []), (1, .aload_n 2, 2, []), (2, .invokevirtual 397, 5, [3, 355, 2, 1, 1138, 2506, 4, 1140, 140, 1, 2]), (5, .aload_n 2, 6, []), (6, .aload_n 0, 7, []), (7, .getfield 15, 10, [0, 1, 0, 378]), (10, .iload_n 1, 11, []), (11, .aload_n 0, 12, []), (12, .getfield 22, 15, [0, 1, 1, 379]), (15, .invokevirtual 399, 18, [0, 364, 4, 0, 1162, 1163, 1164, 142]), (18, .return_, 19, [])]
/-- java/lang/ArrayIndexOutOfBoundsException.<init>(I)V -/
def mm_c357 : List mm_I := [(0, .aload_n 0, 1, []), (1, .new 10, 4, [0, 1, 1361, 361, 141]), (4, .dup, 5, []), (5, .invokespecial 12, 8, [2, 371, 1, 1362, 363, 141]), (10, .invokevirtual 15, 13, [0, 372, 2, 1, 1364, 1074, 1075, 141]), (13, .iload_n 1, 14, []), (14, .invokevirtual 19, 17, [0, 374, 2, 1, 1365, 1169, 1170, 141]), (17, .invokevirtual 22, 20, [0, 375, 1, 1, 1366, 1194, 1195, 141]), (23, .return_, 24, [])]
/-- java/lang/Integer.getChars(II[B)I -/
def mm_c358 : List mm_I := [(0, .iload_n 1, 1, []), (1, .istore 5, 3, []), (3, .iload_n 0, 4, []), (4, .ifCond .ge 7, 7, [11]), (7, .iconst 1, 8, []), (8, .goto 4, 11, [12]), (11, .iconst 0, 12, []), (12, .istore 6, 14, []), (14, .iload 6, 16, []), (16, .ifCond .ne 6, 19, [22]), (19, .iload_n 0, 20, []), (20, .ineg, 21, []), (21, .istore_n 0, 22, []), (22, .iload_n 0, 23, []), (23, .bipush (-100), 25, []), (25, .if_icmp .gt 47, 28, [72]), (28, .iload_n 0, 29, []), (29, .bipush 100, 31, []), (31, .idiv, 32, []), (32, .istore_n 3, 33, []), (33, .iload_n 3, 34, []), (34, .bipush 100, 36, []), (36, .imul, 37, []), (37, .iload_n 0, 38, []), (38, .isub, 39, []), (39, .istore 4, 41, []), (41, .iload_n 3, 42, []), (42, .istore_n 0, 43, []), (43, .aload_n 2, 44, []), (44, .iinc 5 (-1), 47, []), (47, .iload 5, 49, []), (49, .getstatic 83, 52, [0, 6, 1181]), (52, .iload 4, 54, []), (54, .baload, 55, []), (55, .bastore, 56, []), (56, .aload_n 2, 57, []), (57, .iinc 5 (-1), 60, []), (60, .iload 5, 62, []), (62, .getstatic 87, 65, [0, 5, 1183]), (65, .iload 4, 67, []), (67, .baload, 68, []), (68, .bastore, 69, []), (69, .goto (-47), 72, [22]), (72, .aload_n 2, 73, []), (73, .iinc 5 (-1), 76, []), (76, .iload 5, 78, []), (78, .getstatic 83, 81, [0, 6, 1181]), (81, .iload_n 0, 82, []), (82, .ineg, 83, []), (83, .baload, 84, []), (84, .bastore, 85, []), (85, .iload_n 0, 86, []), (86, .bipush (-9), 88, []), (88, .if_icmp .ge 16, 91, [104]), (91, .aload_n 2, 92, []), (92, .iinc 5 (-1), 95, []), (95, .iload 5, 97, []), (97, .getstatic 87, 100, [0, 5, 1183]), (100, .iload_n 0, 101, []), (101, .ineg, 102, []), (102, .baload, 103, []), (103, .bastore, 104, []), (104, .iload 6, 106, []), (106, .ifCond .eq 12, 109, [118]), (109, .aload_n 2, 110, []), (110, .iinc 5 (-1), 113, []), (113, .iload 5, 115, []), (115, .bipush 45, 117, []), (117, .bastore, 118, []), (118, .iload 5, 120, []), (120, .ireturn, 121, [])]
/-- java/lang/Integer.stringSize(I)I -/
def mm_c359 : List mm_I := [(0, .iconst 1, 1, []), (1, .istore_n 1, 2, []), (2, .iload_n 0, 3, []), (3, .ifCond .lt 8, 6, [11]), (6, .iconst 0, 7, []), (7, .istore_n 1, 8, []), (8, .iload_n 0, 9, []), (9, .ineg, 10, []), (10, .istore_n 0, 11, []), (11, .bipush (-10), 13, []), (13, .istore_n 2, 14, []), (14, .iconst 1, 15, []), (15, .istore_n 3, 16, []), (16, .iload_n 3, 17, []), (17, .bipush 10, 19, []), (19, .if_icmp .ge 23, 22, [42]), (22, .iload_n 0, 23, []), (23, .iload_n 2, 24, []), (24, .if_icmp .le 7, 27, [31]), (27, .iload_n 3, 28, []), (28, .iload_n 1, 29, []), (29, .iadd, 30, []), (30, .ireturn, 31, []), (31, .bipush 10, 33, []), (33, .iload_n 2, 34, []), (34, .imul, 35, []), (35, .istore_n 2, 36, []), (36, .iinc 3 1, 39, []), (39, .goto (-23), 42, [16]), (42, .bipush 10, 44, []), (44, .iload_n 1, 45, []), (45, .iadd, 46, []), (46, .ireturn, 47, [])]
/-- java/lang/Integer.bitCount(I)I -/
def mm_c360 : List mm_I := [(0, .iload_n 0, 1, []), (1, .iload_n 0, 2, []), (2, .iconst 1, 3, []), (3, .iushr, 4, []), (4, .ldc_w 265, 7, [0, 1431655765, 964]), (7, .iand, 8, []), (8, .isub, 9, []), (9, .istore_n 0, 10, []), (10, .iload_n 0, 11, []), (11, .ldc_w 266, 14, [0, 858993459, 965]), (14, .iand, 15, []), (15, .iload_n 0, 16, []), (16, .iconst 2, 17, []), (17, .iushr, 18, []), (18, .ldc_w 266, 21, [0, 858993459, 965]), (21, .iand, 22, []), (22, .iadd, 23, []), (23, .istore_n 0, 24, []), (24, .iload_n 0, 25, []), (25, .iload_n 0, 26, []), (26, .iconst 4, 27, []), (27, .iushr, 28, []), (28, .iadd, 29, []), (29, .ldc_w 267, 32, [0, 252645135, 966]), (32, .iand, 33, []), (33, .istore_n 0, 34, []), (34, .iload_n 0, 35, []), (35, .iload_n 0, 36, []), (36, .bipush 8, 38, []), (38, .iushr, 39, []), (39, .iadd, 40, []), (40, .istore_n 0, 41, []), (41, .iload_n 0, 42, []), (42, .iload_n 0, 43, []), (43, .bipush 16, 45, []), (45, .iushr, 46, []), (46, .iadd, 47, []), (47, .istore_n 0, 48, []), (48, .iload_n 0, 49, []), (49, .bipush 63, 51, []), (51, .iand, 52, []), (52, .ireturn, 53, [])]
/-- java/lang/String.<init>(Ljava/lang/StringBuilder;)V -/
def mm_c361 : List mm_I := [(0, .aload_n 0, 1, []), (1, .aload_n 1, 2, []), (2, .aconst_null, 3, []), (3, .invokespecial 489, 6, [2, 365, 3, 1202, 1203, 142]), (6, .return_, 7, [])]
/-- java/lang/String.length()I -/
def mm_c362 : List mm_I := [(0, .aload_n 0, 1, []), (1, .getfield 9, 4, [0, 0, 0, 1313]), (4, .arraylength, 5, []), (5, .aload_n 0, 6, []), (6, .invokevirtual 335, 9, [0, 366, 1, 0, 402, 403, 404, 142]), (9, .ishr, 10, []), (10, .ireturn, 11, [])]
/-- java/lang/String.charAt(I)C -/
def mm_c363 : List mm_I := [(0, .aload_n 0, 1, []), (1, .invokevirtual 492, 4, [0, 367, 1, 0, 414, 415, 416, 142]), (4, .ifCond .eq 12, 7, [16]), (7, .aload_n 0, 8, []), (8, .getfield 9, 11, [0, 0, 0, 1313]), (11, .iload_n 1, 12, []), (12, .invokestatic 495, 15, [1, 380, 2, 418, 419, 145]), (15, .ireturn, 16, []), (16, .aload_n 0, 17, []), (17, .getfield 9, 20, [0, 0, 0, 1313]), (20, .iload_n 1, 21, []), (21, .invokestatic 498, 24, [1, 396, 2, 429, 430, 143]), (24, .ireturn, 25, [])]
/-- java/lang/String.getBytes([BIB)V -/
def mm_c364 : List mm_I := [(0, .aload_n 0, 1, []), (1, .invokevirtual 335, 4, [0, 366, 1, 0, 402, 403, 404, 142]), (4, .iload_n 3, 5, []), (5, .if_icmp .ne 23, 8, [28]), (8, .aload_n 0, 9, []), (9, .getfield 9, 12, [0, 0, 0, 1313]), (12, .iconst 0, 13, []), (13, .aload_n 1, 14, []), (14, .iload_n 2, 15, []), (15, .iload_n 3, 16, []), (16, .ishl, 17, []), (17, .aload_n 0, 18, []), (18, .getfield 9, 21, [0, 0, 0, 1313]), (21, .arraylength, 22, []), (22, .invokestatic 212, 25, [10, 1166]), (25, .goto 18, 28, [43]), (28, .aload_n 0, 29, []), (29, .getfield 9, 32, [0, 0, 0, 1313]), (32, .iconst 0, 33, []), (33, .aload_n 1, 34, []), (34, .iload_n 2, 35, []), (35, .aload_n 0, 36, []), (36, .getfield 9, 39, [0, 0, 0, 1313]), (39, .arraylength, 40, []), (40, .invokestatic 106, 43, [1, 383, 5, 1167, 1148, 145]), (43, .return_, 44, [])]
/-- java/lang/String.<init>(Ljava/lang/AbstractStringBuilder;Ljava/lang/Void;)V -/
def mm_c365 : List mm_I := [(0, .aload_n 0, 1, []), (1, .invokespecial 1, 4, [9, 1205]), (4, .aload_n 1, 5, []), (5, .invokevirtual 552, 8, [3, 353, 1, 1, 1206, 1208, 1209, 1207, 140, 1, 2]), (8, .astore_n 3, 9, []), (9, .aload_n 1, 10, []), (13, .istore 4, 15, []), (15, .aload_n 1, 16, []), (16, .invokevirtual 1047, 19, [3, 354, 1, 1, 1219, 1115, 1116, 1114, 140, 1, 2]), (19, .ifCond .eq 22, 22, [41]), (22, .aload_n 0, 23, []), (23, .iconst 0, 24, []), (24, .putfield 15, 27, [0, 0, 1, 1314]), (27, .aload_n 0, 28, []), (28, .aload_n 3, 29, []), (29, .iconst 0, 30, []), (30, .iload 4, 32, []), (32, .invokestatic 54, 35, [1, 406, 3, 1220, 1221, 162]), (35, .putfield 9, 38, [0, 0, 0, 1313]), (38, .goto 59, 41, [97]), (41, .getstatic 38, 44, [0, 0, 406]), (44, .ifCond .eq 35, 47, [79]), (47, .aload_n 1, 48, []), (48, .getfield 1048, 51, [0, 1, 2, 381]), (51, .ifCond .eq 28, 54, [79]), (54, .aload_n 0, 55, []), (55, .aload_n 3, 56, []), (56, .iconst 0, 57, []), (57, .iload 4, 59, []), (59, .invokestatic 1051, 62, [1, 390, 3, 1303, 1304, 143]), (62, .putfield 9, 65, [0, 0, 0, 1313]), (65, .aload_n 0, 66, []), (66, .aload_n 0, 67, []), (67, .getfield 9, 70, [0, 0, 0, 1313]), (70, .iload 4, 72, []), (72, .invokestatic 47, 75, [1, 389, 2, 1310, 1311, 143]), (75, .putfield 15, 78, [0, 0, 1, 1314]), (78, .return_, 79, []), (79, .aload_n 0, 80, []), (80, .iconst 1, 81, []), (81, .putfield 15, 84, [0, 0, 1, 1314]), (84, .aload_n 0, 85, []), (85, .aload_n 3, 86, []), (86, .iconst 0, 87, []), (87, .iload 4, 89, []), (89, .iconst 1, 90, []), (90, .ishl, 91, []), (91, .invokestatic 54, 94, [1, 406, 3, 1220, 1221, 162]), (94, .putfield 9, 97, [0, 0, 0, 1313]), (97, .return_, 98, [])]
/-- java/lang/String.coder()B -/
def mm_c366 : List mm_I := [(0, .getstatic 38, 3, [0, 0, 406]), (3, .ifCond .eq 10, 6, [13]), (6, .aload_n 0, 7, []), (7, .getfield 15, 10, [0, 0, 1, 1314]), (10, .goto 4, 13, [14]), (13, .iconst 1, 14, []), (14, .ireturn, 15, [])]
/-- java/lang/String.isLatin1()Z -/
def mm_c367 : List mm_I := [(0, .getstatic 38, 3, [0, 0, 406]), (3, .ifCond .eq 14, 6, [17]), (6, .aload_n 0, 7, []), (7, .getfield 15, 10, [0, 0, 1, 1314]), (10, .ifCond .ne 7, 13, [17]), (13, .iconst 1, 14, []), (14, .goto 4, 17, [18]), (17, .iconst 0, 18, []), (18, .ireturn, 19, [])]
/-- java/lang/String.checkIndex(II)V -/
def mm_c368 : List mm_I := [(0, .iload_n 0, 1, []), (1, .iload_n 1, 2, []), (2, .getstatic 1053, 5, [0, 7, 424]), (5, .invokestatic 1059, 8, [1, 410, 3, 426, 427, 146]), (8, .pop, 9, []), (9, .return_, 10, [])]
/-- java/lang/String.checkBoundsOffCount(III)I -/
def mm_c369 : List mm_I := [(0, .iload_n 0, 1, []), (1, .iload_n 1, 2, []), (2, .iload_n 2, 3, []), (3, .getstatic 1053, 6, [0, 7, 424]), (6, .invokestatic 1065, 9, [1, 412, 4, 1159, 1160, 146]), (9, .ireturn, 10, [])]
/-- java/lang/String.checkBoundsBeginEnd(III)V -/
def mm_c370 : List mm_I := [(0, .iload_n 0, 1, []), (1, .iload_n 1, 2, []), (2, .iload_n 2, 3, []), (3, .getstatic 1053, 6, [0, 7, 424]), (6, .invokestatic 1062, 9, [1, 411, 4, 1127, 1128, 146]), (9, .pop, 10, []), (10, .return_, 11, [])]
/-- java/lang/StringBuilder.<init>()V -/
def mm_c371 : List mm_I := [(0, .aload_n 0, 1, []), (1, .bipush 16, 3, []), (3, .invokespecial 1, 6, [2, 342, 2, 365, 366, 140]), (6, .return_, 7, [])]
/-- java/lang/StringBuilder.append(Ljava/lang/String;)Ljava/lang/StringBuilder; -/
def mm_c372 : List mm_I := [(0, .aload_n 0, 1, []), (1, .aload_n 1, 2, []), (2, .invokespecial 29, 5, [4, 349, 2, 1, 1077, 2501, 391, 1078, 140]), (5, .pop, 6, []), (6, .aload_n 0, 7, []), (7, .areturn, 8, [])]
/-- java/lang/StringBuilder.append(C)Ljava/lang/StringBuilder; -/
def mm_c373 : List mm_I := [(0, .aload_n 0, 1, []), (1, .iload_n 1, 2, []), (2, .invokespecial 50, 5, [4, 351, 2, 1, 1400, 2510, 391, 1401, 140]), (5, .pop, 6, []), (6, .aload_n 0, 7, []), (7, .areturn, 8, [])]
/-- java/lang/StringBuilder.append(I)Ljava/lang/StringBuilder; -/
def mm_c374 : List mm_I := [(0, .aload_n 0, 1, []), (1, .iload_n 1, 2, []), (2, .invokespecial 53, 5, [4, 352, 2, 1, 1172, 2508, 391, 1173, 140]), (5, .pop, 6, []), (6, .aload_n 0, 7, []), (7, .areturn, 8, [])]
/-- java/lang/StringBuilder.toString()Ljava/lang/String; -/
def mm_c375 : List mm_I := [(3, .dup, 4, []), (4, .aload_n 0, 5, []), (5, .invokespecial 137, 8, [2, 361, 2, 1199, 1200, 142]), (8, .areturn, 9, [])]
/-- java/lang/StringBuilder.charAt(I)C -/
def mm_c376 : List mm_I := [(0, .aload_n 0, 1, []), (1, .iload_n 1, 2, []), (2, .invokespecial 329, 5, [4, 348, 2, 1, 1425, 2512, 391, 1426, 140]), (5, .ireturn, 6, [])]
/-- java/lang/StringBuilder.setLength(I)V -/
def mm_c377 : List mm_I := [(0, .aload_n 0, 1, []), (1, .iload_n 1, 2, []), (2, .invokespecial 333, 5, [4, 347, 2, 1, 1062, 2500, 391, 1063, 140]), (5, .return_, 6, [])]
/-- java/lang/StringBuilder.length()I -/
def mm_c378 : List mm_I := [(0, .aload_n 0, 1, []), (1, .invokespecial 343, 4, [4, 343, 1, 1, 1217, 1213, 391, 1212, 140]), (4, .ireturn, 5, [])]
/-- java/lang/StringIndexOutOfBoundsException.<init>(I)V -/
def mm_c379 : List mm_I := [(0, .aload_n 0, 1, []), (1, .new 10, 4, [0, 1, 1070, 361, 141]), (4, .dup, 5, []), (5, .invokespecial 12, 8, [2, 371, 1, 1071, 363, 141]), (10, .invokevirtual 15, 13, [0, 372, 2, 1, 1073, 1074, 1075, 141]), (13, .iload_n 1, 14, []), (14, .invokevirtual 19, 17, [0, 374, 2, 1, 1168, 1169, 1170, 141]), (17, .invokevirtual 22, 20, [0, 375, 1, 1, 1193, 1194, 1195, 141]), (23, .return_, 24, [])]
/-- java/lang/StringLatin1.charAt([BI)C -/
def mm_c380 : List mm_I := [(0, .iload_n 1, 1, []), (1, .aload_n 0, 2, []), (2, .arraylength, 3, []), (3, .invokestatic 9, 6, [1, 368, 2, 421, 422, 142]), (6, .aload_n 0, 7, []), (7, .iload_n 1, 8, []), (8, .baload, 9, []), (9, .sipush 255, 12, []), (12, .iand, 13, []), (13, .i2c, 14, []), (14, .ireturn, 15, [])]
/-- java/lang/StringLatin1.canEncode(C)Z -/
def mm_c381 : List mm_I := [(0, .iload_n 0, 1, []), (1, .sipush 255, 4, []), (4, .if_icmp .gt 7, 7, [11]), (7, .iconst 1, 8, []), (8, .goto 4, 11, [12]), (11, .iconst 0, 12, []), (12, .ireturn, 13, [])]
/-- java/lang/StringLatin1.fillNull([BII)V -/
def mm_c382 : List mm_I := [(0, .aload_n 0, 1, []), (1, .iload_n 1, 2, []), (2, .iload_n 2, 3, []), (3, .iconst 0, 4, []), (4, .invokestatic 236, 7, [1, 403, 4, 1338, 1339, 162]), (7, .return_, 8, [])]
/-- java/lang/StringLatin1.inflate([BI[BII)V -/
def mm_c383 : List mm_I := [(0, .aload_n 0, 1, []), (1, .iload_n 1, 2, []), (2, .aload_n 2, 3, []), (3, .iload_n 3, 4, []), (4, .iload 4, 6, []), (6, .invokestatic 240, 9, [1, 397, 5, 1150, 1151, 143]), (9, .return_, 10, [])]
/-- java/lang/StringUTF16.newBytesFor(I)[B -/
def mm_c384 : List mm_I := [(0, .iload_n 0, 1, []), (1, .invokestatic 11, 4, [1, 385, 1, 374, 375, 143]), (4, .newarray .byte, 6, [2]), (6, .areturn, 7, [])]
/-- java/lang/StringUTF16.newBytesLength(I)I -/
def mm_c385 : List mm_I := [(0, .iload_n 0, 1, []), (1, .ifCond .ge 11, 4, [12]), (7, .dup, 8, []), (11, .athrow, 12, []), (12, .iload_n 0, 13, []), (13, .ldc 20, 15, [0, 1073741823, 377]), (15, .if_icmp .lt 40, 18, [55]), (21, .dup, 22, []), (25, .dup, 26, []), (34, .iload_n 0, 35, []), (43, .ldc 20, 45, [0, 1073741823, 377]), (54, .athrow, 55, []), (55, .iload_n 0, 56, []), (56, .iconst 1, 57, []), (57, .ishl, 58, []), (58, .ireturn, 59, [])]
/-- java/lang/StringUTF16.putChar([BII)V -/
def mm_c386 : List mm_I := [(0, .getstatic 44, 3, [0, 1, 442]), (3, .ifCond .ne 25, 6, [28]), (6, .iload_n 1, 7, []), (7, .ifCond .lt 11, 10, [18]), (10, .iload_n 1, 11, []), (11, .aload_n 0, 12, []), (12, .invokestatic 48, 15, [1, 388, 1, 435, 436, 143]), (15, .if_icmp .lt 13, 18, [28]), (21, .dup, 22, []), (27, .athrow, 28, []), (28, .iload_n 1, 29, []), (29, .iconst 1, 30, []), (30, .ishl, 31, []), (31, .istore_n 1, 32, []), (32, .aload_n 0, 33, []), (33, .iload_n 1, 34, []), (34, .iinc 1 1, 37, []), (37, .iload_n 2, 38, []), (38, .getstatic 59, 41, [0, 2, 444]), (41, .ishr, 42, []), (42, .i2b, 43, []), (43, .bastore, 44, []), (44, .aload_n 0, 45, []), (45, .iload_n 1, 46, []), (46, .iload_n 2, 47, []), (47, .getstatic 63, 50, [0, 3, 446]), (50, .ishr, 51, []), (51, .i2b, 52, []), (52, .bastore, 53, []), (53, .return_, 54, [])]
/-- java/lang/StringUTF16.getChar([BI)C -/
def mm_c387 : List mm_I := [(0, .getstatic 44, 3, [0, 1, 442]), (3, .ifCond .ne 25, 6, [28]), (6, .iload_n 1, 7, []), (7, .ifCond .lt 11, 10, [18]), (10, .iload_n 1, 11, []), (11, .aload_n 0, 12, []), (12, .invokestatic 48, 15, [1, 388, 1, 435, 436, 143]), (15, .if_icmp .lt 13, 18, [28]), (21, .dup, 22, []), (27, .athrow, 28, []), (28, .iload_n 1, 29, []), (29, .iconst 1, 30, []), (30, .ishl, 31, []), (31, .istore_n 1, 32, []), (32, .aload_n 0, 33, []), (33, .iload_n 1, 34, []), (34, .iinc 1 1, 37, []), (37, .baload, 38, []), (38, .sipush 255, 41, []), (41, .iand, 42, []), (42, .getstatic 59, 45, [0, 2, 444]), (45, .ishl, 46, []), (46, .aload_n 0, 47, []), (47, .iload_n 1, 48, []), (48, .baload, 49, []), (49, .sipush 255, 52, []), (52, .iand, 53, []), (53, .getstatic 63, 56, [0, 3, 446]), (56, .ishl, 57, []), (57, .ior, 58, []), (58, .i2c, 59, []), (59, .ireturn, 60, [])]
/-- java/lang/StringUTF16.length([B)I -/
def mm_c388 : List mm_I := [(0, .aload_n 0, 1, []), (1, .arraylength, 2, []), (2, .iconst 1, 3, []), (3, .ishr, 4, []), (4, .ireturn, 5, [])]
/-- java/lang/StringUTF16.coderFromArrayLen([BI)B -/
def mm_c389 : List mm_I := [(0, .iload_n 1, 1, []), (1, .aload_n 0, 2, []), (2, .arraylength, 3, []), (3, .isub, 4, []), (4, .bipush 31, 6, []), (6, .iushr, 7, []), (7, .i2b, 8, []), (8, .ireturn, 9, [])]
/-- java/lang/StringUTF16.compress([BII)[B -/
def mm_c390 : List mm_I := [(0, .iload_n 2, 1, []), (1, .newarray .byte, 3, [2]), (3, .astore_n 3, 4, []), (4, .aload_n 0, 5, []), (5, .iload_n 1, 6, []), (6, .aload_n 3, 7, []), (7, .iconst 0, 8, []), (8, .iload_n 2, 9, []), (9, .invokestatic 123, 12, [1, 391, 5, 1306, 1307, 143]), (12, .istore 4, 14, []), (14, .iload 4, 16, []), (16, .iload_n 2, 17, []), (17, .if_icmp .eq 47, 20, [64]), (20, .aload_n 0, 21, []), (21, .iload_n 1, 22, []), (22, .iconst 1, 23, []), (23, .ishl, 24, []), (24, .iload_n 1, 25, []), (25, .iload_n 2, 26, []), (26, .iadd, 27, []), (27, .invokestatic 11, 30, [1, 385, 1, 374, 375, 143]), (30, .invokestatic 126, 33, [1, 406, 3, 1309, 1221, 162]), (33, .astore 5, 35, []), (35, .aload 5, 37, []), (37, .iload 4, 39, []), (39, .invokestatic 71, 42, [1, 387, 2, 439, 440, 143]), (42, .sipush 255, 45, []), (45, .if_icmp .gt 16, 48, [61]), (48, .aload 5, 50, []), (50, .iconst 0, 51, []), (51, .aload_n 3, 52, []), (52, .iconst 0, 53, []), (53, .iload_n 2, 54, []), (54, .invokestatic 123, 57, [1, 391, 5, 1306, 1307, 143]), (57, .iload_n 2, 58, []), (58, .if_icmp .eq 6, 61, [64]), (61, .aload 5, 63, []), (63, .areturn, 64, []), (64, .aload_n 3, 65, []), (65, .areturn, 66, [])]
/-- java/lang/StringUTF16.compress([BI[BII)I -/
def mm_c391 : List mm_I := [(0, .iload_n 1, 1, []), (1, .iload 4, 3, []), (3, .aload_n 0, 4, []), (4, .invokestatic 173, 7, [1, 401, 3, 1153, 1154, 143]), (7, .iconst 0, 8, []), (8, .istore 5, 10, []), (10, .iload 5, 12, []), (12, .iload 4, 14, []), (14, .if_icmp .ge 39, 17, [53]), (17, .aload_n 0, 18, []), (18, .iload_n 1, 19, []), (19, .invokestatic 71, 22, [1, 387, 2, 439, 440, 143]), (22, .istore 6, 24, []), (24, .iload 6, 26, []), (26, .sipush 255, 29, []), (29, .if_icmp .le 6, 32, [35]), (32, .iload 5, 34, []), (34, .ireturn, 35, []), (35, .aload_n 2, 36, []), (36, .iload_n 3, 37, []), (37, .iload 6, 39, []), (39, .i2b, 40, []), (40, .bastore, 41, []), (41, .iinc 1 1, 44, []), (44, .iinc 3 1, 47, []), (47, .iinc 5 1, 50, []), (50, .goto (-40), 53, [10]), (53, .iload 4, 55, []), (55, .ireturn, 56, [])]
/-- java/lang/StringUTF16.fillNull([BII)V -/
def mm_c392 : List mm_I := [(0, .aload_n 0, 1, []), (1, .iload_n 1, 2, []), (2, .iconst 1, 3, []), (3, .ishl, 4, []), (4, .iload_n 2, 5, []), (5, .iconst 1, 6, []), (6, .ishl, 7, []), (7, .iconst 0, 8, []), (8, .invokestatic 380, 11, [1, 403, 4, 1373, 1339, 162]), (11, .return_, 12, [])]
/-- java/lang/StringUTF16.putCharSB([BII)V -/
def mm_c393 : List mm_I := [(0, .iload_n 1, 1, []), (1, .aload_n 0, 2, []), (2, .invokestatic 67, 5, [1, 399, 2, 432, 433, 143]), (5, .aload_n 0, 6, []), (6, .iload_n 1, 7, []), (7, .iload_n 2, 8, []), (8, .invokestatic 111, 11, [1, 386, 3, 1130, 1131, 143]), (11, .return_, 12, [])]
/-- java/lang/StringUTF16.getChars(III[B)I -/
def mm_c394 : List mm_I := [(0, .iload_n 1, 1, []), (1, .iload_n 2, 2, []), (2, .aload_n 3, 3, []), (3, .invokestatic 96, 6, [1, 400, 3, 1121, 1122, 143]), (6, .iload_n 0, 7, []), (7, .iload_n 2, 8, []), (8, .aload_n 3, 9, []), (9, .invokestatic 393, 12, [1, 398, 3, 1188, 1189, 143]), (12, .istore 4, 14, []), (14, .getstatic 44, 17, [0, 1, 442]), (17, .ifCond .ne 17, 20, [34]), (20, .iload_n 1, 21, []), (21, .iload 4, 23, []), (23, .if_icmp .eq 11, 26, [34]), (29, .dup, 30, []), (33, .athrow, 34, []), (34, .iload 4, 36, []), (36, .ireturn, 37, [])]
/-- java/lang/StringUTF16.putCharsAt([BICCCC)I -/
def mm_c395 : List mm_I := [(0, .iload_n 1, 1, []), (1, .iconst 4, 2, []), (2, .iadd, 3, []), (3, .istore 6, 5, []), (5, .iload_n 1, 6, []), (6, .iload 6, 8, []), (8, .aload_n 0, 9, []), (9, .invokestatic 96, 12, [1, 400, 3, 1121, 1122, 143]), (12, .aload_n 0, 13, []), (13, .iload_n 1, 14, []), (14, .iinc 1 1, 17, []), (17, .iload_n 2, 18, []), (18, .invokestatic 111, 21, [1, 386, 3, 1130, 1131, 143]), (21, .aload_n 0, 22, []), (22, .iload_n 1, 23, []), (23, .iinc 1 1, 26, []), (26, .iload_n 3, 27, []), (27, .invokestatic 111, 30, [1, 386, 3, 1130, 1131, 143]), (30, .aload_n 0, 31, []), (31, .iload_n 1, 32, []), (32, .iinc 1 1, 35, []), (35, .iload 4, 37, []), (37, .invokestatic 111, 40, [1, 386, 3, 1130, 1131, 143]), (40, .aload_n 0, 41, []), (41, .iload_n 1, 42, []), (42, .iinc 1 1, 45, []), (45, .iload 5, 47, []), (47, .invokestatic 111, 50, [1, 386, 3, 1130, 1131, 143]), (50, .getstatic 44, 53, [0, 1, 442]), (53, .ifCond .ne 17, 56, [70]), (56, .iload_n 1, 57, []), (57, .iload 6, 59, []), (59, .if_icmp .eq 11, 62, [70]), (65, .dup, 66, []), (69, .athrow, 70, []), (70, .iload 6, 72, []), (72, .ireturn, 73, [])]
/-- java/lang/StringUTF16.charAt([BI)C -/
def mm_c396 : List mm_I := [(0, .iload_n 1, 1, []), (1, .aload_n 0, 2, []), (2, .invokestatic 67, 5, [1, 399, 2, 432, 433, 143]), (5, .aload_n 0, 6, []), (6, .iload_n 1, 7, []), (7, .invokestatic 71, 10, [1, 387, 2, 439, 440, 143]), (10, .ireturn, 11, [])]
/-- java/lang/StringUTF16.inflate([BI[BII)V -/
def mm_c397 : List mm_I := [(0, .iload_n 3, 1, []), (1, .iload 4, 3, []), (3, .aload_n 2, 4, []), (4, .invokestatic 173, 7, [1, 401, 3, 1153, 1154, 143]), (7, .iconst 0, 8, []), (8, .istore 5, 10, []), (10, .iload 5, 12, []), (12, .iload 4, 14, []), (14, .if_icmp .ge 27, 17, [41]), (17, .aload_n 2, 18, []), (18, .iload_n 3, 19, []), (19, .iinc 3 1, 22, []), (22, .aload_n 0, 23, []), (23, .iload_n 1, 24, []), (24, .iinc 1 1, 27, []), (27, .baload, 28, []), (28, .sipush 255, 31, []), (31, .iand, 32, []), (32, .invokestatic 111, 35, [1, 386, 3, 1130, 1131, 143]), (35, .iinc 5 1, 38, []), (38, .goto (-28), 41, [10]), (41, .return_, 42, [])]
/-- java/lang/StringUTF16.getChars(II[B)I -/
def mm_c398 : List mm_I := [(0, .iload_n 1, 1, []), (1, .istore 5, 3, []), (3, .iload_n 0, 4, []), (4, .ifCond .ge 7, 7, [11]), (7, .iconst 1, 8, []), (8, .goto 4, 11, [12]), (11, .iconst 0, 12, []), (12, .istore 6, 14, []), (14, .iload 6, 16, []), (16, .ifCond .ne 6, 19, [22]), (19, .iload_n 0, 20, []), (20, .ineg, 21, []), (21, .istore_n 0, 22, []), (22, .iload_n 0, 23, []), (23, .bipush (-100), 25, []), (25, .if_icmp .gt 51, 28, [76]), (28, .iload_n 0, 29, []), (29, .bipush 100, 31, []), (31, .idiv, 32, []), (32, .istore_n 3, 33, []), (33, .iload_n 3, 34, []), (34, .bipush 100, 36, []), (36, .imul, 37, []), (37, .iload_n 0, 38, []), (38, .isub, 39, []), (39, .istore 4, 41, []), (41, .iload_n 3, 42, []), (42, .istore_n 0, 43, []), (43, .aload_n 2, 44, []), (44, .iinc 5 (-1), 47, []), (47, .iload 5, 49, []), (49, .getstatic 403, 52, [0, 6, 1191]), (52, .iload 4, 54, []), (54, .baload, 55, []), (55, .invokestatic 111, 58, [1, 386, 3, 1130, 1131, 143]), (58, .aload_n 2, 59, []), (59, .iinc 5 (-1), 62, []), (62, .iload 5, 64, []), (64, .getstatic 407, 67, [0, 5, 1192]), (67, .iload 4, 69, []), (69, .baload, 70, []), (70, .invokestatic 111, 73, [1, 386, 3, 1130, 1131, 143]), (73, .goto (-51), 76, [22]), (76, .aload_n 2, 77, []), (77, .iinc 5 (-1), 80, []), (80, .iload 5, 82, []), (82, .getstatic 403, 85, [0, 6, 1191]), (85, .iload_n 0, 86, []), (86, .ineg, 87, []), (87, .baload, 88, []), (88, .invokestatic 111, 91, [1, 386, 3, 1130, 1131, 143]), (91, .iload_n 0, 92, []), (92, .bipush (-9), 94, []), (94, .if_icmp .ge 18, 97, [112]), (97, .aload_n 2, 98, []), (98, .iinc 5 (-1), 101, []), (101, .iload 5, 103, []), (103, .getstatic 407, 106, [0, 5, 1192]), (106, .iload_n 0, 107, []), (107, .ineg, 108, []), (108, .baload, 109, []), (109, .invokestatic 111, 112, [1, 386, 3, 1130, 1131, 143]), (112, .iload 6, 114, []), (114, .ifCond .eq 14, 117, [128]), (117, .aload_n 2, 118, []), (118, .iinc 5 (-1), 121, []), (121, .iload 5, 123, []), (123, .bipush 45, 125, []), (125, .invokestatic 111, 128, [1, 386, 3, 1130, 1131, 143]), (128, .iload 5, 130, []), (130, .ireturn, 131, [])]
/-- java/lang/StringUTF16.checkIndex(I[B)V -/
def mm_c399 : List mm_I := [(0, .iload_n 0, 1, []), (1, .aload_n 1, 2, []), (2, .invokestatic 48, 5, [1, 388, 1, 435, 436, 143]), (5, .invokestatic 414, 8, [1, 368, 2, 438, 422, 142]), (8, .return_, 9, [])]
/-- java/lang/StringUTF16.checkBoundsBeginEnd(II[B)V -/
def mm_c400 : List mm_I := [(0, .iload_n 0, 1, []), (1, .iload_n 1, 2, []), (2, .aload_n 2, 3, []), (3, .invokestatic 48, 6, [1, 388, 1, 435, 436, 143]), (6, .invokestatic 241, 9, [1, 370, 3, 1124, 1125, 142]), (9, .return_, 10, [])]
/-- java/lang/StringUTF16.checkBoundsOffCount(II[B)V -/
def mm_c401 : List mm_I := [(0, .iload_n 0, 1, []), (1, .iload_n 1, 2, []), (2, .aload_n 2, 3, []), (3, .invokestatic 48, 6, [1, 388, 1, 435, 436, 143]), (6, .invokestatic 419, 9, [1, 369, 3, 1156, 1157, 142]), (9, .pop, 10, []), (10, .return_, 11, [])]
/-- java/util/Arrays.rangeCheck(III)V -/
def mm_c402 : List mm_I := [(0, .iload_n 1, 1, []), (1, .iload_n 2, 2, []), (2, .if_icmp .le 44, 5, [46]), (8, .dup, 9, []), (9, .new 45, 12, [0, 1, 1272, 361, 141]), (12, .dup, 13, []), (13, .invokespecial 47, 16, [2, 371, 1, 1273, 363, 141]), (18, .invokevirtual 50, 21, [0, 372, 2, 1, 1276, 1074, 1075, 141]), (21, .iload_n 1, 22, []), (22, .invokevirtual 54, 25, [0, 374, 2, 1, 1274, 1169, 1170, 141]), (27, .invokevirtual 50, 30, [0, 372, 2, 1, 1276, 1074, 1075, 141]), (30, .iload_n 2, 31, []), (31, .invokevirtual 54, 34, [0, 374, 2, 1, 1274, 1169, 1170, 141]), (34, .ldc 59, 36, [1, 34, 1346]), (36, .invokevirtual 50, 39, [0, 372, 2, 1, 1276, 1074, 1075, 141]), (39, .invokevirtual 61, 42, [0, 375, 1, 1, 1277, 1194, 1195, 141]), (45, .athrow, 46, []), (46, .iload_n 1, 47, []), (47, .ifCond .ge 12, 50, [59]), (53, .dup, 54, []), (54, .iload_n 1, 55, []), (55, .invokespecial 70, 58, [2, 357, 2, 1358, 1359, 163]), (58, .athrow, 59, []), (59, .iload_n 2, 60, []), (60, .iload_n 0, 61, []), (61, .if_icmp .le 12, 64, [73]), (67, .dup, 68, []), (68, .iload_n 2, 69, []), (69, .invokespecial 70, 72, [2, 357, 2, 1358, 1359, 163]), (72, .athrow, 73, []), (73, .return_, 74, [])]
/-- java/util/Arrays.fill([BIIB)V -/
def mm_c403 : List mm_I := [(0, .aload_n 0, 1, []), (1, .arraylength, 2, []), (2, .iload_n 1, 3, []), (3, .iload_n 2, 4, []), (4, .invokestatic 13, 7, [1, 402, 3, 1341, 1342, 162]), (7, .iload_n 1, 8, []), (8, .istore 4, 10, []), (10, .iload 4, 12, []), (12, .iload_n 2, 13, []), (13, .if_icmp .ge 14, 16, [27]), (16, .aload_n 0, 17, []), (17, .iload 4, 19, []), (19, .iload_n 3, 20, []), (20, .bastore, 21, []), (21, .iinc 4 1, 24, []), (24, .goto (-14), 27, [10]), (27, .return_, 28, [])]
/-- java/util/Arrays.copyOf([BI)[B -/
def mm_c404 : List mm_I := [(0, .iload_n 1, 1, []), (1, .aload_n 0, 2, []), (2, .arraylength, 3, []), (3, .if_icmp .ne 11, 6, [14]), (6, .aload_n 0, 7, []), (10, .checkcast 311, 13, []), (13, .areturn, 14, []), (14, .iload_n 1, 15, []), (15, .newarray .byte, 17, [2]), (17, .astore_n 2, 18, []), (18, .aload_n 0, 19, []), (19, .iconst 0, 20, []), (20, .aload_n 2, 21, []), (21, .iconst 0, 22, []), (22, .aload_n 0, 23, []), (23, .arraylength, 24, []), (24, .iload_n 1, 25, []), (25, .invokestatic 304, 28, [12, 1111]), (28, .invokestatic 150, 31, [10, 1112]), (31, .aload_n 2, 32, []), (32, .areturn, 33, [])]
/-- java/util/Arrays.checkLength(II)V -/
def mm_c405 : List mm_I := [(0, .iload_n 1, 1, []), (1, .iload_n 0, 2, []), (2, .if_icmp .ge 35, 5, [37]), (8, .dup, 9, []), (9, .new 45, 12, [0, 1, 1272, 361, 141]), (12, .dup, 13, []), (13, .invokespecial 47, 16, [2, 371, 1, 1273, 363, 141]), (16, .iload_n 0, 17, []), (17, .invokevirtual 54, 20, [0, 374, 2, 1, 1274, 1169, 1170, 141]), (23, .invokevirtual 50, 26, [0, 372, 2, 1, 1276, 1074, 1075, 141]), (26, .iload_n 1, 27, []), (27, .invokevirtual 54, 30, [0, 374, 2, 1, 1274, 1169, 1170, 141]), (30, .invokevirtual 61, 33, [0, 375, 1, 1, 1277, 1194, 1195, 141]), (36, .athrow, 37, []), (37, .return_, 38, [])]
/-- java/util/Arrays.copyOfRange([BII)[B -/
def mm_c406 : List mm_I := [(0, .iload_n 1, 1, []), (1, .ifCond .ne 9, 4, [10]), (4, .iload_n 2, 5, []), (5, .aload_n 0, 6, []), (6, .arraylength, 7, []), (7, .if_icmp .eq 10, 10, [17]), (10, .aload_n 0, 11, []), (11, .iload_n 1, 12, []), (12, .iload_n 2, 13, []), (13, .invokestatic 339, 16, [1, 407, 3, 1223, 1224, 162]), (16, .areturn, 17, []), (17, .aload_n 0, 18, []), (21, .checkcast 311, 24, []), (24, .areturn, 25, [])]
/-- java/util/Arrays.copyOfRangeByte([BII)[B -/
def mm_c407 : List mm_I := [(0, .iload_n 1, 1, []), (1, .iload_n 2, 2, []), (2, .invokestatic 343, 5, [1, 405, 2, 1226, 1227, 162]), (5, .iload_n 2, 6, []), (6, .iload_n 1, 7, []), (7, .isub, 8, []), (8, .istore_n 3, 9, []), (9, .iload_n 3, 10, []), (10, .newarray .byte, 12, [2]), (12, .astore 4, 14, []), (14, .aload_n 0, 15, []), (15, .iload_n 1, 16, []), (16, .aload 4, 18, []), (18, .iconst 0, 19, []), (19, .aload_n 0, 20, []), (20, .arraylength, 21, []), (21, .iload_n 1, 22, []), (22, .isub, 23, []), (23, .iload_n 3, 24, []), (24, .invokestatic 304, 27, [12, 1111]), (27, .invokestatic 150, 30, [10, 1112]), (30, .aload 4, 32, []), (32, .areturn, 33, [])]
/-- jdk/internal/util/ArraysSupport.newLength(III)I -/
def mm_c408 : List mm_I := [(0, .iload_n 0, 1, []), (1, .iload_n 1, 2, []), (2, .iload_n 2, 3, []), (3, .invokestatic 194, 6, [11, 1095]), (6, .iadd, 7, []), (7, .istore_n 3, 8, []), (8, .iconst 0, 9, []), (9, .iload_n 3, 10, []), (10, .if_icmp .ge 11, 13, [21]), (13, .iload_n 3, 14, []), (14, .ldc 200, 16, [0, 2147483639, 1096]), (16, .if_icmp .gt 5, 19, [21]), (19, .iload_n 3, 20, []), (20, .ireturn, 21, []), (21, .iload_n 0, 22, []), (22, .iload_n 1, 23, []), (23, .invokestatic 201, 26, [1, 409, 2, 1097, 1098, 161]), (26, .ireturn, 27, [])]
/-- jdk/internal/util/ArraysSupport.hugeLength(II)I -/
def mm_c409 : List mm_I := [(0, .iload_n 0, 1, []), (1, .iload_n 1, 2, []), (2, .iadd, 3, []), (3, .istore_n 2, 4, []), (4, .iload_n 2, 5, []), (5, .ifCond .ge 44, 8, [49]), (11, .dup, 12, []), (15, .dup, 16, []), (24, .iload_n 0, 25, []), (33, .iload_n 1, 34, []), (48, .athrow, 49, []), (49, .iload_n 2, 50, []), (50, .ldc 200, 52, [0, 2147483639, 1096]), (52, .if_icmp .gt 6, 55, [58]), (55, .ldc 200, 57, [0, 2147483639, 1096]), (57, .ireturn, 58, []), (58, .iload_n 2, 59, []), (59, .ireturn, 60, [])]
/-- jdk/internal/util/Preconditions.checkIndex(IILjava/util/function/BiFunction;)I -/
def mm_c410 : List mm_I := [(0, .iload_n 0, 1, []), (1, .ifCond .lt 8, 4, [9]), (4, .iload_n 0, 5, []), (5, .iload_n 1, 6, []), (6, .if_icmp .lt 10, 9, [16]), (9, .aload_n 2, 10, []), (10, .iload_n 0, 11, []), (11, .iload_n 1, 12, []), (15, .athrow, 16, []), (16, .iload_n 0, 17, []), (17, .ireturn, 18, [])]
/-- jdk/internal/util/Preconditions.checkFromToIndex(IIILjava/util/function/BiFunction;)I -/
def mm_c411 : List mm_I := [(0, .iload_n 0, 1, []), (1, .ifCond .lt 13, 4, [14]), (4, .iload_n 0, 5, []), (5, .iload_n 1, 6, []), (6, .if_icmp .gt 8, 9, [14]), (9, .iload_n 1, 10, []), (10, .iload_n 2, 11, []), (11, .if_icmp .le 11, 14, [22]), (14, .aload_n 3, 15, []), (15, .iload_n 0, 16, []), (16, .iload_n 1, 17, []), (17, .iload_n 2, 18, []), (21, .athrow, 22, []), (22, .iload_n 0, 23, []), (23, .ireturn, 24, [])]
/-- jdk/internal/util/Preconditions.checkFromIndexSize(IIILjava/util/function/BiFunction;)I -/
def mm_c412 : List mm_I := [(0, .iload_n 2, 1, []), (1, .iload_n 0, 2, []), (2, .ior, 3, []), (3, .iload_n 1, 4, []), (4, .ior, 5, []), (5, .ifCond .lt 10, 8, [15]), (8, .iload_n 1, 9, []), (9, .iload_n 2, 10, []), (10, .iload_n 0, 11, []), (11, .isub, 12, []), (12, .if_icmp .le 11, 15, [23]), (15, .aload_n 3, 16, []), (16, .iload_n 0, 17, []), (17, .iload_n 1, 18, []), (18, .iload_n 2, 19, []), (22, .athrow, 23, []), (23, .iload_n 0, 24, []), (24, .ireturn, 25, [])]
def mm_ms : List mm_M := [(mm_c0, 5, 0, []), (mm_c1, 4, 5, []), (mm_c2, 2, 2, []), (mm_c3, 3, 0, []), (mm_c4, 3, 0, []), (mm_c5, 3, 0, []), (mm_c6, 3, 0, []), (mm_c7, 1, 0, []), (mm_c8, 1, 0, []), (mm_c9, 3, 0, []), (mm_c10, 2, 0, []), (mm_c11, 7, 1, []), (mm_c12, 4, 1, []), (mm_c13, 7, 0, []), (mm_c14, 4, 0, []), (mm_c15, 3, 0, []), (mm_c16, 2, 0, []), (mm_c17, 7, 0, []), (mm_c18, 6, 2, []), (mm_c19, 1, 0, []), (mm_c20, 3, 0, []), (mm_c21, 2, 0, []), (mm_c22, 1, 2, []), (mm_c23, 3, 0, []), (mm_c24, 3, 0, []), (mm_c25, 1, 0, []), (mm_c26, 4, 0, []), (mm_c27, 2, 0, []), (mm_c28, 1, 1, []), (mm_c29, 4, 1, []), (mm_c30, 3, 2, []), (mm_c31, 4, 1, []), (mm_c32, 5, 1, []), (mm_c33, 5, 1, []), (mm_c34, 5, 1, []), (mm_c35, 5, 1, []), (mm_c36, 4, 1, []), (mm_c37, 4, 1, []), (mm_c38, 5, 1, []), (mm_c39, 3, 1, []), (mm_c40, 5, 1, []), (mm_c41, 8, 1, []), (mm_c42, 1, 0, []), (mm_c43, 2, 0, []), (mm_c44, 2, 0, []), (mm_c45, 5, 0, []), (mm_c46, 3, 1, []), (mm_c47, 3, 0, []), (mm_c48, 2, 0, []), (mm_c49, 1, 2, []), (mm_c50, 2, 0, []), (mm_c51, 3, 1, []), (mm_c52, 4, 1, []), (mm_c53, 4, 0, []), (mm_c54, 1, 0, []), (mm_c55, 4, 0, []), (mm_c56, 2, 5, []), (mm_c57, 4, 0, []), (mm_c58, 3, 5, []), (mm_c59, 3, 0, []), (mm_c60, 3, 0, []), (mm_c61, 1, 0, []), (mm_c62, 1, 0, []), (mm_c63, 3, 0, []), (mm_c64, 3, 0, []), (mm_c65, 3, 0, []), (mm_c66, 1, 2, []), (mm_c67, 4, 1, []), (mm_c68, 3, 1, []), (mm_c69, 4, 1, []), (mm_c70, 4, 2, []), (mm_c71, 2, 2, []), (mm_c72, 2, 1, []), (mm_c73, 4, 0, []), (mm_c74, 1, 0, []), (mm_c75, 3, 0, []), (mm_c76, 1, 2, []), (mm_c77, 2, 2, []), (mm_c78, 1, 2, []), (mm_c79, 2, 0, []), (mm_c80, 2, 2, []), (mm_c81, 1, 0, []), (mm_c82, 2, 0, []), (mm_c83, 3, 1, []), (mm_c84, 3, 1, []), (mm_c85, 5, 1, []), (mm_c86, 2, 0, []), (mm_c87, 2, 0, []), (mm_c88, 2, 0, []), (mm_c89, 1, 1, []), (mm_c90, 3, 1, []), (mm_c91, 3, 1, []), (mm_c92, 3, 0, []), (mm_c93, 5, 1, []), (mm_c94, 4, 1, []), (mm_c95, 4, 2, []), (mm_c96, 5, 0, []), (mm_c97, 3, 0, []), (mm_c98, 6, 1, []), (mm_c99, 2, 1, []), (mm_c100, 2, 1, []), (mm_c101, 2, 1, []), (mm_c102, 1, 1, []), (mm_c103, 1, 1, []), (mm_c104, 1, 1, []), (mm_c105, 2, 1, []), (mm_c106, 5, 1, []), (mm_c107, 2, 1, []), (mm_c108, 1, 1, []), (mm_c109, 3, 1, []), (mm_c110, 4, 1, []), (mm_c111, 2, 1, []), (mm_c112, 2, 1, []), (mm_c113, 3, 1, []), (mm_c114, 2, 2, []), (mm_c115, 1, 1, []), (mm_c116, 1, 1, []), (mm_c117, 1, 1, []), (mm_c118, 1, 2, []), (mm_c119, 4, 1, []), (mm_c120, 6, 1, []), (mm_c121, 5, 1, []), (mm_c122, 1, 1, []), (mm_c123, 1, 1, []), (mm_c124, 2, 1, []), (mm_c125, 2, 1, []), (mm_c126, 6, 1, []), (mm_c127, 5, 1, []), (mm_c128, 6, 1, []), (mm_c129, 3, 1, []), (mm_c130, 2, 1, []), (mm_c131, 2, 1, []), (mm_c132, 2, 6, []), (mm_c133, 3, 7, []), (mm_c134, 1, 1, []), (mm_c135, 2, 1, []), (mm_c136, 2, 1, []), (mm_c137, 3, 1, []), (mm_c138, 2, 1, []), (mm_c139, 4, 1, []), (mm_c140, 3, 1, []), (mm_c141, 1, 1, []), (mm_c142, 2, 1, []), (mm_c143, 2, 1, []), (mm_c144, 1, 1, []), (mm_c145, 1, 1, []), (mm_c146, 2, 0, []), (mm_c147, 2, 0, []), (mm_c148, 2, 0, []), (mm_c149, 2, 0, []), (mm_c150, 2, 0, []), (mm_c151, 1, 0, []), (mm_c152, 2, 5, []), (mm_c153, 4, 1, []), (mm_c154, 4, 1, []), (mm_c155, 4, 0, []), (mm_c156, 2, 1, []), (mm_c157, 3, 0, []), (mm_c158, 2, 0, []), (mm_c159, 2, 2, []), (mm_c160, 1, 1, []), (mm_c161, 1, 1, []), (mm_c162, 2, 1, []), (mm_c163, 4, 1, []), (mm_c164, 1, 2, []), (mm_c165, 1, 2, []), (mm_c166, 1, 2, []), (mm_c167, 1, 5, []), (mm_c168, 1, 5, []), (mm_c169, 1, 0, []), (mm_c170, 1, 1, []), (mm_c171, 6, 2, []), (mm_c172, 1, 1, []), (mm_c173, 2, 2, []), (mm_c174, 3, 1, []), (mm_c175, 2, 1, []), (mm_c176, 2, 2, []), (mm_c177, 5, 0, []), (mm_c178, 1, 1, []), (mm_c179, 1, 1, []), (mm_c180, 2, 2, []), (mm_c181, 2, 2, []), (mm_c182, 2, 2, []), (mm_c183, 1, 1, []), (mm_c184, 3, 1, []), (mm_c185, 2, 2, []), (mm_c186, 3, 1, []), (mm_c187, 6, 0, []), (mm_c188, 5, 1, []), (mm_c189, 5, 1, []), (mm_c190, 4, 1, []), (mm_c191, 5, 1, []), (mm_c192, 4, 1, []), (mm_c193, 4, 1, []), (mm_c194, 4, 1, []), (mm_c195, 6, 1, []), (mm_c196, 1, 1, []), (mm_c197, 7, 1, []), (mm_c198, 3, 0, []), (mm_c199, 6, 1, []), (mm_c200, 2, 1, []), (mm_c201, 2, 1, []), (mm_c202, 1, 1, []), (mm_c203, 2, 0, []), (mm_c204, 3, 0, []), (mm_c205, 4, 2, []), (mm_c206, 3, 2, []), (mm_c207, 2, 0, []), (mm_c208, 1, 2, []), (mm_c209, 2, 2, []), (mm_c210, 3, 2, []), (mm_c211, 5, 1, []), (mm_c212, 3, 1, []), (mm_c213, 3, 0, []), (mm_c214, 1, 0, []), (mm_c215, 1, 2, []), (mm_c216, 1, 1, []), (mm_c217, 1, 1, []), (mm_c218, 1, 0, []), (mm_c219, 6, 1, []), (mm_c220, 1, 1, []), (mm_c221, 3, 1, []), (mm_c222, 1, 1, []), (mm_c223, 2, 1, []), (mm_c224, 2, 1, []), (mm_c225, 2, 1, []), (mm_c226, 2, 1, []), (mm_c227, 2, 1, []), (mm_c228, 4, 0, []), (mm_c229, 1, 0, []), (mm_c230, 2, 0, []), (mm_c231, 3, 1, []), (mm_c232, 1, 0, []), (mm_c233, 3, 0, []), (mm_c234, 2, 0, []), (mm_c235, 2, 2, []), (mm_c236, 2, 1, []), (mm_c237, 3, 0, []), (mm_c238, 5, 0, []), (mm_c239, 3, 1, []), (mm_c240, 5, 1, []), (mm_c241, 7, 1, []), (mm_c242, 5, 1, []), (mm_c243, 5, 1, []), (mm_c244, 7, 1, []), (mm_c245, 4, 1, []), (mm_c246, 6, 1, []), (mm_c247, 6, 1, []), (mm_c248, 1, 1, []), (mm_c249, 3, 1, []), (mm_c250, 4, 0, []), (mm_c251, 2, 0, []), (mm_c252, 3, 1, []), (mm_c253, 3, 0, []), (mm_c254, 2, 1, []), (mm_c255, 2, 1, []), (mm_c256, 2, 1, []), (mm_c257, 5, 1, []), (mm_c258, 2, 1, []), (mm_c259, 1, 1, []), (mm_c260, 3, 1, []), (mm_c261, 3, 2, []), (mm_c262, 4, 1, []), (mm_c263, 4, 1, []), (mm_c264, 2, 1, []), (mm_c265, 6, 1, []), (mm_c266, 2, 2, []), (mm_c267, 1, 1, []), (mm_c268, 4, 1, []), (mm_c269, 1, 1, []), (mm_c270, 1, 2, []), (mm_c271, 4, 1, []), (mm_c272, 4, 1, []), (mm_c273, 5, 1, []), (mm_c274, 3, 1, []), (mm_c275, 1, 1, []), (mm_c276, 1, 0, []), (mm_c277, 2, 1, []), (mm_c278, 1, 1, []), (mm_c279, 2, 1, []), (mm_c280, 2, 2, []), (mm_c281, 3, 1, []), (mm_c282, 5, 1, []), (mm_c283, 2, 1, []), (mm_c284, 6, 1, []), (mm_c285, 4, 1, []), (mm_c286, 5, 1, []), (mm_c287, 3, 1, []), (mm_c288, 2, 1, []), (mm_c289, 1, 1, []), (mm_c290, 1, 6, []), (mm_c291, 4, 7, []), (mm_c292, 2, 2, []), (mm_c293, 2, 1, []), (mm_c294, 1, 1, []), (mm_c295, 2, 1, []), (mm_c296, 2, 1, []), (mm_c297, 3, 1, []), (mm_c298, 2, 1, []), (mm_c299, 2, 0, []), (mm_c300, 3, 0, []), (mm_c301, 3, 0, []), (mm_c302, 2, 0, []), (mm_c303, 4, 1, []), (mm_c304, 5, 0, []), (mm_c305, 3, 1, []), (mm_c306, 4, 0, []), (mm_c307, 4, 0, []), (mm_c308, 5, 0, []), (mm_c309, 1, 1, []), (mm_c310, 2, 1, []), (mm_c311, 1, 1, []), (mm_c312, 1, 1, []), (mm_c313, 1, 1, []), (mm_c314, 8, 1, [(0, 16, 22, 7, 17)]), (mm_c315, 4, 1, [(0, 9, 14, 3, 15)]), (mm_c316, 3, 1, [(0, 8, 13, 2, 15)]), (mm_c317, 3, 1, [(0, 8, 13, 2, 15)]), (mm_c318, 3, 1, [(0, 8, 13, 2, 15)]), (mm_c319, 4, 1, [(0, 9, 14, 3, 15)]), (mm_c320, 6, 1, [(0, 12, 18, 5, 16)]), (mm_c321, 4, 1, [(0, 9, 14, 3, 16)]), (mm_c322, 5, 1, [(0, 10, 16, 4, 16)]), (mm_c323, 4, 1, [(0, 9, 14, 3, 16)]), (mm_c324, 4, 1, [(0, 9, 14, 3, 16)]), (mm_c325, 4, 1, [(0, 9, 14, 3, 16)]), (mm_c326, 5, 1, [(0, 10, 16, 4, 16)]), (mm_c327, 4, 1, [(0, 16, 21, 3, 16)]), (mm_c328, 5, 1, [(0, 10, 16, 4, 16)]), (mm_c329, 4, 1, [(0, 9, 14, 3, 16)]), (mm_c330, 4, 1, [(0, 9, 14, 3, 15)]), (mm_c331, 4, 1, [(0, 9, 14, 3, 16)]), (mm_c332, 4, 1, [(0, 9, 14, 3, 16)]), (mm_c333, 5, 1, [(0, 10, 16, 4, 15)]), (mm_c334, 4, 1, [(0, 9, 14, 3, 15)]), (mm_c335, 4, 1, [(0, 9, 14, 3, 16)]), (mm_c336, 4, 1, [(0, 9, 14, 3, 15)]), (mm_c337, 5, 1, [(0, 10, 16, 4, 16)]), (mm_c338, 4, 1, [(0, 9, 14, 3, 16)]), (mm_c339, 4, 1, [(0, 9, 14, 3, 16)]), (mm_c340, 4, 1, [(0, 9, 14, 3, 16)]), (mm_c341, 3, 1, [(0, 8, 13, 2, 17)]), (mm_c342, 2, 0, []), (mm_c343, 1, 1, []), (mm_c344, 3, 0, []), (mm_c345, 6, 1, []), (mm_c346, 2, 0, []), (mm_c347, 2, 0, []), (mm_c348, 5, 3, []), (mm_c349, 3, 5, []), (mm_c350, 3, 5, []), (mm_c351, 2, 5, []), (mm_c352, 4, 5, []), (mm_c353, 1, 5, []), (mm_c354, 1, 2, []), (mm_c355, 2, 0, []), (mm_c356, 3, 0, []), (mm_c357, 2, 0, []), (mm_c358, 7, 1, []), (mm_c359, 4, 1, []), (mm_c360, 1, 1, []), (mm_c361, 2, 0, []), (mm_c362, 1, 1, []), (mm_c363, 2, 3, []), (mm_c364, 4, 0, []), (mm_c365, 5, 0, []), (mm_c366, 1, 4, []), (mm_c367, 1, 2, []), (mm_c368, 2, 0, []), (mm_c369, 3, 1, []), (mm_c370, 3, 0, []), (mm_c371, 1, 0, []), (mm_c372, 2, 5, []), (mm_c373, 2, 5, []), (mm_c374, 2, 5, []), (mm_c375, 1, 5, []), (mm_c376, 2, 3, []), (mm_c377, 2, 0, []), (mm_c378, 1, 1, []), (mm_c379, 2, 0, []), (mm_c380, 2, 3, []), (mm_c381, 1, 2, []), (mm_c382, 3, 0, []), (mm_c383, 5, 0, []), (mm_c384, 1, 5, []), (mm_c385, 1, 1, []), (mm_c386, 3, 0, []), (mm_c387, 2, 3, []), (mm_c388, 1, 1, []), (mm_c389, 2, 4, []), (mm_c390, 6, 5, []), (mm_c391, 7, 1, []), (mm_c392, 3, 0, []), (mm_c393, 3, 0, []), (mm_c394, 5, 1, []), (mm_c395, 7, 1, []), (mm_c396, 2, 3, []), (mm_c397, 6, 0, []), (mm_c398, 7, 1, []), (mm_c399, 2, 0, []), (mm_c400, 3, 0, []), (mm_c401, 3, 0, []), (mm_c402, 3, 0, []), (mm_c403, 5, 0, []), (mm_c404, 3, 5, []), (mm_c405, 2, 0, []), (mm_c406, 3, 5, []), (mm_c407, 5, 5, []), (mm_c408, 4, 1, []), (mm_c409, 3, 1, []), (mm_c410, 3, 1, []), (mm_c411, 4, 1, []), (mm_c412, 4, 1, [])]
def mm_law_0 : List mm_I := [(0, .new 8, 3, [0, 13, 164, 165, 132]), (3, .dup, 4, []), (4, .invokespecial 105, 7, [2, 97, 1, 166, 167, 132]), (7, .astore_n 1, 8, []), (8, .new 106, 11, [0, 14, 1808, 1809, 151]), (11, .dup, 12, []), (12, .invokespecial 108, 15, [2, 169, 1, 1810, 1811, 151]), (15, .astore_n 2, 16, []), (16, .iconst 1, 17, []), (17, .newarray .long, 19, [1]), (19, .astore_n 3, 20, []), (20, .iconst 0, 21, []), (21, .istore 4, 23, []), (23, .iload 4, 25, []), (25, .aload_n 0, 26, []), (26, .arraylength, 27, []), (27, .bipush 6, 29, []), (29, .isub, 30, []), (30, .if_icmp .gt 2229, 33, [2259]), (33, .aload_n 0, 34, []), (34, .iload 4, 36, []), (36, .iaload, 37, []), (37, .bipush 63, 39, []), (39, .iand, 40, []), (40, .tableswitch 2213 0 47 #[208, 312, 368, 412, 456, 500, 513, 526, 582, 678, 734, 747, 815, 871, 927, 983, 1051, 1114, 1127, 1140, 1153, 1166, 1179, 1192, 1260, 1273, 1286, 1342, 1398, 1454, 1467, 1523, 1591, 1647, 1660, 1703, 1744, 1757, 1813, 1869, 1937, 1993, 2049, 2105, 2118, 2143, 2156, 2169], 248, [2253, 248, 352, 408, 452, 496, 540, 553, 566, 622, 718, 774, 787, 855, 911, 967, 1023, 1091, 1154, 1167, 1180, 1193, 1206, 1219, 1232, 1300, 1313, 1326, 1382, 1438, 1494, 1507, 1563, 1631, 1687, 1700, 1743, 1784, 1797, 1853, 1909, 1977, 2033, 2089, 2145, 2158, 2183, 2196, 2209]), (248, .aload_n 1, 249, []), (249, .aload_n 0, 250, []), (250, .iload 4, 252, []), (252, .iconst 1, 253, []), (253, .iadd, 254, []), (254, .iaload, 255, []), (255, .aload_n 0, 256, []), (256, .iload 4, 258, []), (258, .iconst 2, 259, []), (259, .iadd, 260, []), (260, .iaload, 261, []), (261, .aload_n 0, 262, []), (262, .iload 4, 264, []), (264, .iconst 3, 265, []), (265, .iadd, 266, []), (266, .iaload, 267, []), (267, .aload_n 0, 268, []), (268, .iload 4, 270, []), (270, .iconst 4, 271, []), (271, .iadd, 272, []), (272, .iaload, 273, []), (273, .aload_n 0, 274, []), (274, .iload 4, 276, []), (276, .iconst 5, 277, []), (277, .iadd, 278, []), (278, .iaload, 279, []), (279, .aload_n 3, 280, []), (280, .invokestatic 109, 283, [8, 314, 7, 1439, 1440, 131]), (283, .istore 5, 285, []), (285, .aload_n 2, 286, []), (286, .aload_n 0, 287, []), (287, .iload 4, 289, []), (289, .iconst 1, 290, []), (290, .iadd, 291, []), (291, .iaload, 292, []), (292, .aload_n 0, 293, []), (293, .iload 4, 295, []), (295, .iconst 2, 296, []), (296, .iadd, 297, []), (297, .iaload, 298, []), (298, .aload_n 0, 299, []), (299, .iload 4, 301, []), (301, .iconst 3, 302, []), (302, .iadd, 303, []), (303, .iaload, 304, []), (304, .aload_n 0, 305, []), (305, .iload 4, 307, []), (307, .iconst 4, 308, []), (308, .iadd, 309, []), (309, .iaload, 310, []), (310, .aload_n 0, 311, []), (311, .iload 4, 313, []), (313, .iconst 5, 314, []), (314, .iadd, 315, []), (315, .iaload, 316, []), (316, .invokevirtual 114, 319, [0, 199, 6, 14, 1914, 1915, 1916, 151]), (319, .istore 6, 321, []), (321, .aload_n 2, 322, []), (322, .invokevirtual 115, 325, [0, 170, 1, 14, 1910, 1911, 1912, 151]), (325, .iload 5, 327, []), (327, .if_icmp .eq 5, 330, [332]), (330, .iconst 0, 331, []), (331, .ireturn, 332, []), (332, .iload 5, 334, []), (334, .ifCond .ne 15, 337, [349]), (337, .aload_n 3, 338, []), (338, .iconst 0, 339, []), (339, .laload, 340, []), (340, .iload 6, 342, []), (342, .i2l, 343, []), (343, .lcmp, 344, []), (344, .ifCond .eq 5, 347, [349]), (347, .iconst 0, 348, []), (348, .ireturn, 349, []), (349, .goto 1904, 352, [2253]), (352, .aload_n 1, 353, []), (353, .aload_n 0, 354, []), (354, .iload 4, 356, []), (356, .iconst 1, 357, []), (357, .iadd, 358, []), (358, .iaload, 359, []), (359, .aload_n 3, 360, []), (360, .invokestatic 118, 363, [8, 315, 3, 1472, 1473, 131]), (363, .istore 5, 365, []), (365, .aload_n 2, 366, []), (366, .aload_n 0, 367, []), (367, .iload 4, 369, []), (369, .iconst 1, 370, []), (370, .iadd, 371, []), (371, .iaload, 372, []), (372, .invokevirtual 121, 375, [0, 200, 2, 14, 1926, 1927, 1928, 151]), (375, .istore 6, 377, []), (377, .aload_n 2, 378, []), (378, .invokevirtual 115, 381, [0, 170, 1, 14, 1910, 1911, 1912, 151]), (381, .iload 5, 383, [])]
def mm_law_1 : List mm_I := [(383, .if_icmp .eq 5, 386, [388]), (386, .iconst 0, 387, []), (387, .ireturn, 388, []), (388, .iload 5, 390, []), (390, .ifCond .ne 15, 393, [405]), (393, .aload_n 3, 394, []), (394, .iconst 0, 395, []), (395, .laload, 396, []), (396, .iload 6, 398, []), (398, .i2l, 399, []), (399, .lcmp, 400, []), (400, .ifCond .eq 5, 403, [405]), (403, .iconst 0, 404, []), (404, .ireturn, 405, []), (405, .goto 1848, 408, [2253]), (408, .aload_n 1, 409, []), (409, .aload_n 3, 410, []), (410, .invokestatic 122, 413, [8, 316, 2, 1485, 1486, 131]), (413, .istore 5, 415, []), (415, .aload_n 2, 416, []), (416, .invokevirtual 125, 419, [0, 236, 1, 14, 1941, 1942, 1943, 151]), (419, .istore 6, 421, []), (421, .aload_n 2, 422, []), (422, .invokevirtual 115, 425, [0, 170, 1, 14, 1910, 1911, 1912, 151]), (425, .iload 5, 427, []), (427, .if_icmp .eq 5, 430, [432]), (430, .iconst 0, 431, []), (431, .ireturn, 432, []), (432, .iload 5, 434, []), (434, .ifCond .ne 15, 437, [449]), (437, .aload_n 3, 438, []), (438, .iconst 0, 439, []), (439, .laload, 440, []), (440, .iload 6, 442, []), (442, .i2l, 443, []), (443, .lcmp, 444, []), (444, .ifCond .eq 5, 447, [449]), (447, .iconst 0, 448, []), (448, .ireturn, 449, []), (449, .goto 1804, 452, [2253]), (452, .aload_n 1, 453, []), (453, .aload_n 3, 454, []), (454, .invokestatic 126, 457, [8, 317, 2, 1496, 1497, 131]), (457, .istore 5, 459, []), (459, .aload_n 2, 460, []), (460, .invokevirtual 128, 463, [0, 254, 1, 14, 2150, 2151, 2152, 151]), (463, .istore 6, 465, []), (465, .aload_n 2, 466, []), (466, .invokevirtual 115, 469, [0, 170, 1, 14, 1910, 1911, 1912, 151]), (469, .iload 5, 471, []), (471, .if_icmp .eq 5, 474, [476]), (474, .iconst 0, 475, []), (475, .ireturn, 476, []), (476, .iload 5, 478, []), (478, .ifCond .ne 15, 481, [493]), (481, .aload_n 3, 482, []), (482, .iconst 0, 483, []), (483, .laload, 484, []), (484, .iload 6, 486, []), (486, .i2l, 487, []), (487, .lcmp, 488, []), (488, .ifCond .eq 5, 491, [493]), (491, .iconst 0, 492, []), (492, .ireturn, 493, []), (493, .goto 1760, 496, [2253]), (496, .aload_n 1, 497, []), (497, .aload_n 3, 498, []), (498, .invokestatic 129, 501, [8, 318, 2, 1569, 1570, 131]), (501, .istore 5, 503, []), (503, .aload_n 2, 504, []), (504, .invokevirtual 131, 507, [0, 255, 1, 14, 2228, 2229, 2230, 151]), (507, .istore 6, 509, []), (509, .aload_n 2, 510, []), (510, .invokevirtual 115, 513, [0, 170, 1, 14, 1910, 1911, 1912, 151]), (513, .iload 5, 515, []), (515, .if_icmp .eq 5, 518, [520]), (518, .iconst 0, 519, []), (519, .ireturn, 520, []), (520, .iload 5, 522, []), (522, .ifCond .ne 15, 525, [537]), (525, .aload_n 3, 526, []), (526, .iconst 0, 527, []), (527, .laload, 528, []), (528, .iload 6, 530, []), (530, .i2l, 531, []), (531, .lcmp, 532, []), (532, .ifCond .eq 5, 535, [537]), (535, .iconst 0, 536, []), (536, .ireturn, 537, []), (537, .goto 1716, 540, [2253]), (540, .aload_n 1, 541, []), (541, .invokevirtual 132, 544, [0, 103, 1, 13, 884, 885, 886, 132]), (544, .aload_n 2, 545, []), (545, .invokevirtual 135, 548, [0, 216, 1, 14, 1933, 1934, 1935, 151]), (548, .if_icmp .eq 1705, 551, [2253]), (551, .iconst 0, 552, []), (552, .ireturn, 553, []), (553, .aload_n 1, 554, []), (554, .invokevirtual 136, 557, [0, 104, 1, 13, 888, 889, 890, 132]), (557, .aload_n 2, 558, []), (558, .invokevirtual 139, 561, [0, 217, 1, 14, 1937, 1938, 1939, 151]), (561, .if_icmp .eq 1692, 564, [2253]), (564, .iconst 0, 565, []), (565, .ireturn, 566, []), (566, .aload_n 1, 567, []), (567, .aload_n 0, 568, []), (568, .iload 4, 570, []), (570, .iconst 1, 571, []), (571, .iadd, 572, []), (572, .iaload, 573, []), (573, .aload_n 3, 574, []), (574, .invokestatic 140, 577, [8, 319, 3, 1580, 1581, 131]), (577, .istore 5, 579, []), (579, .aload_n 2, 580, []), (580, .aload_n 0, 581, []), (581, .iload 4, 583, []), (583, .iconst 1, 584, []), (584, .iadd, 585, []), (585, .iaload, 586, []), (586, .invokevirtual 142, 589, [0, 256, 2, 14, 2232, 2233, 2234, 151])]
def mm_law_2 : List mm_I := [(589, .istore 6, 591, []), (591, .aload_n 2, 592, []), (592, .invokevirtual 115, 595, [0, 170, 1, 14, 1910, 1911, 1912, 151]), (595, .iload 5, 597, []), (597, .if_icmp .eq 5, 600, [602]), (600, .iconst 0, 601, []), (601, .ireturn, 602, []), (602, .iload 5, 604, []), (604, .ifCond .ne 15, 607, [619]), (607, .aload_n 3, 608, []), (608, .iconst 0, 609, []), (609, .laload, 610, []), (610, .iload 6, 612, []), (612, .i2l, 613, []), (613, .lcmp, 614, []), (614, .ifCond .eq 5, 617, [619]), (617, .iconst 0, 618, []), (618, .ireturn, 619, []), (619, .goto 1634, 622, [2253]), (622, .aload_n 1, 623, []), (623, .aload_n 0, 624, []), (624, .iload 4, 626, []), (626, .iconst 1, 627, []), (627, .iadd, 628, []), (628, .iaload, 629, []), (629, .ifCond .eq 7, 632, [636]), (632, .iconst 1, 633, []), (633, .goto 4, 636, [637]), (636, .iconst 0, 637, []), (637, .aload_n 0, 638, []), (638, .iload 4, 640, []), (640, .iconst 2, 641, []), (641, .iadd, 642, []), (642, .iaload, 643, []), (643, .aload_n 0, 644, []), (644, .iload 4, 646, []), (646, .iconst 3, 647, []), (647, .iadd, 648, []), (648, .iaload, 649, []), (649, .aload_n 3, 650, []), (650, .invokestatic 143, 653, [8, 320, 5, 1592, 1593, 131]), (653, .istore 5, 655, []), (655, .aload_n 2, 656, []), (656, .aload_n 0, 657, []), (657, .iload 4, 659, []), (659, .iconst 1, 660, []), (660, .iadd, 661, []), (661, .iaload, 662, []), (662, .ifCond .eq 7, 665, [669]), (665, .iconst 1, 666, []), (666, .goto 4, 669, [670]), (669, .iconst 0, 670, []), (670, .aload_n 0, 671, []), (671, .iload 4, 673, []), (673, .iconst 2, 674, []), (674, .iadd, 675, []), (675, .iaload, 676, []), (676, .aload_n 0, 677, []), (677, .iload 4, 679, []), (679, .iconst 3, 680, []), (680, .iadd, 681, []), (681, .iaload, 682, []), (682, .invokevirtual 146, 685, [0, 257, 4, 14, 2242, 2243, 2244, 151]), (685, .istore 6, 687, []), (687, .aload_n 2, 688, []), (688, .invokevirtual 115, 691, [0, 170, 1, 14, 1910, 1911, 1912, 151]), (691, .iload 5, 693, []), (693, .if_icmp .eq 5, 696, [698]), (696, .iconst 0, 697, []), (697, .ireturn, 698, []), (698, .iload 5, 700, []), (700, .ifCond .ne 15, 703, [715]), (703, .aload_n 3, 704, []), (704, .iconst 0, 705, []), (705, .laload, 706, []), (706, .iload 6, 708, []), (708, .i2l, 709, []), (709, .lcmp, 710, []), (710, .ifCond .eq 5, 713, [715]), (713, .iconst 0, 714, []), (714, .ireturn, 715, []), (715, .goto 1538, 718, [2253]), (718, .aload_n 1, 719, []), (719, .aload_n 0, 720, []), (720, .iload 4, 722, []), (722, .iconst 1, 723, []), (723, .iadd, 724, []), (724, .iaload, 725, []), (725, .aload_n 3, 726, []), (726, .invokestatic 147, 729, [8, 321, 3, 1616, 1617, 131]), (729, .istore 5, 731, []), (731, .aload_n 2, 732, []), (732, .aload_n 0, 733, []), (733, .iload 4, 735, []), (735, .iconst 1, 736, []), (736, .iadd, 737, []), (737, .iaload, 738, []), (738, .invokevirtual 149, 741, [0, 258, 2, 14, 2254, 2255, 2256, 151]), (741, .istore 6, 743, []), (743, .aload_n 2, 744, []), (744, .invokevirtual 115, 747, [0, 170, 1, 14, 1910, 1911, 1912, 151]), (747, .iload 5, 749, []), (749, .if_icmp .eq 5, 752, [754]), (752, .iconst 0, 753, []), (753, .ireturn, 754, []), (754, .iload 5, 756, []), (756, .ifCond .ne 15, 759, [771]), (759, .aload_n 3, 760, []), (760, .iconst 0, 761, []), (761, .laload, 762, []), (762, .iload 6, 764, []), (764, .i2l, 765, []), (765, .lcmp, 766, []), (766, .ifCond .eq 5, 769, [771]), (769, .iconst 0, 770, []), (770, .ireturn, 771, []), (771, .goto 1482, 774, [2253]), (774, .aload_n 1, 775, []), (775, .invokevirtual 150, 778, [0, 108, 1, 13, 892, 893, 894, 132]), (778, .aload_n 2, 779, [])]
def mm_law_3 : List mm_I := [(779, .invokevirtual 153, 782, [0, 259, 1, 14, 2258, 2259, 2260, 151]), (782, .if_icmp .eq 1471, 785, [2253]), (785, .iconst 0, 786, []), (786, .ireturn, 787, []), (787, .aload_n 1, 788, []), (788, .aload_n 0, 789, []), (789, .iload 4, 791, []), (791, .iconst 1, 792, []), (792, .iadd, 793, []), (793, .iaload, 794, []), (794, .aload_n 0, 795, []), (795, .iload 4, 797, []), (797, .iconst 2, 798, []), (798, .iadd, 799, []), (799, .iaload, 800, []), (800, .aload_n 3, 801, []), (801, .invokestatic 154, 804, [8, 322, 4, 1627, 1628, 131]), (804, .istore 5, 806, []), (806, .aload_n 2, 807, []), (807, .aload_n 0, 808, []), (808, .iload 4, 810, []), (810, .iconst 1, 811, []), (811, .iadd, 812, []), (812, .iaload, 813, []), (813, .aload_n 0, 814, []), (814, .iload 4, 816, []), (816, .iconst 2, 817, []), (817, .iadd, 818, []), (818, .iaload, 819, []), (819, .invokevirtual 157, 822, [0, 260, 3, 14, 2262, 2263, 2264, 151]), (822, .istore 6, 824, []), (824, .aload_n 2, 825, []), (825, .invokevirtual 115, 828, [0, 170, 1, 14, 1910, 1911, 1912, 151]), (828, .iload 5, 830, []), (830, .if_icmp .eq 5, 833, [835]), (833, .iconst 0, 834, []), (834, .ireturn, 835, []), (835, .iload 5, 837, []), (837, .ifCond .ne 15, 840, [852]), (840, .aload_n 3, 841, []), (841, .iconst 0, 842, []), (842, .laload, 843, []), (843, .iload 6, 845, []), (845, .i2l, 846, []), (846, .lcmp, 847, []), (847, .ifCond .eq 5, 850, [852]), (850, .iconst 0, 851, []), (851, .ireturn, 852, []), (852, .goto 1401, 855, [2253]), (855, .aload_n 1, 856, []), (856, .aload_n 0, 857, []), (857, .iload 4, 859, []), (859, .iconst 1, 860, []), (860, .iadd, 861, []), (861, .iaload, 862, []), (862, .aload_n 3, 863, []), (863, .invokestatic 158, 866, [8, 323, 3, 1639, 1640, 131]), (866, .istore 5, 868, []), (868, .aload_n 2, 869, []), (869, .aload_n 0, 870, []), (870, .iload 4, 872, []), (872, .iconst 1, 873, []), (873, .iadd, 874, []), (874, .iaload, 875, []), (875, .invokevirtual 160, 878, [0, 262, 2, 14, 2270, 2271, 2272, 151]), (878, .istore 6, 880, []), (880, .aload_n 2, 881, []), (881, .invokevirtual 115, 884, [0, 170, 1, 14, 1910, 1911, 1912, 151]), (884, .iload 5, 886, []), (886, .if_icmp .eq 5, 889, [891]), (889, .iconst 0, 890, []), (890, .ireturn, 891, []), (891, .iload 5, 893, []), (893, .ifCond .ne 15, 896, [908]), (896, .aload_n 3, 897, []), (897, .iconst 0, 898, []), (898, .laload, 899, []), (899, .iload 6, 901, []), (901, .i2l, 902, []), (902, .lcmp, 903, []), (903, .ifCond .eq 5, 906, [908]), (906, .iconst 0, 907, []), (907, .ireturn, 908, []), (908, .goto 1345, 911, [2253]), (911, .aload_n 1, 912, []), (912, .aload_n 0, 913, []), (913, .iload 4, 915, []), (915, .iconst 1, 916, []), (916, .iadd, 917, []), (917, .iaload, 918, []), (918, .aload_n 3, 919, []), (919, .invokestatic 161, 922, [8, 324, 3, 1651, 1652, 131]), (922, .istore 5, 924, []), (924, .aload_n 2, 925, []), (925, .aload_n 0, 926, []), (926, .iload 4, 928, []), (928, .iconst 1, 929, []), (929, .iadd, 930, []), (930, .iaload, 931, []), (931, .invokevirtual 163, 934, [0, 263, 2, 14, 2278, 2279, 2280, 151]), (934, .istore 6, 936, []), (936, .aload_n 2, 937, []), (937, .invokevirtual 115, 940, [0, 170, 1, 14, 1910, 1911, 1912, 151]), (940, .iload 5, 942, []), (942, .if_icmp .eq 5, 945, [947]), (945, .iconst 0, 946, []), (946, .ireturn, 947, []), (947, .iload 5, 949, []), (949, .ifCond .ne 15, 952, [964]), (952, .aload_n 3, 953, []), (953, .iconst 0, 954, []), (954, .laload, 955, []), (955, .iload 6, 957, []), (957, .i2l, 958, []), (958, .lcmp, 959, []), (959, .ifCond .eq 5, 962, [964]), (962, .iconst 0, 963, []), (963, .ireturn, 964, []), (964, .goto 1289, 967, [2253]), (967, .aload_n 1, 968, [])]
def mm_law_4 : List mm_I := [(968, .aload_n 0, 969, []), (969, .iload 4, 971, []), (971, .iconst 1, 972, []), (972, .iadd, 973, []), (973, .iaload, 974, []), (974, .aload_n 3, 975, []), (975, .invokestatic 164, 978, [8, 325, 3, 1658, 1659, 131]), (978, .istore 5, 980, []), (980, .aload_n 2, 981, []), (981, .aload_n 0, 982, []), (982, .iload 4, 984, []), (984, .iconst 1, 985, []), (985, .iadd, 986, []), (986, .iaload, 987, []), (987, .invokevirtual 166, 990, [0, 264, 2, 14, 2282, 2283, 2284, 151]), (990, .istore 6, 992, []), (992, .aload_n 2, 993, []), (993, .invokevirtual 115, 996, [0, 170, 1, 14, 1910, 1911, 1912, 151]), (996, .iload 5, 998, []), (998, .if_icmp .eq 5, 1001, [1003]), (1001, .iconst 0, 1002, []), (1002, .ireturn, 1003, []), (1003, .iload 5, 1005, []), (1005, .ifCond .ne 15, 1008, [1020]), (1008, .aload_n 3, 1009, []), (1009, .iconst 0, 1010, []), (1010, .laload, 1011, []), (1011, .iload 6, 1013, []), (1013, .i2l, 1014, []), (1014, .lcmp, 1015, []), (1015, .ifCond .eq 5, 1018, [1020]), (1018, .iconst 0, 1019, []), (1019, .ireturn, 1020, []), (1020, .goto 1233, 1023, [2253]), (1023, .aload_n 1, 1024, []), (1024, .aload_n 0, 1025, []), (1025, .iload 4, 1027, []), (1027, .iconst 1, 1028, []), (1028, .iadd, 1029, []), (1029, .iaload, 1030, []), (1030, .aload_n 0, 1031, []), (1031, .iload 4, 1033, []), (1033, .iconst 2, 1034, []), (1034, .iadd, 1035, []), (1035, .iaload, 1036, []), (1036, .aload_n 3, 1037, []), (1037, .invokestatic 167, 1040, [8, 326, 4, 1665, 1666, 131]), (1040, .istore 5, 1042, []), (1042, .aload_n 2, 1043, []), (1043, .aload_n 0, 1044, []), (1044, .iload 4, 1046, []), (1046, .iconst 1, 1047, []), (1047, .iadd, 1048, []), (1048, .iaload, 1049, []), (1049, .aload_n 0, 1050, []), (1050, .iload 4, 1052, []), (1052, .iconst 2, 1053, []), (1053, .iadd, 1054, []), (1054, .iaload, 1055, []), (1055, .invokevirtual 169, 1058, [0, 265, 3, 14, 2286, 2287, 2288, 151]), (1058, .istore 6, 1060, []), (1060, .aload_n 2, 1061, []), (1061, .invokevirtual 115, 1064, [0, 170, 1, 14, 1910, 1911, 1912, 151]), (1064, .iload 5, 1066, []), (1066, .if_icmp .eq 5, 1069, [1071]), (1069, .iconst 0, 1070, []), (1070, .ireturn, 1071, []), (1071, .iload 5, 1073, []), (1073, .ifCond .ne 15, 1076, [1088]), (1076, .aload_n 3, 1077, []), (1077, .iconst 0, 1078, []), (1078, .laload, 1079, []), (1079, .iload 6, 1081, []), (1081, .i2l, 1082, []), (1082, .lcmp, 1083, []), (1083, .ifCond .eq 5, 1086, [1088]), (1086, .iconst 0, 1087, []), (1087, .ireturn, 1088, []), (1088, .goto 1165, 1091, [2253]), (1091, .aload_n 1, 1092, []), (1092, .aload_n 0, 1093, []), (1093, .iload 4, 1095, []), (1095, .iconst 1, 1096, []), (1096, .iadd, 1097, []), (1097, .iaload, 1098, []), (1098, .aload_n 3, 1099, []), (1099, .invokestatic 170, 1102, [8, 327, 3, 1676, 1677, 131]), (1102, .istore 5, 1104, []), (1104, .aload_n 2, 1105, []), (1105, .aload_n 0, 1106, []), (1106, .iload 4, 1108, []), (1108, .iconst 1, 1109, []), (1109, .iadd, 1110, []), (1110, .iaload, 1111, []), (1111, .invokevirtual 172, 1114, [0, 266, 2, 14, 2290, 2291, 2292, 151]), (1114, .istore 6, 1116, []), (1116, .aload_n 2, 1117, []), (1117, .invokevirtual 115, 1120, [0, 170, 1, 14, 1910, 1911, 1912, 151]), (1120, .iload 5, 1122, []), (1122, .if_icmp .eq 5, 1125, [1127]), (1125, .iconst 0, 1126, []), (1126, .ireturn, 1127, []), (1127, .iload 5, 1129, []), (1129, .ifCond .ne 22, 1132, [1151]), (1132, .aload_n 3, 1133, []), (1133, .iconst 0, 1134, []), (1134, .laload, 1135, []), (1135, .iload 6, 1137, []), (1137, .ifCond .eq 7, 1140, [1144]), (1140, .lconst 1, 1141, []), (1141, .goto 4, 1144, [1145]), (1144, .lconst 0, 1145, []), (1145, .lcmp, 1146, []), (1146, .ifCond .eq 5, 1149, [1151]), (1149, .iconst 0, 1150, []), (1150, .ireturn, 1151, []), (1151, .goto 1102, 1154, [2253]), (1154, .aload_n 1, 1155, []), (1155, .invokevirtual 173, 1158, [0, 115, 1, 13, 896, 897, 898, 132]), (1158, .aload_n 2, 1159, [])]
def mm_law_5 : List mm_I := [(1159, .invokevirtual 176, 1162, [0, 267, 1, 14, 2298, 2299, 2300, 151]), (1162, .if_icmp .eq 1091, 1165, [2253]), (1165, .iconst 0, 1166, []), (1166, .ireturn, 1167, []), (1167, .aload_n 1, 1168, []), (1168, .invokevirtual 177, 1171, [0, 116, 1, 13, 905, 906, 907, 132]), (1171, .aload_n 2, 1172, []), (1172, .invokevirtual 180, 1175, [0, 268, 1, 14, 2302, 2303, 2304, 151]), (1175, .if_icmp .eq 1078, 1178, [2253]), (1178, .iconst 0, 1179, []), (1179, .ireturn, 1180, []), (1180, .aload_n 1, 1181, []), (1181, .invokevirtual 181, 1184, [0, 117, 1, 13, 913, 914, 915, 132]), (1184, .aload_n 2, 1185, []), (1185, .invokevirtual 184, 1188, [0, 269, 1, 14, 2306, 2307, 2308, 151]), (1188, .if_icmp .eq 1065, 1191, [2253]), (1191, .iconst 0, 1192, []), (1192, .ireturn, 1193, []), (1193, .aload_n 1, 1194, []), (1194, .invokevirtual 185, 1197, [0, 118, 1, 13, 922, 923, 924, 132]), (1197, .aload_n 2, 1198, []), (1198, .invokevirtual 189, 1201, [0, 270, 1, 14, 2310, 2311, 2312, 151]), (1201, .if_icmp .eq 1052, 1204, [2253]), (1204, .iconst 0, 1205, []), (1205, .ireturn, 1206, []), (1206, .aload_n 1, 1207, []), (1207, .invokevirtual 190, 1210, [0, 119, 1, 13, 928, 929, 930, 132]), (1210, .aload_n 2, 1211, []), (1211, .invokevirtual 193, 1214, [0, 271, 1, 14, 2314, 2315, 2316, 151]), (1214, .if_icmp .eq 1039, 1217, [2253]), (1217, .iconst 0, 1218, []), (1218, .ireturn, 1219, []), (1219, .aload_n 1, 1220, []), (1220, .invokevirtual 194, 1223, [0, 120, 1, 13, 933, 934, 935, 132]), (1223, .aload_n 2, 1224, []), (1224, .invokevirtual 197, 1227, [0, 272, 1, 14, 2318, 2319, 2320, 151]), (1227, .if_icmp .eq 1026, 1230, [2253]), (1230, .iconst 0, 1231, []), (1231, .ireturn, 1232, []), (1232, .aload_n 1, 1233, []), (1233, .aload_n 0, 1234, []), (1234, .iload 4, 1236, []), (1236, .iconst 1, 1237, []), (1237, .iadd, 1238, []), (1238, .iaload, 1239, []), (1239, .aload_n 0, 1240, []), (1240, .iload 4, 1242, []), (1242, .iconst 2, 1243, []), (1243, .iadd, 1244, []), (1244, .iaload, 1245, []), (1245, .aload_n 3, 1246, []), (1246, .invokestatic 198, 1249, [8, 328, 4, 1683, 1684, 131]), (1249, .istore 5, 1251, []), (1251, .aload_n 2, 1252, []), (1252, .aload_n 0, 1253, []), (1253, .iload 4, 1255, []), (1255, .iconst 1, 1256, []), (1256, .iadd, 1257, []), (1257, .iaload, 1258, []), (1258, .aload_n 0, 1259, []), (1259, .iload 4, 1261, []), (1261, .iconst 2, 1262, []), (1262, .iadd, 1263, []), (1263, .iaload, 1264, []), (1264, .invokevirtual 200, 1267, [0, 273, 3, 14, 2322, 2323, 2324, 151]), (1267, .istore 6, 1269, []), (1269, .aload_n 2, 1270, []), (1270, .invokevirtual 115, 1273, [0, 170, 1, 14, 1910, 1911, 1912, 151]), (1273, .iload 5, 1275, []), (1275, .if_icmp .eq 5, 1278, [1280]), (1278, .iconst 0, 1279, []), (1279, .ireturn, 1280, []), (1280, .iload 5, 1282, []), (1282, .ifCond .ne 15, 1285, [1297]), (1285, .aload_n 3, 1286, []), (1286, .iconst 0, 1287, []), (1287, .laload, 1288, []), (1288, .iload 6, 1290, []), (1290, .i2l, 1291, []), (1291, .lcmp, 1292, []), (1292, .ifCond .eq 5, 1295, [1297]), (1295, .iconst 0, 1296, []), (1296, .ireturn, 1297, []), (1297, .goto 956, 1300, [2253]), (1300, .aload_n 1, 1301, []), (1301, .invokevirtual 201, 1304, [0, 122, 1, 13, 938, 939, 940, 132]), (1304, .aload_n 2, 1305, []), (1305, .invokevirtual 204, 1308, [0, 275, 1, 14, 2326, 2327, 2328, 151]), (1308, .if_icmp .eq 945, 1311, [2253]), (1311, .iconst 0, 1312, []), (1312, .ireturn, 1313, []), (1313, .aload_n 1, 1314, []), (1314, .invokevirtual 205, 1317, [0, 123, 1, 13, 942, 943, 944, 132]), (1317, .aload_n 2, 1318, []), (1318, .invokevirtual 208, 1321, [0, 278, 1, 14, 2334, 2335, 2336, 151]), (1321, .if_icmp .eq 932, 1324, [2253]), (1324, .iconst 0, 1325, []), (1325, .ireturn, 1326, []), (1326, .aload_n 1, 1327, []), (1327, .aload_n 0, 1328, []), (1328, .iload 4, 1330, []), (1330, .iconst 1, 1331, []), (1331, .iadd, 1332, []), (1332, .iaload, 1333, []), (1333, .aload_n 3, 1334, []), (1334, .invokestatic 209, 1337, [8, 329, 3, 1694, 1695, 131]), (1337, .istore 5, 1339, []), (1339, .aload_n 2, 1340, []), (1340, .aload_n 0, 1341, []), (1341, .iload 4, 1343, []), (1343, .iconst 1, 1344, []), (1344, .iadd, 1345, []), (1345, .iaload, 1346, []), (1346, .invokevirtual 211, 1349, [0, 279, 2, 14, 2346, 2347, 2348, 151]), (1349, .istore 6, 1351, []), (1351, .aload_n 2, 1352, []), (1352, .invokevirtual 115, 1355, [0, 170, 1, 14, 1910, 1911, 1912, 151]), (1355, .iload 5, 1357, []), (1357, .if_icmp .eq 5, 1360, [1362]), (1360, .iconst 0, 1361, [])]
def mm_law_6 : List mm_I := [(1361, .ireturn, 1362, []), (1362, .iload 5, 1364, []), (1364, .ifCond .ne 15, 1367, [1379]), (1367, .aload_n 3, 1368, []), (1368, .iconst 0, 1369, []), (1369, .laload, 1370, []), (1370, .iload 6, 1372, []), (1372, .i2l, 1373, []), (1373, .lcmp, 1374, []), (1374, .ifCond .eq 5, 1377, [1379]), (1377, .iconst 0, 1378, []), (1378, .ireturn, 1379, []), (1379, .goto 874, 1382, [2253]), (1382, .aload_n 1, 1383, []), (1383, .aload_n 0, 1384, []), (1384, .iload 4, 1386, []), (1386, .iconst 1, 1387, []), (1387, .iadd, 1388, []), (1388, .iaload, 1389, []), (1389, .aload_n 3, 1390, []), (1390, .invokestatic 212, 1393, [8, 330, 3, 1701, 1702, 131]), (1393, .istore 5, 1395, []), (1395, .aload_n 2, 1396, []), (1396, .aload_n 0, 1397, []), (1397, .iload 4, 1399, []), (1399, .iconst 1, 1400, []), (1400, .iadd, 1401, []), (1401, .iaload, 1402, []), (1402, .invokevirtual 214, 1405, [0, 281, 2, 14, 2350, 2351, 2352, 151]), (1405, .istore 6, 1407, []), (1407, .aload_n 2, 1408, []), (1408, .invokevirtual 115, 1411, [0, 170, 1, 14, 1910, 1911, 1912, 151]), (1411, .iload 5, 1413, []), (1413, .if_icmp .eq 5, 1416, [1418]), (1416, .iconst 0, 1417, []), (1417, .ireturn, 1418, []), (1418, .iload 5, 1420, []), (1420, .ifCond .ne 15, 1423, [1435]), (1423, .aload_n 3, 1424, []), (1424, .iconst 0, 1425, []), (1425, .laload, 1426, []), (1426, .iload 6, 1428, []), (1428, .i2l, 1429, []), (1429, .lcmp, 1430, []), (1430, .ifCond .eq 5, 1433, [1435]), (1433, .iconst 0, 1434, []), (1434, .ireturn, 1435, []), (1435, .goto 818, 1438, [2253]), (1438, .aload_n 1, 1439, []), (1439, .aload_n 0, 1440, []), (1440, .iload 4, 1442, []), (1442, .iconst 1, 1443, []), (1443, .iadd, 1444, []), (1444, .iaload, 1445, []), (1445, .aload_n 3, 1446, []), (1446, .invokestatic 215, 1449, [8, 331, 3, 1715, 1716, 131]), (1449, .istore 5, 1451, []), (1451, .aload_n 2, 1452, []), (1452, .aload_n 0, 1453, []), (1453, .iload 4, 1455, []), (1455, .iconst 1, 1456, []), (1456, .iadd, 1457, []), (1457, .iaload, 1458, []), (1458, .invokevirtual 217, 1461, [0, 283, 2, 14, 2362, 2363, 2364, 151]), (1461, .istore 6, 1463, []), (1463, .aload_n 2, 1464, []), (1464, .invokevirtual 115, 1467, [0, 170, 1, 14, 1910, 1911, 1912, 151]), (1467, .iload 5, 1469, []), (1469, .if_icmp .eq 5, 1472, [1474]), (1472, .iconst 0, 1473, []), (1473, .ireturn, 1474, []), (1474, .iload 5, 1476, []), (1476, .ifCond .ne 15, 1479, [1491]), (1479, .aload_n 3, 1480, []), (1480, .iconst 0, 1481, []), (1481, .laload, 1482, []), (1482, .iload 6, 1484, []), (1484, .i2l, 1485, []), (1485, .lcmp, 1486, []), (1486, .ifCond .eq 5, 1489, [1491]), (1489, .iconst 0, 1490, []), (1490, .ireturn, 1491, []), (1491, .goto 762, 1494, [2253]), (1494, .aload_n 1, 1495, []), (1495, .invokevirtual 218, 1498, [0, 127, 1, 13, 967, 968, 969, 132]), (1498, .aload_n 2, 1499, []), (1499, .invokevirtual 221, 1502, [0, 284, 1, 14, 2370, 2371, 2372, 151]), (1502, .if_icmp .eq 751, 1505, [2253]), (1505, .iconst 0, 1506, []), (1506, .ireturn, 1507, []), (1507, .aload_n 1, 1508, []), (1508, .aload_n 0, 1509, []), (1509, .iload 4, 1511, []), (1511, .iconst 1, 1512, []), (1512, .iadd, 1513, []), (1513, .iaload, 1514, []), (1514, .aload_n 3, 1515, []), (1515, .invokestatic 222, 1518, [8, 332, 3, 1723, 1724, 131]), (1518, .istore 5, 1520, []), (1520, .aload_n 2, 1521, []), (1521, .aload_n 0, 1522, []), (1522, .iload 4, 1524, []), (1524, .iconst 1, 1525, []), (1525, .iadd, 1526, []), (1526, .iaload, 1527, []), (1527, .invokevirtual 224, 1530, [0, 286, 2, 14, 2374, 2375, 2376, 151]), (1530, .istore 6, 1532, []), (1532, .aload_n 2, 1533, []), (1533, .invokevirtual 115, 1536, [0, 170, 1, 14, 1910, 1911, 1912, 151]), (1536, .iload 5, 1538, []), (1538, .if_icmp .eq 5, 1541, [1543]), (1541, .iconst 0, 1542, []), (1542, .ireturn, 1543, []), (1543, .iload 5, 1545, []), (1545, .ifCond .ne 15, 1548, [1560]), (1548, .aload_n 3, 1549, []), (1549, .iconst 0, 1550, []), (1550, .laload, 1551, []), (1551, .iload 6, 1553, []), (1553, .i2l, 1554, [])]
def mm_law_7 : List mm_I := [(1554, .lcmp, 1555, []), (1555, .ifCond .eq 5, 1558, [1560]), (1558, .iconst 0, 1559, []), (1559, .ireturn, 1560, []), (1560, .goto 693, 1563, [2253]), (1563, .aload_n 1, 1564, []), (1564, .aload_n 0, 1565, []), (1565, .iload 4, 1567, []), (1567, .iconst 1, 1568, []), (1568, .iadd, 1569, []), (1569, .iaload, 1570, []), (1570, .aload_n 0, 1571, []), (1571, .iload 4, 1573, []), (1573, .iconst 2, 1574, []), (1574, .iadd, 1575, []), (1575, .iaload, 1576, []), (1576, .aload_n 3, 1577, []), (1577, .invokestatic 225, 1580, [8, 333, 4, 1730, 1731, 131]), (1580, .istore 5, 1582, []), (1582, .aload_n 2, 1583, []), (1583, .aload_n 0, 1584, []), (1584, .iload 4, 1586, []), (1586, .iconst 1, 1587, []), (1587, .iadd, 1588, []), (1588, .iaload, 1589, []), (1589, .aload_n 0, 1590, []), (1590, .iload 4, 1592, []), (1592, .iconst 2, 1593, []), (1593, .iadd, 1594, []), (1594, .iaload, 1595, []), (1595, .invokevirtual 227, 1598, [0, 287, 3, 14, 2382, 2383, 2384, 151]), (1598, .istore 6, 1600, []), (1600, .aload_n 2, 1601, []), (1601, .invokevirtual 115, 1604, [0, 170, 1, 14, 1910, 1911, 1912, 151]), (1604, .iload 5, 1606, []), (1606, .if_icmp .eq 5, 1609, [1611]), (1609, .iconst 0, 1610, []), (1610, .ireturn, 1611, []), (1611, .iload 5, 1613, []), (1613, .ifCond .ne 15, 1616, [1628]), (1616, .aload_n 3, 1617, []), (1617, .iconst 0, 1618, []), (1618, .laload, 1619, []), (1619, .iload 6, 1621, []), (1621, .i2l, 1622, []), (1622, .lcmp, 1623, []), (1623, .ifCond .eq 5, 1626, [1628]), (1626, .iconst 0, 1627, []), (1627, .ireturn, 1628, []), (1628, .goto 625, 1631, [2253]), (1631, .aload_n 1, 1632, []), (1632, .aload_n 0, 1633, []), (1633, .iload 4, 1635, []), (1635, .iconst 1, 1636, []), (1636, .iadd, 1637, []), (1637, .iaload, 1638, []), (1638, .aload_n 3, 1639, []), (1639, .invokestatic 228, 1642, [8, 334, 3, 1741, 1742, 131]), (1642, .istore 5, 1644, []), (1644, .aload_n 2, 1645, []), (1645, .aload_n 0, 1646, []), (1646, .iload 4, 1648, []), (1648, .iconst 1, 1649, []), (1649, .iadd, 1650, []), (1650, .iaload, 1651, []), (1651, .invokevirtual 230, 1654, [0, 288, 2, 14, 2387, 2388, 2389, 151]), (1654, .istore 6, 1656, []), (1656, .aload_n 2, 1657, []), (1657, .invokevirtual 115, 1660, [0, 170, 1, 14, 1910, 1911, 1912, 151]), (1660, .iload 5, 1662, []), (1662, .if_icmp .eq 5, 1665, [1667]), (1665, .iconst 0, 1666, []), (1666, .ireturn, 1667, []), (1667, .iload 5, 1669, []), (1669, .ifCond .ne 15, 1672, [1684]), (1672, .aload_n 3, 1673, []), (1673, .iconst 0, 1674, []), (1674, .laload, 1675, []), (1675, .iload 6, 1677, []), (1677, .i2l, 1678, []), (1678, .lcmp, 1679, []), (1679, .ifCond .eq 5, 1682, [1684]), (1682, .iconst 0, 1683, []), (1683, .ireturn, 1684, []), (1684, .goto 569, 1687, [2253]), (1687, .aload_n 1, 1688, []), (1688, .invokevirtual 231, 1691, [0, 131, 1, 13, 972, 973, 974, 132]), (1691, .aload_n 2, 1692, []), (1692, .invokevirtual 234, 1695, [0, 289, 1, 14, 2391, 2392, 2393, 151]), (1695, .if_icmp .eq 558, 1698, [2253]), (1698, .iconst 0, 1699, []), (1699, .ireturn, 1700, []), (1700, .aload_n 1, 1701, []), (1701, .invokevirtual 235, 1704, [0, 132, 1, 13, 982, 983, 984, 132]), (1704, .f2d, 1705, []), (1705, .dstore 5, 1707, []), (1707, .aload_n 2, 1708, []), (1708, .invokevirtual 239, 1711, [0, 290, 1, 14, 2395, 2396, 2397, 151]), (1711, .f2d, 1712, []), (1712, .dstore 7, 1714, []), (1714, .dload 5, 1716, []), (1716, .dload 7, 1718, []), (1718, .dcmp .l, 1719, []), (1719, .ifCond .eq 21, 1722, [1740]), (1722, .dload 5, 1724, []), (1724, .dload 5, 1726, []), (1726, .dcmp .l, 1727, []), (1727, .ifCond .eq 11, 1730, [1738]), (1730, .dload 7, 1732, []), (1732, .dload 7, 1734, []), (1734, .dcmp .l, 1735, []), (1735, .ifCond .ne 5, 1738, [1740]), (1738, .iconst 0, 1739, []), (1739, .ireturn, 1740, []), (1740, .goto 513, 1743, [2253]), (1743, .aload_n 1, 1744, []), (1744, .invokevirtual 240, 1747, [0, 133, 1, 13, 986, 987, 988, 132]), (1747, .dstore 5, 1749, []), (1749, .aload_n 2, 1750, []), (1750, .invokevirtual 244, 1753, [0, 291, 1, 14, 2399, 2400, 2401, 151])]
def mm_law_8 : List mm_I := [(1753, .dstore 7, 1755, []), (1755, .dload 5, 1757, []), (1757, .dload 7, 1759, []), (1759, .dcmp .l, 1760, []), (1760, .ifCond .eq 21, 1763, [1781]), (1763, .dload 5, 1765, []), (1765, .dload 5, 1767, []), (1767, .dcmp .l, 1768, []), (1768, .ifCond .eq 11, 1771, [1779]), (1771, .dload 7, 1773, []), (1773, .dload 7, 1775, []), (1775, .dcmp .l, 1776, []), (1776, .ifCond .ne 5, 1779, [1781]), (1779, .iconst 0, 1780, []), (1780, .ireturn, 1781, []), (1781, .goto 472, 1784, [2253]), (1784, .aload_n 1, 1785, []), (1785, .invokevirtual 245, 1788, [0, 134, 1, 13, 994, 995, 996, 132]), (1788, .aload_n 2, 1789, []), (1789, .invokevirtual 248, 1792, [0, 294, 1, 14, 2403, 2404, 2405, 151]), (1792, .if_icmp .eq 461, 1795, [2253]), (1795, .iconst 0, 1796, []), (1796, .ireturn, 1797, []), (1797, .aload_n 1, 1798, []), (1798, .aload_n 0, 1799, []), (1799, .iload 4, 1801, []), (1801, .iconst 1, 1802, []), (1802, .iadd, 1803, []), (1803, .iaload, 1804, []), (1804, .aload_n 3, 1805, []), (1805, .invokestatic 249, 1808, [8, 335, 3, 1748, 1749, 131]), (1808, .istore 5, 1810, []), (1810, .aload_n 2, 1811, []), (1811, .aload_n 0, 1812, []), (1812, .iload 4, 1814, []), (1814, .iconst 1, 1815, []), (1815, .iadd, 1816, []), (1816, .iaload, 1817, []), (1817, .invokevirtual 251, 1820, [0, 295, 2, 14, 2415, 2416, 2417, 151]), (1820, .istore 6, 1822, []), (1822, .aload_n 2, 1823, []), (1823, .invokevirtual 115, 1826, [0, 170, 1, 14, 1910, 1911, 1912, 151]), (1826, .iload 5, 1828, []), (1828, .if_icmp .eq 5, 1831, [1833]), (1831, .iconst 0, 1832, []), (1832, .ireturn, 1833, []), (1833, .iload 5, 1835, []), (1835, .ifCond .ne 15, 1838, [1850]), (1838, .aload_n 3, 1839, []), (1839, .iconst 0, 1840, []), (1840, .laload, 1841, []), (1841, .iload 6, 1843, []), (1843, .i2l, 1844, []), (1844, .lcmp, 1845, []), (1845, .ifCond .eq 5, 1848, [1850]), (1848, .iconst 0, 1849, []), (1849, .ireturn, 1850, []), (1850, .goto 403, 1853, [2253]), (1853, .aload_n 1, 1854, []), (1854, .aload_n 0, 1855, []), (1855, .iload 4, 1857, []), (1857, .iconst 1, 1858, []), (1858, .iadd, 1859, []), (1859, .iaload, 1860, []), (1860, .aload_n 3, 1861, []), (1861, .invokestatic 252, 1864, [8, 336, 3, 1755, 1756, 131]), (1864, .istore 5, 1866, []), (1866, .aload_n 2, 1867, []), (1867, .aload_n 0, 1868, []), (1868, .iload 4, 1870, []), (1870, .iconst 1, 1871, []), (1871, .iadd, 1872, []), (1872, .iaload, 1873, []), (1873, .invokevirtual 254, 1876, [0, 296, 2, 14, 2419, 2420, 2421, 151]), (1876, .istore 6, 1878, []), (1878, .aload_n 2, 1879, []), (1879, .invokevirtual 115, 1882, [0, 170, 1, 14, 1910, 1911, 1912, 151]), (1882, .iload 5, 1884, []), (1884, .if_icmp .eq 5, 1887, [1889]), (1887, .iconst 0, 1888, []), (1888, .ireturn, 1889, []), (1889, .iload 5, 1891, []), (1891, .ifCond .ne 15, 1894, [1906]), (1894, .aload_n 3, 1895, []), (1895, .iconst 0, 1896, []), (1896, .laload, 1897, []), (1897, .iload 6, 1899, []), (1899, .i2l, 1900, []), (1900, .lcmp, 1901, []), (1901, .ifCond .eq 5, 1904, [1906]), (1904, .iconst 0, 1905, []), (1905, .ireturn, 1906, []), (1906, .goto 347, 1909, [2253]), (1909, .aload_n 1, 1910, []), (1910, .aload_n 0, 1911, []), (1911, .iload 4, 1913, []), (1913, .iconst 1, 1914, []), (1914, .iadd, 1915, []), (1915, .iaload, 1916, []), (1916, .aload_n 0, 1917, []), (1917, .iload 4, 1919, []), (1919, .iconst 2, 1920, []), (1920, .iadd, 1921, []), (1921, .iaload, 1922, []), (1922, .aload_n 3, 1923, []), (1923, .invokestatic 255, 1926, [8, 337, 4, 1763, 1764, 131]), (1926, .istore 5, 1928, []), (1928, .aload_n 2, 1929, []), (1929, .aload_n 0, 1930, []), (1930, .iload 4, 1932, []), (1932, .iconst 1, 1933, []), (1933, .iadd, 1934, []), (1934, .iaload, 1935, []), (1935, .aload_n 0, 1936, []), (1936, .iload 4, 1938, []), (1938, .iconst 2, 1939, []), (1939, .iadd, 1940, []), (1940, .iaload, 1941, []), (1941, .invokevirtual 257, 1944, [0, 297, 3, 14, 2423, 2424, 2425, 151]), (1944, .istore 6, 1946, [])]
def mm_law_9 : List mm_I := [(1946, .aload_n 2, 1947, []), (1947, .invokevirtual 115, 1950, [0, 170, 1, 14, 1910, 1911, 1912, 151]), (1950, .iload 5, 1952, []), (1952, .if_icmp .eq 5, 1955, [1957]), (1955, .iconst 0, 1956, []), (1956, .ireturn, 1957, []), (1957, .iload 5, 1959, []), (1959, .ifCond .ne 15, 1962, [1974]), (1962, .aload_n 3, 1963, []), (1963, .iconst 0, 1964, []), (1964, .laload, 1965, []), (1965, .iload 6, 1967, []), (1967, .i2l, 1968, []), (1968, .lcmp, 1969, []), (1969, .ifCond .eq 5, 1972, [1974]), (1972, .iconst 0, 1973, []), (1973, .ireturn, 1974, []), (1974, .goto 279, 1977, [2253]), (1977, .aload_n 1, 1978, []), (1978, .aload_n 0, 1979, []), (1979, .iload 4, 1981, []), (1981, .iconst 1, 1982, []), (1982, .iadd, 1983, []), (1983, .iaload, 1984, []), (1984, .aload_n 3, 1985, []), (1985, .invokestatic 258, 1988, [8, 338, 3, 1770, 1771, 131]), (1988, .istore 5, 1990, []), (1990, .aload_n 2, 1991, []), (1991, .aload_n 0, 1992, []), (1992, .iload 4, 1994, []), (1994, .iconst 1, 1995, []), (1995, .iadd, 1996, []), (1996, .iaload, 1997, []), (1997, .invokevirtual 260, 2000, [0, 298, 2, 14, 2427, 2428, 2429, 151]), (2000, .istore 6, 2002, []), (2002, .aload_n 2, 2003, []), (2003, .invokevirtual 115, 2006, [0, 170, 1, 14, 1910, 1911, 1912, 151]), (2006, .iload 5, 2008, []), (2008, .if_icmp .eq 5, 2011, [2013]), (2011, .iconst 0, 2012, []), (2012, .ireturn, 2013, []), (2013, .iload 5, 2015, []), (2015, .ifCond .ne 15, 2018, [2030]), (2018, .aload_n 3, 2019, []), (2019, .iconst 0, 2020, []), (2020, .laload, 2021, []), (2021, .iload 6, 2023, []), (2023, .i2l, 2024, []), (2024, .lcmp, 2025, []), (2025, .ifCond .eq 5, 2028, [2030]), (2028, .iconst 0, 2029, []), (2029, .ireturn, 2030, []), (2030, .goto 223, 2033, [2253]), (2033, .aload_n 1, 2034, []), (2034, .aload_n 0, 2035, []), (2035, .iload 4, 2037, []), (2037, .iconst 1, 2038, []), (2038, .iadd, 2039, []), (2039, .iaload, 2040, []), (2040, .aload_n 3, 2041, []), (2041, .invokestatic 261, 2044, [8, 339, 3, 1778, 1779, 131]), (2044, .istore 5, 2046, []), (2046, .aload_n 2, 2047, []), (2047, .aload_n 0, 2048, []), (2048, .iload 4, 2050, []), (2050, .iconst 1, 2051, []), (2051, .iadd, 2052, []), (2052, .iaload, 2053, []), (2053, .invokevirtual 263, 2056, [0, 303, 2, 14, 2431, 2432, 2433, 151]), (2056, .istore 6, 2058, []), (2058, .aload_n 2, 2059, []), (2059, .invokevirtual 115, 2062, [0, 170, 1, 14, 1910, 1911, 1912, 151]), (2062, .iload 5, 2064, []), (2064, .if_icmp .eq 5, 2067, [2069]), (2067, .iconst 0, 2068, []), (2068, .ireturn, 2069, []), (2069, .iload 5, 2071, []), (2071, .ifCond .ne 15, 2074, [2086]), (2074, .aload_n 3, 2075, []), (2075, .iconst 0, 2076, []), (2076, .laload, 2077, []), (2077, .iload 6, 2079, []), (2079, .i2l, 2080, []), (2080, .lcmp, 2081, []), (2081, .ifCond .eq 5, 2084, [2086]), (2084, .iconst 0, 2085, []), (2085, .ireturn, 2086, []), (2086, .goto 167, 2089, [2253]), (2089, .aload_n 1, 2090, []), (2090, .aload_n 0, 2091, []), (2091, .iload 4, 2093, []), (2093, .iconst 1, 2094, []), (2094, .iadd, 2095, []), (2095, .iaload, 2096, []), (2096, .aload_n 3, 2097, []), (2097, .invokestatic 264, 2100, [8, 340, 3, 1789, 1790, 131]), (2100, .istore 5, 2102, []), (2102, .aload_n 2, 2103, []), (2103, .aload_n 0, 2104, []), (2104, .iload 4, 2106, []), (2106, .iconst 1, 2107, []), (2107, .iadd, 2108, []), (2108, .iaload, 2109, []), (2109, .invokevirtual 266, 2112, [0, 305, 2, 14, 2448, 2449, 2450, 151]), (2112, .istore 6, 2114, []), (2114, .aload_n 2, 2115, []), (2115, .invokevirtual 115, 2118, [0, 170, 1, 14, 1910, 1911, 1912, 151]), (2118, .iload 5, 2120, []), (2120, .if_icmp .eq 5, 2123, [2125]), (2123, .iconst 0, 2124, []), (2124, .ireturn, 2125, []), (2125, .iload 5, 2127, []), (2127, .ifCond .ne 15, 2130, [2142]), (2130, .aload_n 3, 2131, []), (2131, .iconst 0, 2132, []), (2132, .laload, 2133, []), (2133, .iload 6, 2135, []), (2135, .i2l, 2136, []), (2136, .lcmp, 2137, []), (2137, .ifCond .eq 5, 2140, [2142])]
def mm_law_10 : List mm_I := [(2140, .iconst 0, 2141, []), (2141, .ireturn, 2142, []), (2142, .goto 111, 2145, [2253]), (2145, .aload_n 1, 2146, []), (2146, .invokevirtual 267, 2149, [0, 141, 1, 13, 1054, 1055, 1056, 132]), (2149, .aload_n 2, 2150, []), (2150, .invokevirtual 270, 2153, [0, 309, 1, 14, 2460, 2461, 2462, 151]), (2153, .if_icmp .eq 100, 2156, [2253]), (2156, .iconst 0, 2157, []), (2157, .ireturn, 2158, []), (2158, .aload_n 1, 2159, []), (2159, .aload_n 0, 2160, []), (2160, .iload 4, 2162, []), (2162, .iconst 1, 2163, []), (2163, .iadd, 2164, []), (2164, .iaload, 2165, []), (2165, .invokevirtual 271, 2168, [0, 142, 2, 13, 1417, 1418, 1419, 132]), (2168, .aload_n 2, 2169, []), (2169, .aload_n 0, 2170, []), (2170, .iload 4, 2172, []), (2172, .iconst 1, 2173, []), (2173, .iadd, 2174, []), (2174, .iaload, 2175, []), (2175, .invokevirtual 274, 2178, [0, 310, 2, 14, 2483, 2484, 2485, 151]), (2178, .if_icmp .eq 75, 2181, [2253]), (2181, .iconst 0, 2182, []), (2182, .ireturn, 2183, []), (2183, .aload_n 1, 2184, []), (2184, .invokevirtual 275, 2187, [0, 143, 1, 13, 1431, 1432, 1433, 132]), (2187, .aload_n 2, 2188, []), (2188, .invokevirtual 278, 2191, [0, 311, 1, 14, 2487, 2488, 2489, 151]), (2191, .if_icmp .eq 62, 2194, [2253]), (2194, .iconst 0, 2195, []), (2195, .ireturn, 2196, []), (2196, .aload_n 1, 2197, []), (2197, .invokevirtual 279, 2200, [0, 144, 1, 13, 1435, 1436, 1437, 132]), (2200, .aload_n 2, 2201, []), (2201, .invokevirtual 282, 2204, [0, 312, 1, 14, 2491, 2492, 2493, 151]), (2204, .if_icmp .eq 49, 2207, [2253]), (2207, .iconst 0, 2208, []), (2208, .ireturn, 2209, []), (2209, .aload_n 1, 2210, []), (2210, .aload_n 3, 2211, []), (2211, .invokestatic 283, 2214, [8, 341, 2, 1801, 1802, 131]), (2214, .istore 5, 2216, []), (2216, .aload_n 2, 2217, []), (2217, .invokevirtual 285, 2220, [0, 313, 1, 14, 2495, 2496, 2497, 151]), (2220, .istore 6, 2222, []), (2222, .aload_n 2, 2223, []), (2223, .invokevirtual 115, 2226, [0, 170, 1, 14, 1910, 1911, 1912, 151]), (2226, .iload 5, 2228, []), (2228, .if_icmp .eq 5, 2231, [2233]), (2231, .iconst 0, 2232, []), (2232, .ireturn, 2233, []), (2233, .iload 5, 2235, []), (2235, .ifCond .ne 15, 2238, [2250]), (2238, .aload_n 3, 2239, []), (2239, .iconst 0, 2240, []), (2240, .laload, 2241, []), (2241, .iload 6, 2243, []), (2243, .i2l, 2244, []), (2244, .lcmp, 2245, []), (2245, .ifCond .eq 5, 2248, [2250]), (2248, .iconst 0, 2249, []), (2249, .ireturn, 2250, []), (2250, .goto 3, 2253, [2253]), (2253, .iinc 4 6, 2256, []), (2256, .goto (-2233), 2259, [23]), (2259, .iconst 1, 2260, []), (2260, .ireturn, 2261, [])]
def mm_law : List mm_I := mm_law_0 ++ (mm_law_1 ++ (mm_law_2 ++ (mm_law_3 ++ (mm_law_4 ++ (mm_law_5 ++ (mm_law_6 ++ (mm_law_7 ++ (mm_law_8 ++ (mm_law_9 ++ (mm_law_10))))))))))
def mm_P (j : Nat) : Option mm_M := mm_ms[j]?
def mm_ext (k : Nat) : Option mm_C := match k with
  | 1 => some (.inl (0, 5, 1461479336924662698594713458128201467374407953066))
  | 2 => some (.inl (2, 100, 26236211258974475529339486407140129433273663358516705130892305311262076621320399187139529403925983485547388816387358617277261284967674911647279260477326072928178323155844980087380122293388093591932528572011707919696619245205718395747685744545874565080046559802204254128412765573046119077761913940143643394462158068959907034327985269512442424853686342227105702763897252490318201804012028907147204970222948824730720969099199975717118229695069546091945500752626510709535681698071748927829472582528545707501747758397844290506340226448029176345908012308103848352680903352739117733869913835992676382530567552681913094299893627755945453471267452367587230020722712897924791155999314894605470090710943329937129821356135080705349812727388404596817342343624736565854425134110109819924039720250169190219146999947904465191993066703342378889030496723611760654185148064241820311289857311433854369356817432916554016157270723942512545233227520608719990119891507856594174000))
  | 3 => some (.inl (2, 100, 26236211258867307214323904016956531488631077883886977843035430452290398915998972104461317196054065176568602128286323529519431382500846730759259342538381285298574549803162928194612591121068327433137243705666505839239845046742835971191728903695821848863311308091176739923340216097809227949886771801463904917043609507899934456602275723723159277654808084123584199528593462915046672188919986007553816153166382304962748817693461606291318211861087752226420234538356611597722398503857244412932285779995132565214909579803039032968095924423476539845487982803820500683172721312951541562560526276489844352872830158000619438515840803090067408803278892145345968514564308273589339939871002604272265711835416271452964768980463523947251534101443833422811403553488056743538474909912766982153273219976091006948601240818929438319706594958261357258864759768269346202455709729516659403793045761640130276951828240629991982225559291128246289285601589922234310016202108976026878000))
  | 4 => some (.inr (.inr (0, [.ref 5, .int 0])))
  | 5 => some (.inl (2, 16, 349635837658649969110813646319920011331599868708158033788389765419809680947795193822058901992890350036593274502577166448049005564729822650860306534))
  | 6 => some (.inr (.inr (0, [.ref 7, .int 0])))
  | 7 => some (.inl (2, 3, 2139822313027049357422))
  | 8 => some (.inr (.inr (0, [.ref 9, .int 0])))
  | 9 => some (.inl (2, 5, 39132472205336074639533124620939281039467))
  | 10 => some (.inr (.inr (0, [.ref 11, .int 0])))
  | 11 => some (.inl (2, 5, 34368519066779144738430796468111364063341))
  | 12 => some (.inr (.inr (0, [.ref 13, .int 0])))
  | 13 => some (.inl (2, 3, 1992248360424488042593))
  | 14 => some (.inr (.inr (0, [.ref 15, .int 0])))
  | 15 => some (.inl (2, 6, 160765180144170663739265370759291221489286224281699))
  | 16 => some (.inr (.inr (0, [.ref 17, .int 0])))
  | 17 => some (.inl (2, 3, 1844674407843401564257))
  | 18 => some (.inr (.inr (0, [.ref 19, .int 0])))
  | 19 => some (.inl (2, 2, 489626271855))
  | 20 => some (.inr (.inr (0, [.ref 21, .int 0])))
  | 21 => some (.inl (2, 4, 9190466853443997336447601344628))
  | 22 => some (.inr (.inr (0, [.ref 23, .int 0])))
  | 23 => some (.inl (2, 5, 39132472205098390151768970679218299994214))
  | 24 => some (.inr (.inr (0, [.ref 25, .int 0])))
  | 25 => some (.inl (2, 3, 2195162545188048470124))
  | 26 => some (.inr (.inr (0, [.ref 27, .int 0])))
  | 27 => some (.inl (2, 6, 160765180144170663739740739734469041235173086068848))
  | 28 => some (.inr (.inr (0, [.ref 29, .int 0])))
  | 29 => some (.inl (2, 4, 8556641553329882635686364840050))
  | 30 => some (.inr (.inr (0, [.ref 31, .int 0])))
  | 31 => some (.inl (2, 5, 10889035749392847084283563045695640305696))
  | 32 => some (.inr (.inr (0, [.ref 33, .int 0])))
  | 33 => some (.inl (2, 4, 2535301202559387627873036664864))
  | 34 => some (.inr (.inr (0, [.ref 35, .int 0])))
  | 35 => some (.inl (2, 1, 41))
  | 36 => some (.inr (.inr (0, [.ref 37, .int 0])))
  | 37 => some (.inl (2, 8, 2722954614003647691225415099554938208875860019735849454146537387982945))
  | 38 => some (.inr (.inr (0, [.ref 39, .int 0])))
  | 39 => some (.inl (2, 3, 2232056033335467573363))
  | 40 => some (.inr (.inr (0, [.ref 41, .int 0])))
  | 41 => some (.inl (2, 7, 715589597981693272485812814088502486138988368637950894801015))
  | 42 => some (.inr (.inr (0, [.ref 43, .int 0])))
  | 43 => some (.inl (2, 4, 9428151341245044766260166918259))
  | 44 => some (.inr (.inr (0, [.ref 45, .int 0])))
  | 45 => some (.inl (2, 5, 34028236700808944225064806935567414591602))
  | 46 => some (.inr (.inr (0, [.ref 47, .int 0])))
  | 47 => some (.inl (2, 2, 137438953592))
  | 48 => some (.inr (.inr (0, [.ref 49, .int 0])))
  | 49 => some (.inl (2, 4, 2535301202596281116020455768174))
  | 50 => some (.inr (.inr (0, [.ref 51, .int 0])))
  | 51 => some (.inl (2, 6, 46768052433721365587853989286454181249929122414699))
  | 52 => some (.inr (.inr (0, [.ref 53, .int 0])))
  | 53 => some (.inl (2, 6, 46768052428957412449297059385351853097101205438573))
  | 54 => some (.inr (.inr (0, [.ref 55, .int 0])))
  | 55 => some (.inl (2, 4, 2535301202448707163417894453345))
  | 56 => some (.inr (.inr (0, [.ref 57, .int 0])))
  | 57 => some (.inl (2, 7, 200867255693138964586915925281910696074566595712135328694371))
  | _ => none
def mm_stc (k : Nat) : Option Value := match k with
  | 0 => some (.int 1)
  | 1 => some (.int 1)
  | 2 => some (.int 0)
  | 3 => some (.int 8)
  | 4 => some (.ref 1)
  | 5 => some (.ref 2)
  | 6 => some (.ref 3)
  | 7 => some (.ref 63)
  | _ => none
end
section
/-! ===== the mini machine's numbers are the machine's ===== -/
theorem mm_fN_eq {α : Type} (n : Nat) (k : Nat → α) : mm_fN n k = k n := by cases n <;> rfl
theorem mm_fI_eq {α : Type} (x : Int32) (k : Int32 → α) : mm_fI x k = k x := by
  unfold mm_fI
  rw [mm_fN_eq]
  congr 1
  apply Int32.toBitVec_inj.mp
  simp
theorem mm_fL_eq {α : Type} (x : Int64) (k : Int64 → α) : mm_fL x k = k x := by
  unfold mm_fL
  rw [mm_fN_eq]
  congr 1
  apply Int64.toBitVec_inj.mp
  simp
theorem mm_un_bv (x : Int32) : mm_un x = x.toBitVec.toNat := rfl
theorem mm_un_lt (x : Int32) : mm_un x < 4294967296 := by rw [mm_un_bv]; exact x.toBitVec.isLt
theorem mm_eq_iff (x y : Int32) : mm_eq x y = true ↔ x = y := by
  unfold mm_eq
  rw [Nat.beq_eq, mm_un_bv, mm_un_bv, BitVec.toNat_inj, Int32.toBitVec_inj]
theorem mm_toInt (x : Int32) : x.toInt = if mm_un x < 2147483648 then (mm_un x : Int) else (mm_un x : Int) - 4294967296 := by
  have h := BitVec.toInt_eq_toNat_cond x.toBitVec
  rw [mm_un_bv]
  show x.toBitVec.toInt = _
  rw [h]
  split <;> split <;> omega
theorem mm_lt_iff (x y : Int32) : mm_lt x y = true ↔ x < y := by
  unfold mm_lt mm_sn
  rw [Nat.ble_eq, Int32.lt_iff_toInt_lt, mm_toInt x, mm_toInt y]
  have hx := mm_un_lt x
  have hy := mm_un_lt y
  split <;> split <;> omega
theorem mm_nonneg {x : Int32} (h : mm_un x < 2147483648) : ¬ x < 0 ∧ x.toNatClampNeg = mm_un x ∧ x.toInt = mm_un x := by
  have h1 := mm_toInt x
  rw [if_pos h] at h1
  refine ⟨fun q => ?_, ?_, h1⟩
  · rw [Int32.lt_iff_toInt_lt, h1] at q
    simp at q
    omega
  · show x.toInt.toNat = _
    rw [h1]
    rfl
theorem mm_in_ok {i : Int32} {n : Nat} (h : mm_in i n = true) : vp_in i n ∧ i.toNatClampNeg = mm_un i ∧ mm_un i < n := by
  unfold mm_in at h
  simp only [Bool.and_eq_true, Nat.ble_eq] at h
  obtain ⟨h1, h2⟩ := h
  obtain ⟨a, b, -⟩ := mm_nonneg (x := i) (by omega)
  exact ⟨fun q => q.elim a (fun q => by rw [b] at q; omega), b, h1⟩
theorem mm_lN (x : Int64) : ∃ (a : Nat) (M : Nat), x.toUInt64.toNat = a ∧ a < 2 * M ∧ M = 9223372036854775808 ∧ x.toInt = if a < M then (a : Int) else (a : Int) - 2 * (M : Int) := by
  refine ⟨x.toUInt64.toNat, 2 ^ 63, rfl, ?_, by rfl, ?_⟩
  · have h := UInt64.toNat_lt x.toUInt64
    omega
  · have h := BitVec.toInt_eq_toNat_cond x.toBitVec
    show x.toBitVec.toInt = if x.toBitVec.toNat < _ then (x.toBitVec.toNat : Int) else (x.toBitVec.toNat : Int) - _
    rw [h]
    split <;> split <;> omega
theorem mm_lsn_lt (x y : Int64) : mm_lsn x < mm_lsn y ↔ x < y := by
  obtain ⟨a, M, ha, la, hM, ta⟩ := mm_lN x
  obtain ⟨b, M', hb, lb, hM', tb⟩ := mm_lN y
  have e : M' = M := hM'.trans hM.symm
  subst e
  unfold mm_lsn
  rw [Int64.lt_iff_toInt_lt, ta, tb, ha, hb, ← hM]
  clear ta tb ha hb hM hM'
  by_cases h1 : M' ≤ a
  · rw [show Nat.ble M' a = true from Nat.ble_eq.mpr h1, if_neg (by omega)]
    by_cases h2 : M' ≤ b
    · rw [show Nat.ble M' b = true from Nat.ble_eq.mpr h2, if_neg (by omega)]
      show a - M' < b - M' ↔ _
      omega
    · rw [show Nat.ble M' b = false from by rw [← Bool.not_eq_true, Nat.ble_eq]; exact h2, if_pos (by omega)]
      show a - M' < b + M' ↔ _
      omega
  · rw [show Nat.ble M' a = false from by rw [← Bool.not_eq_true, Nat.ble_eq]; exact h1, if_pos (by omega)]
    by_cases h2 : M' ≤ b
    · rw [show Nat.ble M' b = true from Nat.ble_eq.mpr h2, if_neg (by omega)]
      show a + M' < b - M' ↔ _
      omega
    · rw [show Nat.ble M' b = false from by rw [← Bool.not_eq_true, Nat.ble_eq]; exact h2, if_pos (by omega)]
      show a + M' < b + M' ↔ _
      omega
theorem mm_lcmp_eq (x y : Int64) : mm_lcmp x y = lg_cmp x y := by
  unfold mm_lcmp lg_cmp
  have h1 := mm_lsn_lt x y
  have h2 := mm_lsn_lt y x
  by_cases a : mm_lsn x < mm_lsn y
  · rw [show Nat.ble (mm_lsn x + 1) (mm_lsn y) = true from Nat.ble_eq.mpr a]
    have e1 : x < y := h1.mp a
    have e2 : ¬ x > y := fun q => by have := h2.mpr q; omega
    have e3 : ¬ x = y := fun q => by subst q; omega
    rw [if_neg e2, if_neg e3]
  · rw [show Nat.ble (mm_lsn x + 1) (mm_lsn y) = false from by rw [← Bool.not_eq_true, Nat.ble_eq]; exact a]
    by_cases b : mm_lsn y < mm_lsn x
    · have e1 : x > y := h2.mp b
      rw [if_pos e1, show Nat.beq (mm_lsn x) (mm_lsn y) = false from by rw [← Bool.not_eq_true, Nat.beq_eq]; omega]
    · have e1 : ¬ x > y := fun q => b (h2.mpr q)
      have e2 : ¬ x < y := fun q => a (h1.mpr q)
      have e3 : x = y := by
        rw [Int64.lt_iff_toInt_lt] at e2
        have e1 : ¬ y < x := e1
        rw [Int64.lt_iff_toInt_lt] at e1
        exact Int64.toInt_inj.mp (by omega)
      rw [if_neg e1, if_pos e3, show Nat.beq (mm_lsn x) (mm_lsn y) = true from by rw [Nat.beq_eq]; omega]
theorem mm_ag_lt (w N i : Nat) : mm_ag w N i < 2 ^ w := Nat.mod_lt _ (Nat.two_pow_pos w)
theorem mm_tb (w N i k : Nat) : (mm_ag w N i).testBit k = (decide (k < w) && N.testBit (w * i + k)) := by
  unfold mm_ag
  rw [Nat.testBit_mod_two_pow, Nat.testBit_shiftRight]
theorem mm_ag_as (w N i v j : Nat) (hw : 0 < w) : mm_ag w (mm_as w N i v) j = if j = i then v % 2 ^ w else mm_ag w N j := by
  apply Nat.eq_of_testBit_eq
  intro k
  by_cases hk : k < w
  · rw [mm_tb, mm_as, Nat.testBit_xor, Nat.testBit_shiftLeft, Nat.testBit_xor, mm_tb, Nat.testBit_mod_two_pow]
    by_cases hj : j = i
    · subst hj
      simp [hk, Nat.testBit_mod_two_pow]
    · rw [if_neg hj, mm_tb]
      rcases Nat.lt_or_gt_of_ne hj with h | h
      · have : ¬ w * i ≤ w * j + k := by
          have : w * (j + 1) ≤ w * i := Nat.mul_le_mul_left w h
          rw [Nat.mul_add] at this
          omega
        simp [this]
      · have h1 : w * (i + 1) ≤ w * j := Nat.mul_le_mul_left w h
        rw [Nat.mul_add] at h1
        have : ¬ w * j + k - w * i < w := by omega
        simp [this]
  · rw [mm_tb]
    split
    · rw [Nat.testBit_mod_two_pow]; simp [hk]
    · rw [mm_tb]; simp [hk]
theorem mm_ag_0 (w j : Nat) : mm_ag w 0 j = 0 := by simp [mm_ag]
theorem mm_cpy_ag (w N : Nat) (hw : 0 < w) : ∀ (k p M q j : Nat), mm_ag w (mm_cpy w N p M q k) j = if q ≤ j ∧ j < q + k then mm_ag w N (p + (j - q)) else mm_ag w M j := by
  intro k
  induction k with
  | zero =>
    intro p M q j
    rw [if_neg (by omega)]
    rfl
  | succ k ih =>
    intro p M q j
    show mm_ag w (mm_fN _ _) j = _
    rw [mm_fN_eq, ih, mm_ag_as _ _ _ _ _ hw]
    by_cases h1 : q + 1 ≤ j ∧ j < q + 1 + k
    · rw [if_pos h1, if_pos (by omega), show p + 1 + (j - (q + 1)) = p + (j - q) by omega]
    · rw [if_neg h1]
      by_cases h2 : j = q
      · subst h2
        rw [if_pos rfl, if_pos (by omega), Nat.sub_self, Nat.add_zero, Nat.mod_eq_of_lt (mm_ag_lt _ _ _)]
      · rw [if_neg h2, if_neg (by omega)]
theorem mm_cnd_iff (c : ClassFile.Cond) (x y : Int32) : mm_cnd c x y = true ↔ (match c with | .eq => x = y | .ne => ¬ x = y | .lt => x < y | .ge => ¬ x < y | .gt => y < x | .le => ¬ y < x) := by
  cases c <;> simp only [mm_cnd, Bool.not_eq_true', ← Bool.not_eq_true, mm_eq_iff, mm_lt_iff]
end
section
/-- a method: its name, its bytes, its answer's type, whether it has handlers -/
abbrev mm_N : Type := MethodName × ByteArray × Option FieldType × Bool
/-! ===== names and tables for the checks (by program) ===== -/
def mm_cls : List (String × List (String × String × String × Bool)) := [("java/lang/String", [("java/lang/String", "value", "[B", true), ("java/lang/String", "coder", "B", true)]), ("java/lang/StringBuilder", [("java/lang/AbstractStringBuilder", "value", "[B", false), ("java/lang/AbstractStringBuilder", "coder", "B", false), ("java/lang/AbstractStringBuilder", "maybeLatin1", "Z", false), ("java/lang/AbstractStringBuilder", "count", "I", false)]), ("WhoKnows$DescriptionReader", [("WhoKnows$DescriptionReader", "source", "LWhoKnows$Source;", true), ("WhoKnows$DescriptionReader", "formulaReader", "LWhoKnows$FormulaReader;", true), ("WhoKnows$DescriptionReader", "law", "LWhoKnows$Formula;", true), ("WhoKnows$DescriptionReader", "lawful", "LWhoKnows$Knowledge;", true)]), ("WhoKnows$Formula", [("WhoKnows$Formula", "sorts", "[I", true), ("WhoKnows$Formula", "numbers", "[I", true), ("WhoKnows$Formula", "values", "[I", true), ("WhoKnows$Formula", "count", "I", false)]), ("WhoKnows$FormulaReader", [("WhoKnows$FormulaReader", "source", "LWhoKnows$Source;", true), ("WhoKnows$FormulaReader", "waitingSorts", "[I", true), ("WhoKnows$FormulaReader", "waitingNumbers", "[I", true), ("WhoKnows$FormulaReader", "waiting", "I", false), ("WhoKnows$FormulaReader", "open", "I", false), ("WhoKnows$FormulaReader", "nodes", "I", false)]), ("WhoKnows$Knowledge", [("WhoKnows$Knowledge", "alikeSets", "[I", true), ("WhoKnows$Knowledge", "left", "I", false), ("WhoKnows$Knowledge", "persons", "I", false)]), ("WhoKnows$Log", [("WhoKnows$Log", "sorts", "[I", true), ("WhoKnows$Log", "persons", "[I", true), ("WhoKnows$Log", "ruledOut", "[I", true), ("WhoKnows$Log", "accounts", "[I", true), ("WhoKnows$Log", "count", "I", false)]), ("WhoKnows$Names", [("WhoKnows$Names", "names", "[I", true), ("WhoKnows$Names", "count", "I", false)]), ("WhoKnows$Order", [("WhoKnows$Order", "formula", "LWhoKnows$Formula;", true), ("WhoKnows$Order", "sort", "I", false), ("WhoKnows$Order", "person", "I", false), ("WhoKnows$Order", "persons", "I", false), ("WhoKnows$Order", "fact", "I", false)]), ("WhoKnows$OrderReader", [("WhoKnows$OrderReader", "source", "LWhoKnows$Source;", true), ("WhoKnows$OrderReader", "formulaReader", "LWhoKnows$FormulaReader;", true), ("WhoKnows$OrderReader", "orders", "[LWhoKnows$Order;", true), ("WhoKnows$OrderReader", "count", "I", false)]), ("WhoKnows$Scene", [("WhoKnows$Scene", "facts", "LWhoKnows$Names;", true), ("WhoKnows$Scene", "persons", "LWhoKnows$Names;", true), ("WhoKnows$Scene", "seen", "[I", true), ("WhoKnows$Scene", "laws", "I", false), ("WhoKnows$Scene", "first", "I", false), ("WhoKnows$Scene", "real", "I", false)]), ("WhoKnows$Source", [("WhoKnows$Source", "bytes", "[I", true), ("WhoKnows$Source", "kinds", "[I", true), ("WhoKnows$Source", "starts", "[I", true), ("WhoKnows$Source", "names", "[I", true), ("WhoKnows$Source", "length", "I", false), ("WhoKnows$Source", "tokens", "I", false), ("WhoKnows$Source", "token", "I", false), ("WhoKnows$Source", "kind", "I", false), ("WhoKnows$Source", "start", "I", false), ("WhoKnows$Source", "name", "I", false), ("WhoKnows$Source", "errorCode", "I", false), ("WhoKnows$Source", "errorPosition", "I", false)]), ("WhoKnows$State", [("WhoKnows$State", "known", "LWhoKnows$Knowledge;", true), ("WhoKnows$State", "question", "LWhoKnows$Formula;", true), ("WhoKnows$State", "log", "LWhoKnows$Log;", true), ("WhoKnows$State", "scene", "LWhoKnows$Scene;", false)]), ("WhoKnows", [("WhoKnows", "source", "LWhoKnows$Source;", true), ("WhoKnows", "formulaReader", "LWhoKnows$FormulaReader;", true), ("WhoKnows", "descriptionReader", "LWhoKnows$DescriptionReader;", true), ("WhoKnows", "orderReader", "LWhoKnows$OrderReader;", true), ("WhoKnows", "spareFormula", "LWhoKnows$Formula;", true), ("WhoKnows", "spareKnowledge", "LWhoKnows$Knowledge;", true), ("WhoKnows", "tasks", "[I", true), ("WhoKnows", "output", "Ljava/lang/StringBuilder;", true), ("WhoKnows", "now", "LWhoKnows$State;", true), ("WhoKnows", "saved", "LWhoKnows$State;", true), ("WhoKnows", "past", "[LWhoKnows$State;", true), ("WhoKnows", "isSaved", "Z", false), ("WhoKnows", "pastCount", "I", false), ("WhoKnows", "pastNext", "I", false)]), ("WhoKnowsModel", [("WhoKnowsModel", "s", "[I", true), ("WhoKnowsModel", "saved", "[I", true), ("WhoKnowsModel", "held", "[I", true), ("WhoKnowsModel", "aside", "[I", true), ("WhoKnowsModel", "past", "[I", true), ("WhoKnowsModel", "pastMany", "I", false), ("WhoKnowsModel", "thrown", "I", false), ("WhoKnowsModel", "isSaved", "Z", false), ("WhoKnowsModel", "isTrue", "[I", true), ("WhoKnowsModel", "buffer", "[I", true), ("WhoKnowsModel", "length", "I", false), ("WhoKnowsModel", "at", "I", false), ("WhoKnowsModel", "begin", "I", false), ("WhoKnowsModel", "wordLong", "I", false), ("WhoKnowsModel", "error", "I", false), ("WhoKnowsModel", "errorAt", "I", false), ("WhoKnowsModel", "toldError", "I", false), ("WhoKnowsModel", "toldAt", "I", false), ("WhoKnowsModel", "forms", "[I", true), ("WhoKnowsModel", "base", "I", false), ("WhoKnowsModel", "nodesSeen", "I", false), ("WhoKnowsModel", "opened", "I", false), ("WhoKnowsModel", "isPlain", "Z", false), ("WhoKnowsModel", "order", "[I", true), ("WhoKnowsModel", "orders", "I", false), ("WhoKnowsModel", "output", "[I", true), ("WhoKnowsModel", "outputLong", "I", false)]), ("java/lang/IllegalArgumentException", []), ("java/lang/IndexOutOfBoundsException", []), ("java/lang/IllegalStateException", [])]
def mm_strs : List String := ["WhoKnows", "java/lang/AbstractStringBuilder", "java/lang/StringBuilder"]
def mm_str (k : Nat) : String := mm_strs.getD k ""
def mm_stn : List (String × String × String) := [("java/lang/String", "COMPACT_STRINGS", "Z"), ("java/lang/StringUTF16", "$assertionsDisabled", "Z"), ("java/lang/StringUTF16", "HI_BYTE_SHIFT", "I"), ("java/lang/StringUTF16", "LO_BYTE_SHIFT", "I"), ("WhoKnows", "HOLDING", "[I"), ("java/lang/Integer", "DigitTens", "[B"), ("java/lang/Integer", "DigitOnes", "[B"), ("jdk/internal/util/Preconditions", "SIOOBE_FORMATTER", "Ljava/util/function/BiFunction;")]
def mm_sites : List (String × Nat × Nat) := [("WhoKnows", 68, 4), ("WhoKnows", 374, 6), ("WhoKnows", 376, 8), ("WhoKnows", 378, 10), ("WhoKnows", 380, 12), ("WhoKnows", 382, 14), ("WhoKnows", 384, 16), ("WhoKnows", 386, 18), ("WhoKnows$Source", 91, 20), ("WhoKnows$DescriptionReader", 98, 22), ("WhoKnows$DescriptionReader", 57, 24), ("WhoKnows$DescriptionReader", 65, 26), ("WhoKnows$DescriptionReader", 70, 28), ("java/util/Arrays", 59, 34), ("WhoKnows$Formula", 65, 30), ("WhoKnows$Formula", 67, 32), ("WhoKnows$Formula", 69, 34), ("WhoKnows", 388, 36), ("WhoKnows", 390, 38), ("WhoKnows", 392, 40), ("WhoKnows", 394, 42), ("WhoKnows", 396, 44), ("WhoKnows", 312, 46), ("WhoKnowsModel", 251, 22), ("WhoKnowsModel", 170, 6), ("WhoKnowsModel", 172, 16), ("WhoKnowsModel", 174, 18), ("WhoKnowsModel", 176, 8), ("WhoKnowsModel", 178, 10), ("WhoKnowsModel", 180, 12), ("WhoKnowsModel", 182, 14), ("WhoKnowsModel", 184, 20), ("WhoKnowsModel", 268, 24), ("WhoKnowsModel", 276, 26), ("WhoKnowsModel", 281, 28), ("WhoKnowsModel", 331, 36), ("WhoKnowsModel", 333, 38), ("WhoKnowsModel", 335, 40), ("WhoKnowsModel", 337, 42), ("WhoKnowsModel", 339, 44), ("WhoKnowsModel", 434, 46), ("WhoKnowsModel", 452, 48), ("WhoKnowsModel", 458, 30), ("WhoKnowsModel", 464, 32), ("WhoKnowsModel", 466, 50), ("WhoKnowsModel", 468, 52), ("WhoKnowsModel", 470, 54), ("WhoKnowsModel", 472, 56)]
def mm_thr : List (String × Nat × Nat) := [("WhoKnows", 107, 17), ("WhoKnows", 114, 15), ("WhoKnows", 209, 16)]
def mt_sels : List Jvm.Cond := [.selects "java/lang/StringBuilder" ⟨"java/lang/AbstractStringBuilder", "appendNull", "()Ljava/lang/AbstractStringBuilder;"⟩ ⟨"java/lang/AbstractStringBuilder", "appendNull", "()Ljava/lang/AbstractStringBuilder;"⟩, .selects "java/lang/StringBuilder" ⟨"java/lang/AbstractStringBuilder", "ensureCapacityInternal", "(I)V"⟩ ⟨"java/lang/AbstractStringBuilder", "ensureCapacityInternal", "(I)V"⟩, .selects "java/lang/StringBuilder" ⟨"java/lang/AbstractStringBuilder", "newCapacity", "(I)I"⟩ ⟨"java/lang/AbstractStringBuilder", "newCapacity", "(I)I"⟩, .selects "java/lang/StringBuilder" ⟨"java/lang/AbstractStringBuilder", "putStringAt", "(ILjava/lang/String;)V"⟩ ⟨"java/lang/AbstractStringBuilder", "putStringAt", "(ILjava/lang/String;)V"⟩, .selects "java/lang/StringBuilder" ⟨"java/lang/AbstractStringBuilder", "inflateIfNeededFor", "(Ljava/lang/String;)V"⟩ ⟨"java/lang/AbstractStringBuilder", "inflateIfNeededFor", "(Ljava/lang/String;)V"⟩, .selects "java/lang/StringBuilder" ⟨"java/lang/AbstractStringBuilder", "inflate", "()V"⟩ ⟨"java/lang/AbstractStringBuilder", "inflate", "()V"⟩]
def mt_tbl : List Jvm.Cond := mt_sels ++ (k2_sels lw_privs ++ tables_1)
def mm_ns_0 : List mm_N := [(⟨"WhoKnows$DescriptionReader", "<init>", "(LWhoKnows$Source;LWhoKnows$FormulaReader;LWhoKnows$Formula;LWhoKnows$Knowledge;)V"⟩, prog_2_method_1_code, none, false), (⟨"WhoKnows$DescriptionReader", "read", "()LWhoKnows$Scene;"⟩, prog_2_method_2_code, (some ((.object "WhoKnows$Scene"))), false), (⟨"WhoKnows$DescriptionReader", "isAtEnd", "(LWhoKnows$Scene;)Z"⟩, prog_2_method_3_code, (some (.boolean)), false), (⟨"WhoKnows$DescriptionReader", "readFacts", "(LWhoKnows$Scene;)V"⟩, prog_2_method_4_code, none, false), (⟨"WhoKnows$DescriptionReader", "readLaw", "(LWhoKnows$Scene;)V"⟩, prog_2_method_5_code, none, false), (⟨"WhoKnows$DescriptionReader", "readPerson", "(LWhoKnows$Scene;)V"⟩, prog_2_method_6_code, none, false), (⟨"WhoKnows$DescriptionReader", "readReal", "(LWhoKnows$Scene;)V"⟩, prog_2_method_7_code, none, false), (⟨"WhoKnows$Formula", "<init>", "()V"⟩, prog_3_method_1_code, none, false), (⟨"WhoKnows$Formula", "clear", "()V"⟩, prog_3_method_2_code, none, false), (⟨"WhoKnows$Formula", "add", "(II)V"⟩, prog_3_method_3_code, none, false), (⟨"WhoKnows$Formula", "copyFrom", "(LWhoKnows$Formula;)V"⟩, prog_3_method_4_code, none, false), (⟨"WhoKnows$Formula", "truthIn", "(LWhoKnows$Knowledge;)I"⟩, prog_3_method_5_code, (some (.int)), false), (⟨"WhoKnows$Formula", "depth", "()I"⟩, prog_3_method_6_code, (some (.int)), false), (⟨"WhoKnows$Formula", "writeTo", "(Ljava/lang/StringBuilder;LWhoKnows$Scene;[I)V"⟩, prog_3_method_7_code, none, false), (⟨"WhoKnows$Formula", "writePrefix", "(Ljava/lang/StringBuilder;LWhoKnows$Scene;I)V"⟩, prog_3_method_8_code, none, false), (⟨"WhoKnows$Formula", "findBegins", "()V"⟩, prog_3_method_9_code, none, false), (⟨"WhoKnows$FormulaReader", "<init>", "(LWhoKnows$Source;)V"⟩, prog_4_method_1_code, none, false), (⟨"WhoKnows$FormulaReader", "read", "(LWhoKnows$Scene;ZLWhoKnows$Formula;)V"⟩, prog_4_method_2_code, none, false), (⟨"WhoKnows$FormulaReader", "readItem", "(LWhoKnows$Scene;ZLWhoKnows$Formula;)Z"⟩, prog_4_method_3_code, (some (.boolean)), false), (⟨"WhoKnows$FormulaReader", "readOpen", "()V"⟩, prog_4_method_4_code, none, false), (⟨"WhoKnows$FormulaReader", "readJoin", "(LWhoKnows$Formula;)V"⟩, prog_4_method_5_code, none, false), (⟨"WhoKnows$FormulaReader", "readClose", "(LWhoKnows$Formula;)V"⟩, prog_4_method_6_code, none, false), (⟨"WhoKnows$FormulaReader", "takeNode", "()Z"⟩, prog_4_method_7_code, (some (.boolean)), false), (⟨"WhoKnows$FormulaReader", "hold", "(II)V"⟩, prog_4_method_8_code, none, false), (⟨"WhoKnows$FormulaReader", "release", "(ILWhoKnows$Formula;)V"⟩, prog_4_method_9_code, none, false), (⟨"WhoKnows$Knowledge", "<init>", "()V"⟩, prog_5_method_1_code, none, false), (⟨"WhoKnows$Knowledge", "begin", "(LWhoKnows$Scene;)V"⟩, prog_5_method_2_code, none, false), (⟨"WhoKnows$Knowledge", "copyFrom", "(LWhoKnows$Knowledge;)V"⟩, prog_5_method_3_code, none, false), (⟨"WhoKnows$Knowledge", "leftCount", "()I"⟩, prog_5_method_4_code, (some (.int)), false), (⟨"WhoKnows$Knowledge", "likeTo", "(II)I"⟩, prog_5_method_5_code, (some (.int)), false), (⟨"WhoKnows$Knowledge", "isLowest", "(II)Z"⟩, prog_5_method_6_code, (some (.boolean)), false), (⟨"WhoKnows$Knowledge", "sumOfAlike", "(I)I"⟩, prog_5_method_7_code, (some (.int)), false), (⟨"WhoKnows$Knowledge", "neighbours", "(I)I"⟩, prog_5_method_8_code, (some (.int)), false), (⟨"WhoKnows$Knowledge", "reachedFrom", "(I)I"⟩, prog_5_method_9_code, (some (.int)), false), (⟨"WhoKnows$Knowledge", "stepsBetween", "(II)I"⟩, prog_5_method_10_code, (some (.int)), false), (⟨"WhoKnows$Knowledge", "knowing", "(II)I"⟩, prog_5_method_11_code, (some (.int)), false), (⟨"WhoKnows$Knowledge", "knownToAll", "(I)I"⟩, prog_5_method_12_code, (some (.int)), false), (⟨"WhoKnows$Knowledge", "prefixed", "(III)I"⟩, prog_5_method_13_code, (some (.int)), false), (⟨"WhoKnows$Knowledge", "knowersOf", "(II)I"⟩, prog_5_method_14_code, (some (.int)), false), (⟨"WhoKnows$Knowledge", "decidersOf", "(II)I"⟩, prog_5_method_15_code, (some (.int)), false), (⟨"WhoKnows$Knowledge", "deciding", "(II)I"⟩, prog_5_method_16_code, (some (.int)), false), (⟨"WhoKnows$Knowledge", "tellApart", "(II)I"⟩, prog_5_method_17_code, (some (.int)), false), (⟨"WhoKnows$Log", "<init>", "()V"⟩, prog_6_method_1_code, none, false), (⟨"WhoKnows$Log", "clear", "()V"⟩, prog_6_method_2_code, none, false), (⟨"WhoKnows$Log", "copyFrom", "(LWhoKnows$Log;)V"⟩, prog_6_method_3_code, none, false), (⟨"WhoKnows$Log", "add", "(IIII)V"⟩, prog_6_method_4_code, none, false), (⟨"WhoKnows$Log", "numberOf", "(II)I"⟩, prog_6_method_5_code, (some (.int)), false), (⟨"WhoKnows$Log", "pushAhead", "([II)V"⟩, prog_6_method_6_code, none, false), (⟨"WhoKnows$Names", "<init>", "(I)V"⟩, prog_7_method_1_code, none, false), (⟨"WhoKnows$Names", "isFull", "()Z"⟩, prog_7_method_2_code, (some (.boolean)), false), (⟨"WhoKnows$Names", "add", "(I)V"⟩, prog_7_method_3_code, none, false), (⟨"WhoKnows$Names", "find", "(I)I"⟩, prog_7_method_4_code, (some (.int)), false), (⟨"WhoKnows$Names", "letterOf", "(II)I"⟩, prog_7_method_5_code, (some (.int)), false), (⟨"WhoKnows$Names", "writeTo", "(Ljava/lang/StringBuilder;I)V"⟩, prog_7_method_6_code, none, false), (⟨"WhoKnows$Order", "<init>", "()V"⟩, prog_8_method_1_code, none, false), (⟨"WhoKnows$OrderReader", "<init>", "(LWhoKnows$Source;LWhoKnows$FormulaReader;)V"⟩, prog_9_method_1_code, none, false), (⟨"WhoKnows$OrderReader", "orderAt", "(I)LWhoKnows$Order;"⟩, prog_9_method_2_code, (some ((.object "WhoKnows$Order"))), false), (⟨"WhoKnows$OrderReader", "read", "(LWhoKnows$Scene;)V"⟩, prog_9_method_3_code, none, false), (⟨"WhoKnows$OrderReader", "openOrder", "()LWhoKnows$Order;"⟩, prog_9_method_4_code, (some ((.object "WhoKnows$Order"))), false), (⟨"WhoKnows$OrderReader", "readParts", "(LWhoKnows$Scene;LWhoKnows$Order;)V"⟩, prog_9_method_5_code, none, false)]
def mm_ns_1 : List mm_N := [(⟨"WhoKnows$OrderReader", "readHearers", "(LWhoKnows$Scene;LWhoKnows$Order;)V"⟩, prog_9_method_6_code, none, false), (⟨"WhoKnows$Scene", "<init>", "()V"⟩, prog_10_method_1_code, none, false), (⟨"WhoKnows$Source", "<init>", "()V"⟩, prog_11_method_1_code, none, false), (⟨"WhoKnows$Source", "fill", "(Ljava/lang/String;)V"⟩, prog_11_method_2_code, none, false), (⟨"WhoKnows$Source", "addNumber", "(I)V"⟩, prog_11_method_3_code, none, false), (⟨"WhoKnows$Source", "begin", "()V"⟩, prog_11_method_4_code, none, false), (⟨"WhoKnows$Source", "finish", "()Z"⟩, prog_11_method_5_code, (some (.boolean)), false), (⟨"WhoKnows$Source", "scan", "(I)I"⟩, prog_11_method_6_code, (some (.int)), false), (⟨"WhoKnows$Source", "kindOfWord", "(I)I"⟩, prog_11_method_7_code, (some (.int)), false), (⟨"WhoKnows$Source", "nameAt", "(I)I"⟩, prog_11_method_8_code, (some (.int)), false), (⟨"WhoKnows$Source", "spells", "(ILjava/lang/String;)Z"⟩, prog_11_method_9_code, (some (.boolean)), false), (⟨"WhoKnows$Source", "isLetter", "(I)Z"⟩, prog_11_method_10_code, (some (.boolean)), false), (⟨"WhoKnows$Source", "byteAt", "(I)I"⟩, prog_11_method_11_code, (some (.int)), false), (⟨"WhoKnows$Source", "addToken", "(III)V"⟩, prog_11_method_12_code, none, false), (⟨"WhoKnows$Source", "advance", "()V"⟩, prog_11_method_13_code, none, false), (⟨"WhoKnows$Source", "fail", "(II)V"⟩, prog_11_method_14_code, none, false), (⟨"WhoKnows$Source", "hasError", "()Z"⟩, prog_11_method_15_code, (some (.boolean)), false), (⟨"WhoKnows$Source", "isWord", "(Ljava/lang/String;)Z"⟩, prog_11_method_16_code, (some (.boolean)), false), (⟨"WhoKnows$Source", "isName", "()Z"⟩, prog_11_method_17_code, (some (.boolean)), false), (⟨"WhoKnows$Source", "takeWord", "(Ljava/lang/String;)V"⟩, prog_11_method_18_code, none, false), (⟨"WhoKnows$Source", "take", "(I)Z"⟩, prog_11_method_19_code, (some (.boolean)), false), (⟨"WhoKnows$Source", "needEnd", "()V"⟩, prog_11_method_20_code, none, false), (⟨"WhoKnows$Source", "takeNew", "(LWhoKnows$Names;)V"⟩, prog_11_method_21_code, none, false), (⟨"WhoKnows$Source", "known", "(LWhoKnows$Names;)I"⟩, prog_11_method_22_code, (some (.int)), false), (⟨"WhoKnows$Source", "takeKnown", "(LWhoKnows$Names;)I"⟩, prog_11_method_23_code, (some (.int)), false), (⟨"WhoKnows$Source", "takeSet", "(LWhoKnows$Names;)I"⟩, prog_11_method_24_code, (some (.int)), false), (⟨"WhoKnows$State", "<init>", "(LWhoKnows$Scene;)V"⟩, prog_12_method_1_code, none, false), (⟨"WhoKnows$State", "begin", "(LWhoKnows$Scene;)V"⟩, prog_12_method_2_code, none, false), (⟨"WhoKnows$State", "copyFrom", "(LWhoKnows$State;)V"⟩, prog_12_method_3_code, none, false), (⟨"WhoKnows$State", "questionTruth", "()I"⟩, prog_12_method_4_code, (some (.int)), false), (⟨"WhoKnows$State", "refusal", "(II)I"⟩, prog_12_method_5_code, (some (.int)), false), (⟨"WhoKnows$State", "leftAfter", "(II)I"⟩, prog_12_method_6_code, (some (.int)), false), (⟨"WhoKnows$State", "tell", "(II)V"⟩, prog_12_method_7_code, none, false), (⟨"WhoKnows$State", "tellApart", "(III)I"⟩, prog_12_method_8_code, (some (.int)), false), (⟨"WhoKnows$State", "goRound", "(I)I"⟩, prog_12_method_9_code, (some (.int)), false), (⟨"WhoKnows$State", "carryOut", "(LWhoKnows$Order;)Z"⟩, prog_12_method_10_code, (some (.boolean)), false), (⟨"WhoKnows$State", "leave", "(III)V"⟩, prog_12_method_11_code, none, false), (⟨"WhoKnows", "<init>", "()V"⟩, prog_1_method_1_code, none, false), (⟨"WhoKnows", "append", "(IIIII)I"⟩, prog_1_method_2_code, (some (.int)), false), (⟨"WhoKnows", "truncate", "(I)I"⟩, prog_1_method_3_code, (some (.int)), false), (⟨"WhoKnows", "readText", "()I"⟩, prog_1_method_4_code, (some (.int)), false), (⟨"WhoKnows", "runOrders", "()I"⟩, prog_1_method_5_code, (some (.int)), false), (⟨"WhoKnows", "ask", "()I"⟩, prog_1_method_6_code, (some (.int)), false), (⟨"WhoKnows", "errorCode", "()I"⟩, prog_1_method_7_code, (some (.int)), false), (⟨"WhoKnows", "errorPosition", "()I"⟩, prog_1_method_8_code, (some (.int)), false), (⟨"WhoKnows", "size", "(I)I"⟩, prog_1_method_9_code, (some (.int)), false), (⟨"WhoKnows", "letter", "(ZII)I"⟩, prog_1_method_10_code, (some (.int)), false), (⟨"WhoKnows", "sees", "(I)I"⟩, prog_1_method_11_code, (some (.int)), false), (⟨"WhoKnows", "worlds", "()I"⟩, prog_1_method_12_code, (some (.int)), false), (⟨"WhoKnows", "alike", "(II)I"⟩, prog_1_method_13_code, (some (.int)), false), (⟨"WhoKnows", "kinds", "(I)I"⟩, prog_1_method_14_code, (some (.int)), false), (⟨"WhoKnows", "doubts", "(I)I"⟩, prog_1_method_15_code, (some (.int)), false), (⟨"WhoKnows", "reach", "(I)I"⟩, prog_1_method_16_code, (some (.int)), false), (⟨"WhoKnows", "steps", "(II)I"⟩, prog_1_method_17_code, (some (.int)), false), (⟨"WhoKnows", "holds", "(I)Z"⟩, prog_1_method_18_code, (some (.boolean)), false), (⟨"WhoKnows", "truth", "()I"⟩, prog_1_method_19_code, (some (.int)), false), (⟨"WhoKnows", "who", "()I"⟩, prog_1_method_20_code, (some (.int)), false), (⟨"WhoKnows", "whether", "()I"⟩, prog_1_method_21_code, (some (.int)), false), (⟨"WhoKnows", "isCommon", "()Z"⟩, prog_1_method_22_code, (some (.boolean)), false), (⟨"WhoKnows", "level", "()I"⟩, prog_1_method_23_code, (some (.int)), false)]
def mm_ns_2 : List mm_N := [(⟨"WhoKnows", "unlike", "()I"⟩, prog_1_method_24_code, (some (.int)), false), (⟨"WhoKnows", "knowsFact", "(II)I"⟩, prog_1_method_25_code, (some (.int)), false), (⟨"WhoKnows", "knowers", "()I"⟩, prog_1_method_26_code, (some (.int)), false), (⟨"WhoKnows", "wouldLeave", "()I"⟩, prog_1_method_27_code, (some (.int)), false), (⟨"WhoKnows", "wouldSay", "(I)I"⟩, prog_1_method_28_code, (some (.int)), false), (⟨"WhoKnows", "wouldKnow", "(I)I"⟩, prog_1_method_29_code, (some (.int)), false), (⟨"WhoKnows", "roundsTo", "(I)I"⟩, prog_1_method_30_code, (some (.int)), false), (⟨"WhoKnows", "bestFact", "()I"⟩, prog_1_method_31_code, (some (.int)), false), (⟨"WhoKnows", "leastShown", "(I)I"⟩, prog_1_method_32_code, (some (.int)), false), (⟨"WhoKnows", "log", "(II)I"⟩, prog_1_method_33_code, (some (.int)), false), (⟨"WhoKnows", "account", "(I)I"⟩, prog_1_method_34_code, (some (.int)), false), (⟨"WhoKnows", "gap", "()I"⟩, prog_1_method_35_code, (some (.int)), false), (⟨"WhoKnows", "share", "()F"⟩, prog_1_method_36_code, (some (.float)), false), (⟨"WhoKnows", "meanAlike", "()D"⟩, prog_1_method_37_code, (some (.double)), false), (⟨"WhoKnows", "announce", "()I"⟩, prog_1_method_38_code, (some (.int)), false), (⟨"WhoKnows", "say", "(I)I"⟩, prog_1_method_39_code, (some (.int)), false), (⟨"WhoKnows", "whisper", "(I)I"⟩, prog_1_method_40_code, (some (.int)), false), (⟨"WhoKnows", "show", "(II)I"⟩, prog_1_method_41_code, (some (.int)), false), (⟨"WhoKnows", "round", "(I)I"⟩, prog_1_method_42_code, (some (.int)), false), (⟨"WhoKnows", "writeWorld", "(I)I"⟩, prog_1_method_43_code, (some (.int)), false), (⟨"WhoKnows", "writeKinds", "(I)I"⟩, prog_1_method_44_code, (some (.int)), false), (⟨"WhoKnows", "writeQuestion", "()I"⟩, prog_1_method_45_code, (some (.int)), false), (⟨"WhoKnows", "outputByte", "(I)I"⟩, prog_1_method_46_code, (some (.int)), false), (⟨"WhoKnows", "undo", "()I"⟩, prog_1_method_47_code, (some (.int)), false), (⟨"WhoKnows", "save", "()I"⟩, prog_1_method_48_code, (some (.int)), false), (⟨"WhoKnows", "restore", "()I"⟩, prog_1_method_49_code, (some (.int)), false), (⟨"WhoKnows", "needPerson", "(I)V"⟩, prog_1_method_50_code, none, false), (⟨"WhoKnows", "needFact", "(I)V"⟩, prog_1_method_51_code, none, false), (⟨"WhoKnows", "needWorld", "(I)V"⟩, prog_1_method_52_code, none, false), (⟨"WhoKnows", "needPersons", "(I)V"⟩, prog_1_method_53_code, none, false), (⟨"WhoKnows", "remember", "()V"⟩, prog_1_method_54_code, none, false), (⟨"WhoKnows", "forgetChanges", "()V"⟩, prog_1_method_55_code, none, false), (⟨"WhoKnows", "pastAt", "(I)LWhoKnows$State;"⟩, prog_1_method_56_code, (some ((.object "WhoKnows$State"))), false), (⟨"WhoKnows", "foretell", "(II)I"⟩, prog_1_method_57_code, (some (.int)), false), (⟨"WhoKnows", "tell", "(II)I"⟩, prog_1_method_58_code, (some (.int)), false), (⟨"WhoKnows", "writeKind", "(II)V"⟩, prog_1_method_59_code, none, false), (⟨"WhoKnows", "at", "([II)I"⟩, prog_1_method_60_code, (some (.int)), false), (⟨"WhoKnows", "put", "([III)V"⟩, prog_1_method_61_code, none, false), (⟨"WhoKnows", "copyRow", "([I[I)V"⟩, prog_1_method_62_code, none, false), (⟨"WhoKnows", "isIn", "(II)Z"⟩, prog_1_method_63_code, (some (.boolean)), false), (⟨"WhoKnows", "setOf", "(I)I"⟩, prog_1_method_64_code, (some (.int)), false), (⟨"WhoKnows", "allBelow", "(I)I"⟩, prog_1_method_65_code, (some (.int)), false), (⟨"WhoKnows", "lowestOf", "(I)I"⟩, prog_1_method_66_code, (some (.int)), false), (⟨"WhoKnows", "agreeing", "(II)I"⟩, prog_1_method_67_code, (some (.int)), false), (⟨"WhoKnows", "isPrefix", "(I)Z"⟩, prog_1_method_68_code, (some (.boolean)), false), (⟨"WhoKnows", "isJoin", "(I)Z"⟩, prog_1_method_69_code, (some (.boolean)), false), (⟨"WhoKnows", "namesPerson", "(I)Z"⟩, prog_1_method_70_code, (some (.boolean)), false), (⟨"WhoKnows", "nodeWord", "(I)Ljava/lang/String;"⟩, prog_1_method_71_code, (some ((.object "java/lang/String"))), false), (⟨"WhoKnows", "actWord", "(I)Ljava/lang/String;"⟩, prog_1_method_72_code, (some ((.object "java/lang/String"))), false), (⟨"WhoKnowsModel", "<init>", "()V"⟩, prog_14_method_1_code, none, false), (⟨"WhoKnowsModel", "thrown", "()I"⟩, prog_14_method_2_code, (some (.int)), false), (⟨"WhoKnowsModel", "in", "(JJJ)Z"⟩, prog_14_method_3_code, (some (.boolean)), false), (⟨"WhoKnowsModel", "truth", "(Z)I"⟩, prog_14_method_4_code, (some (.int)), false), (⟨"WhoKnowsModel", "has", "(II)Z"⟩, prog_14_method_5_code, (some (.boolean)), false), (⟨"WhoKnowsModel", "bits", "(I)I"⟩, prog_14_method_6_code, (some (.int)), false), (⟨"WhoKnowsModel", "lowest", "(I)I"⟩, prog_14_method_7_code, (some (.int)), false), (⟨"WhoKnowsModel", "passes", "(Z)Z"⟩, prog_14_method_8_code, (some (.boolean)), false), (⟨"WhoKnowsModel", "copies", "([II[II)V"⟩, prog_14_method_9_code, none, false), (⟨"WhoKnowsModel", "facts", "()I"⟩, prog_14_method_10_code, (some (.int)), false), (⟨"WhoKnowsModel", "persons", "()I"⟩, prog_14_method_11_code, (some (.int)), false)]
def mm_ns_3 : List mm_N := [(⟨"WhoKnowsModel", "isFact", "(I)Z"⟩, prog_14_method_12_code, (some (.boolean)), false), (⟨"WhoKnowsModel", "isPerson", "(I)Z"⟩, prog_14_method_13_code, (some (.boolean)), false), (⟨"WhoKnowsModel", "isWorld", "(I)Z"⟩, prog_14_method_14_code, (some (.boolean)), false), (⟨"WhoKnowsModel", "everybody", "()I"⟩, prog_14_method_15_code, (some (.int)), false), (⟨"WhoKnowsModel", "worldsOf", "(I)I"⟩, prog_14_method_16_code, (some (.int)), false), (⟨"WhoKnowsModel", "isLeft", "(I)Z"⟩, prog_14_method_17_code, (some (.boolean)), false), (⟨"WhoKnowsModel", "alikeTo", "(II)I"⟩, prog_14_method_18_code, (some (.int)), false), (⟨"WhoKnowsModel", "begins", "(I)V"⟩, prog_14_method_19_code, none, false), (⟨"WhoKnowsModel", "knownBy", "(II)I"⟩, prog_14_method_20_code, (some (.int)), false), (⟨"WhoKnowsModel", "thoughtBy", "(II)I"⟩, prog_14_method_21_code, (some (.int)), false), (⟨"WhoKnowsModel", "knownByAll", "(I)I"⟩, prog_14_method_22_code, (some (.int)), false), (⟨"WhoKnowsModel", "beside", "(I)I"⟩, prog_14_method_23_code, (some (.int)), false), (⟨"WhoKnowsModel", "reachedFrom", "(I)I"⟩, prog_14_method_24_code, (some (.int)), false), (⟨"WhoKnowsModel", "commonOf", "(I)I"⟩, prog_14_method_25_code, (some (.int)), false), (⟨"WhoKnowsModel", "nodeIs", "(III)I"⟩, prog_14_method_26_code, (some (.int)), false), (⟨"WhoKnowsModel", "asked", "([II)I"⟩, prog_14_method_27_code, (some (.int)), false), (⟨"WhoKnowsModel", "question", "()I"⟩, prog_14_method_28_code, (some (.int)), false), (⟨"WhoKnowsModel", "depthOf", "([II)I"⟩, prog_14_method_29_code, (some (.int)), false), (⟨"WhoKnowsModel", "four", "(I)V"⟩, prog_14_method_30_code, none, false), (⟨"WhoKnowsModel", "append", "(IIIII)I"⟩, prog_14_method_31_code, (some (.int)), false), (⟨"WhoKnowsModel", "truncate", "(I)I"⟩, prog_14_method_32_code, (some (.int)), false), (⟨"WhoKnowsModel", "byteAt", "(I)I"⟩, prog_14_method_33_code, (some (.int)), false), (⟨"WhoKnowsModel", "next", "()I"⟩, prog_14_method_34_code, (some (.int)), false), (⟨"WhoKnowsModel", "wrong", "(I)V"⟩, prog_14_method_35_code, none, false), (⟨"WhoKnowsModel", "must", "(ZI)V"⟩, prog_14_method_36_code, none, false), (⟨"WhoKnowsModel", "sees", "(Ljava/lang/String;)Z"⟩, prog_14_method_37_code, (some (.boolean)), false), (⟨"WhoKnowsModel", "takes", "(Ljava/lang/String;)Z"⟩, prog_14_method_38_code, (some (.boolean)), false), (⟨"WhoKnowsModel", "sign", "(C)V"⟩, prog_14_method_39_code, none, false), (⟨"WhoKnowsModel", "isOwnWord", "()Z"⟩, prog_14_method_40_code, (some (.boolean)), false), (⟨"WhoKnowsModel", "isWord", "()Z"⟩, prog_14_method_41_code, (some (.boolean)), false), (⟨"WhoKnowsModel", "isNamed", "(I)Z"⟩, prog_14_method_42_code, (some (.boolean)), false), (⟨"WhoKnowsModel", "readsName", "(Z)I"⟩, prog_14_method_43_code, (some (.int)), false), (⟨"WhoKnowsModel", "known", "(Z)I"⟩, prog_14_method_44_code, (some (.int)), false), (⟨"WhoKnowsModel", "laysName", "(I)V"⟩, prog_14_method_45_code, none, false), (⟨"WhoKnowsModel", "startsText", "()V"⟩, prog_14_method_46_code, none, false), (⟨"WhoKnowsModel", "endsText", "()Z"⟩, prog_14_method_47_code, (some (.boolean)), false), (⟨"WhoKnowsModel", "errorCode", "()I"⟩, prog_14_method_48_code, (some (.int)), false), (⟨"WhoKnowsModel", "errorPosition", "()I"⟩, prog_14_method_49_code, (some (.int)), false), (⟨"WhoKnowsModel", "counts", "()V"⟩, prog_14_method_50_code, none, false), (⟨"WhoKnowsModel", "made", "(III)I"⟩, prog_14_method_51_code, (some (.int)), false), (⟨"WhoKnowsModel", "modal", "()I"⟩, prog_14_method_52_code, (some (.int)), false), (⟨"WhoKnowsModel", "readsModal", "(I)I"⟩, prog_14_method_53_code, (some (.int)), false), (⟨"WhoKnowsModel", "readsNot", "()I"⟩, prog_14_method_54_code, (some (.int)), false), (⟨"WhoKnowsModel", "readsInner", "()I"⟩, prog_14_method_55_code, (some (.int)), false), (⟨"WhoKnowsModel", "readsFact", "()I"⟩, prog_14_method_56_code, (some (.int)), false), (⟨"WhoKnowsModel", "readsItem", "()I"⟩, prog_14_method_57_code, (some (.int)), false), (⟨"WhoKnowsModel", "readsPart", "()I"⟩, prog_14_method_58_code, (some (.int)), false), (⟨"WhoKnowsModel", "readsAll", "()I"⟩, prog_14_method_59_code, (some (.int)), false), (⟨"WhoKnowsModel", "readsFormula", "(IZ)V"⟩, prog_14_method_60_code, none, false), (⟨"WhoKnowsModel", "factsLine", "()V"⟩, prog_14_method_61_code, none, false), (⟨"WhoKnowsModel", "lawLine", "(I)V"⟩, prog_14_method_62_code, none, false), (⟨"WhoKnowsModel", "readsFacts", "()I"⟩, prog_14_method_63_code, (some (.int)), false), (⟨"WhoKnowsModel", "personLine", "()V"⟩, prog_14_method_64_code, none, false), (⟨"WhoKnowsModel", "realLine", "(I)V"⟩, prog_14_method_65_code, none, false), (⟨"WhoKnowsModel", "readsLines", "()V"⟩, prog_14_method_66_code, none, false), (⟨"WhoKnowsModel", "nextLine", "(Ljava/lang/String;)Z"⟩, prog_14_method_67_code, (some (.boolean)), false), (⟨"WhoKnowsModel", "readText", "()I"⟩, prog_14_method_68_code, (some (.int)), false), (⟨"WhoKnowsModel", "grows", "(II)V"⟩, prog_14_method_69_code, none, false), (⟨"WhoKnowsModel", "notes", "(III)V"⟩, prog_14_method_70_code, none, false), (⟨"WhoKnowsModel", "rules", "(I)I"⟩, prog_14_method_71_code, (some (.int)), false)]
def mm_ns_4 : List mm_N := [(⟨"WhoKnowsModel", "announceNow", "([II)I"⟩, prog_14_method_72_code, (some (.int)), false), (⟨"WhoKnowsModel", "sayNow", "(I[II)I"⟩, prog_14_method_73_code, (some (.int)), false), (⟨"WhoKnowsModel", "partedBy", "(II)I"⟩, prog_14_method_74_code, (some (.int)), false), (⟨"WhoKnowsModel", "parts", "(II)I"⟩, prog_14_method_75_code, (some (.int)), false), (⟨"WhoKnowsModel", "whisperNow", "(I[II)I"⟩, prog_14_method_76_code, (some (.int)), false), (⟨"WhoKnowsModel", "showNow", "(II)I"⟩, prog_14_method_77_code, (some (.int)), false), (⟨"WhoKnowsModel", "knowersOf", "(II)I"⟩, prog_14_method_78_code, (some (.int)), false), (⟨"WhoKnowsModel", "roundNow", "(I)I"⟩, prog_14_method_79_code, (some (.int)), false), (⟨"WhoKnowsModel", "orderHere", "()I"⟩, prog_14_method_80_code, (some (.int)), false), (⟨"WhoKnowsModel", "readsTold", "()I"⟩, prog_14_method_81_code, (some (.int)), false), (⟨"WhoKnowsModel", "readsParts", "(I)V"⟩, prog_14_method_82_code, none, false), (⟨"WhoKnowsModel", "readsOrder", "()V"⟩, prog_14_method_83_code, none, false), (⟨"WhoKnowsModel", "doesOrder", "(I)I"⟩, prog_14_method_84_code, (some (.int)), false), (⟨"WhoKnowsModel", "keeps", "([I)V"⟩, prog_14_method_85_code, none, false), (⟨"WhoKnowsModel", "runOrders", "()I"⟩, prog_14_method_86_code, (some (.int)), false), (⟨"WhoKnowsModel", "ask", "()I"⟩, prog_14_method_87_code, (some (.int)), false), (⟨"WhoKnowsModel", "size", "(I)I"⟩, prog_14_method_88_code, (some (.int)), false), (⟨"WhoKnowsModel", "letter", "(ZII)I"⟩, prog_14_method_89_code, (some (.int)), false), (⟨"WhoKnowsModel", "sees", "(I)I"⟩, prog_14_method_90_code, (some (.int)), false), (⟨"WhoKnowsModel", "worlds", "()I"⟩, prog_14_method_91_code, (some (.int)), false), (⟨"WhoKnowsModel", "alike", "(II)I"⟩, prog_14_method_92_code, (some (.int)), false), (⟨"WhoKnowsModel", "isFirstOf", "(II)Z"⟩, prog_14_method_93_code, (some (.boolean)), false), (⟨"WhoKnowsModel", "kinds", "(I)I"⟩, prog_14_method_94_code, (some (.int)), false), (⟨"WhoKnowsModel", "doubts", "(I)I"⟩, prog_14_method_95_code, (some (.int)), false), (⟨"WhoKnowsModel", "reach", "(I)I"⟩, prog_14_method_96_code, (some (.int)), false), (⟨"WhoKnowsModel", "steps", "(II)I"⟩, prog_14_method_97_code, (some (.int)), false), (⟨"WhoKnowsModel", "holds", "(I)Z"⟩, prog_14_method_98_code, (some (.boolean)), false), (⟨"WhoKnowsModel", "truth", "()I"⟩, prog_14_method_99_code, (some (.int)), false), (⟨"WhoKnowsModel", "who", "()I"⟩, prog_14_method_100_code, (some (.int)), false), (⟨"WhoKnowsModel", "whether", "()I"⟩, prog_14_method_101_code, (some (.int)), false), (⟨"WhoKnowsModel", "isCommon", "()Z"⟩, prog_14_method_102_code, (some (.boolean)), false), (⟨"WhoKnowsModel", "level", "()I"⟩, prog_14_method_103_code, (some (.int)), false), (⟨"WhoKnowsModel", "unlike", "()I"⟩, prog_14_method_104_code, (some (.int)), false), (⟨"WhoKnowsModel", "knowsFact", "(II)I"⟩, prog_14_method_105_code, (some (.int)), false), (⟨"WhoKnowsModel", "knowersNow", "()I"⟩, prog_14_method_106_code, (some (.int)), false), (⟨"WhoKnowsModel", "knowers", "()I"⟩, prog_14_method_107_code, (some (.int)), false), (⟨"WhoKnowsModel", "tries", "()V"⟩, prog_14_method_108_code, none, false), (⟨"WhoKnowsModel", "back", "(I)I"⟩, prog_14_method_109_code, (some (.int)), false), (⟨"WhoKnowsModel", "wouldLeave", "()I"⟩, prog_14_method_110_code, (some (.int)), false), (⟨"WhoKnowsModel", "wouldSay", "(I)I"⟩, prog_14_method_111_code, (some (.int)), false), (⟨"WhoKnowsModel", "arePersons", "(I)Z"⟩, prog_14_method_112_code, (some (.boolean)), false), (⟨"WhoKnowsModel", "wouldKnow", "(I)I"⟩, prog_14_method_113_code, (some (.int)), false), (⟨"WhoKnowsModel", "roundsNow", "(I)I"⟩, prog_14_method_114_code, (some (.int)), false), (⟨"WhoKnowsModel", "roundsTo", "(I)I"⟩, prog_14_method_115_code, (some (.int)), false), (⟨"WhoKnowsModel", "bestFact", "()I"⟩, prog_14_method_116_code, (some (.int)), false), (⟨"WhoKnowsModel", "agreeing", "(I)I"⟩, prog_14_method_117_code, (some (.int)), false), (⟨"WhoKnowsModel", "leastShown", "(I)I"⟩, prog_14_method_118_code, (some (.int)), false), (⟨"WhoKnowsModel", "log", "(II)I"⟩, prog_14_method_119_code, (some (.int)), false), (⟨"WhoKnowsModel", "account", "(I)I"⟩, prog_14_method_120_code, (some (.int)), false), (⟨"WhoKnowsModel", "gap", "()I"⟩, prog_14_method_121_code, (some (.int)), false), (⟨"WhoKnowsModel", "share", "()F"⟩, prog_14_method_122_code, (some (.float)), false), (⟨"WhoKnowsModel", "meanAlike", "()D"⟩, prog_14_method_123_code, (some (.double)), false), (⟨"WhoKnowsModel", "tried", "(Z)Z"⟩, prog_14_method_124_code, (some (.boolean)), false), (⟨"WhoKnowsModel", "done", "(I)I"⟩, prog_14_method_125_code, (some (.int)), false), (⟨"WhoKnowsModel", "announce", "()I"⟩, prog_14_method_126_code, (some (.int)), false), (⟨"WhoKnowsModel", "say", "(I)I"⟩, prog_14_method_127_code, (some (.int)), false), (⟨"WhoKnowsModel", "whisper", "(I)I"⟩, prog_14_method_128_code, (some (.int)), false), (⟨"WhoKnowsModel", "show", "(II)I"⟩, prog_14_method_129_code, (some (.int)), false), (⟨"WhoKnowsModel", "round", "(I)I"⟩, prog_14_method_130_code, (some (.int)), false), (⟨"WhoKnowsModel", "writes", "(I)V"⟩, prog_14_method_131_code, none, false)]
def mm_ns_5 : List mm_N := [(⟨"WhoKnowsModel", "writesText", "(Ljava/lang/String;)V"⟩, prog_14_method_132_code, none, false), (⟨"WhoKnowsModel", "writesName", "(I)V"⟩, prog_14_method_133_code, none, false), (⟨"WhoKnowsModel", "writesNumber", "(I)V"⟩, prog_14_method_134_code, none, false), (⟨"WhoKnowsModel", "writeWorld", "(I)I"⟩, prog_14_method_135_code, (some (.int)), false), (⟨"WhoKnowsModel", "writesKind", "(II)V"⟩, prog_14_method_136_code, none, false), (⟨"WhoKnowsModel", "writeKinds", "(I)I"⟩, prog_14_method_137_code, (some (.int)), false), (⟨"WhoKnowsModel", "writesTwo", "(IILjava/lang/String;)V"⟩, prog_14_method_138_code, none, false), (⟨"WhoKnowsModel", "writesAhead", "(Ljava/lang/String;II)V"⟩, prog_14_method_139_code, none, false), (⟨"WhoKnowsModel", "writesNode", "(I)V"⟩, prog_14_method_140_code, none, false), (⟨"WhoKnowsModel", "writeQuestion", "()I"⟩, prog_14_method_141_code, (some (.int)), false), (⟨"WhoKnowsModel", "outputByte", "(I)I"⟩, prog_14_method_142_code, (some (.int)), false), (⟨"WhoKnowsModel", "undo", "()I"⟩, prog_14_method_143_code, (some (.int)), false), (⟨"WhoKnowsModel", "save", "()I"⟩, prog_14_method_144_code, (some (.int)), false), (⟨"WhoKnowsModel", "restore", "()I"⟩, prog_14_method_145_code, (some (.int)), false), (⟨"WhoKnowsLaw", "append", "(LWhoKnows;IIIII[J)I"⟩, method_3_code, (some (.int)), true), (⟨"WhoKnowsLaw", "truncate", "(LWhoKnows;I[J)I"⟩, method_4_code, (some (.int)), true), (⟨"WhoKnowsLaw", "readText", "(LWhoKnows;[J)I"⟩, method_5_code, (some (.int)), true), (⟨"WhoKnowsLaw", "runOrders", "(LWhoKnows;[J)I"⟩, method_6_code, (some (.int)), true), (⟨"WhoKnowsLaw", "ask", "(LWhoKnows;[J)I"⟩, method_7_code, (some (.int)), true), (⟨"WhoKnowsLaw", "size", "(LWhoKnows;I[J)I"⟩, method_8_code, (some (.int)), true), (⟨"WhoKnowsLaw", "letter", "(LWhoKnows;ZII[J)I"⟩, method_9_code, (some (.int)), true), (⟨"WhoKnowsLaw", "sees", "(LWhoKnows;I[J)I"⟩, method_10_code, (some (.int)), true), (⟨"WhoKnowsLaw", "alike", "(LWhoKnows;II[J)I"⟩, method_11_code, (some (.int)), true), (⟨"WhoKnowsLaw", "kinds", "(LWhoKnows;I[J)I"⟩, method_12_code, (some (.int)), true), (⟨"WhoKnowsLaw", "doubts", "(LWhoKnows;I[J)I"⟩, method_13_code, (some (.int)), true), (⟨"WhoKnowsLaw", "reach", "(LWhoKnows;I[J)I"⟩, method_14_code, (some (.int)), true), (⟨"WhoKnowsLaw", "steps", "(LWhoKnows;II[J)I"⟩, method_15_code, (some (.int)), true), (⟨"WhoKnowsLaw", "holds", "(LWhoKnows;I[J)I"⟩, method_16_code, (some (.int)), true), (⟨"WhoKnowsLaw", "knowsFact", "(LWhoKnows;II[J)I"⟩, method_17_code, (some (.int)), true), (⟨"WhoKnowsLaw", "wouldSay", "(LWhoKnows;I[J)I"⟩, method_18_code, (some (.int)), true), (⟨"WhoKnowsLaw", "wouldKnow", "(LWhoKnows;I[J)I"⟩, method_19_code, (some (.int)), true), (⟨"WhoKnowsLaw", "roundsTo", "(LWhoKnows;I[J)I"⟩, method_20_code, (some (.int)), true), (⟨"WhoKnowsLaw", "leastShown", "(LWhoKnows;I[J)I"⟩, method_21_code, (some (.int)), true), (⟨"WhoKnowsLaw", "log", "(LWhoKnows;II[J)I"⟩, method_22_code, (some (.int)), true), (⟨"WhoKnowsLaw", "account", "(LWhoKnows;I[J)I"⟩, method_23_code, (some (.int)), true), (⟨"WhoKnowsLaw", "say", "(LWhoKnows;I[J)I"⟩, method_24_code, (some (.int)), true), (⟨"WhoKnowsLaw", "whisper", "(LWhoKnows;I[J)I"⟩, method_25_code, (some (.int)), true), (⟨"WhoKnowsLaw", "show", "(LWhoKnows;II[J)I"⟩, method_26_code, (some (.int)), true), (⟨"WhoKnowsLaw", "round", "(LWhoKnows;I[J)I"⟩, method_27_code, (some (.int)), true), (⟨"WhoKnowsLaw", "writeWorld", "(LWhoKnows;I[J)I"⟩, method_28_code, (some (.int)), true), (⟨"WhoKnowsLaw", "writeKinds", "(LWhoKnows;I[J)I"⟩, method_29_code, (some (.int)), true), (⟨"WhoKnowsLaw", "restore", "(LWhoKnows;[J)I"⟩, method_30_code, (some (.int)), true), (⟨"java/lang/AbstractStringBuilder", "<init>", "(I)V"⟩, prog_15_method_2_code, none, false), (⟨"java/lang/AbstractStringBuilder", "length", "()I"⟩, prog_15_method_6_code, (some (.int)), false), (⟨"java/lang/AbstractStringBuilder", "ensureCapacityInternal", "(I)V"⟩, prog_15_method_9_code, none, false), (⟨"java/lang/AbstractStringBuilder", "newCapacity", "(I)I"⟩, prog_15_method_10_code, (some (.int)), false), (⟨"java/lang/AbstractStringBuilder", "inflate", "()V"⟩, prog_15_method_11_code, none, false), (⟨"java/lang/AbstractStringBuilder", "setLength", "(I)V"⟩, prog_15_method_13_code, none, false), (⟨"java/lang/AbstractStringBuilder", "charAt", "(I)C"⟩, prog_15_method_14_code, (some (.char)), false), (⟨"java/lang/AbstractStringBuilder", "append", "(Ljava/lang/String;)Ljava/lang/AbstractStringBuilder;"⟩, prog_15_method_22_code, (some ((.object "java/lang/AbstractStringBuilder"))), false), (⟨"java/lang/AbstractStringBuilder", "appendNull", "()Ljava/lang/AbstractStringBuilder;"⟩, prog_15_method_26_code, (some ((.object "java/lang/AbstractStringBuilder"))), false), (⟨"java/lang/AbstractStringBuilder", "append", "(C)Ljava/lang/AbstractStringBuilder;"⟩, prog_15_method_31_code, (some ((.object "java/lang/AbstractStringBuilder"))), false), (⟨"java/lang/AbstractStringBuilder", "append", "(I)Ljava/lang/AbstractStringBuilder;"⟩, prog_15_method_32_code, (some ((.object "java/lang/AbstractStringBuilder"))), false), (⟨"java/lang/AbstractStringBuilder", "getValue", "()[B"⟩, prog_15_method_64_code, (some ((.array .byte))), false), (⟨"java/lang/AbstractStringBuilder", "isLatin1", "()Z"⟩, prog_15_method_68_code, (some (.boolean)), false), (⟨"java/lang/AbstractStringBuilder", "inflateIfNeededFor", "(Ljava/lang/String;)V"⟩, prog_15_method_71_code, none, false), (⟨"java/lang/AbstractStringBuilder", "putStringAt", "(ILjava/lang/String;)V"⟩, prog_15_method_73_code, none, false), (⟨"java/lang/ArrayIndexOutOfBoundsException", "<init>", "(I)V"⟩, prog_16_method_3_code, none, false), (⟨"java/lang/Integer", "getChars", "(II[B)I"⟩, prog_22_method_12_code, (some (.int)), false), (⟨"java/lang/Integer", "stringSize", "(I)I"⟩, prog_22_method_13_code, (some (.int)), false)]
def mm_ns_6 : List mm_N := [(⟨"java/lang/Integer", "bitCount", "(I)I"⟩, prog_22_method_49_code, (some (.int)), false), (⟨"java/lang/String", "<init>", "(Ljava/lang/StringBuilder;)V"⟩, prog_25_method_53_code, none, false), (⟨"java/lang/String", "length", "()I"⟩, prog_25_method_54_code, (some (.int)), false), (⟨"java/lang/String", "charAt", "(I)C"⟩, prog_25_method_56_code, (some (.char)), false), (⟨"java/lang/String", "getBytes", "([BIB)V"⟩, prog_25_method_147_code, none, false), (⟨"java/lang/String", "<init>", "(Ljava/lang/AbstractStringBuilder;Ljava/lang/Void;)V"⟩, prog_25_method_150_code, none, false), (⟨"java/lang/String", "coder", "()B"⟩, prog_25_method_152_code, (some (.byte)), false), (⟨"java/lang/String", "isLatin1", "()Z"⟩, prog_25_method_154_code, (some (.boolean)), false), (⟨"java/lang/String", "checkIndex", "(II)V"⟩, prog_25_method_155_code, none, false), (⟨"java/lang/String", "checkBoundsOffCount", "(III)I"⟩, prog_25_method_157_code, (some (.int)), false), (⟨"java/lang/String", "checkBoundsBeginEnd", "(III)V"⟩, prog_25_method_158_code, none, false), (⟨"java/lang/StringBuilder", "<init>", "()V"⟩, prog_26_method_1_code, none, false), (⟨"java/lang/StringBuilder", "append", "(Ljava/lang/String;)Ljava/lang/StringBuilder;"⟩, prog_26_method_7_code, (some ((.object "java/lang/StringBuilder"))), false), (⟨"java/lang/StringBuilder", "append", "(C)Ljava/lang/StringBuilder;"⟩, prog_26_method_14_code, (some ((.object "java/lang/StringBuilder"))), false), (⟨"java/lang/StringBuilder", "append", "(I)Ljava/lang/StringBuilder;"⟩, prog_26_method_15_code, (some ((.object "java/lang/StringBuilder"))), false), (⟨"java/lang/StringBuilder", "toString", "()Ljava/lang/String;"⟩, prog_26_method_42_code, (some ((.object "java/lang/String"))), false), (⟨"java/lang/StringBuilder", "charAt", "(I)C"⟩, prog_26_method_88_code, (some (.char)), false), (⟨"java/lang/StringBuilder", "setLength", "(I)V"⟩, prog_26_method_89_code, none, false), (⟨"java/lang/StringBuilder", "length", "()I"⟩, prog_26_method_93_code, (some (.int)), false), (⟨"java/lang/StringIndexOutOfBoundsException", "<init>", "(I)V"⟩, prog_27_method_3_code, none, false), (⟨"java/lang/StringLatin1", "charAt", "([BI)C"⟩, prog_28_method_2_code, (some (.char)), false), (⟨"java/lang/StringLatin1", "canEncode", "(C)Z"⟩, prog_28_method_3_code, (some (.boolean)), false), (⟨"java/lang/StringLatin1", "fillNull", "([BII)V"⟩, prog_28_method_48_code, none, false), (⟨"java/lang/StringLatin1", "inflate", "([BI[BII)V"⟩, prog_28_method_50_code, none, false), (⟨"java/lang/StringUTF16", "newBytesFor", "(I)[B"⟩, prog_29_method_2_code, (some ((.array .byte))), false), (⟨"java/lang/StringUTF16", "newBytesLength", "(I)I"⟩, prog_29_method_3_code, (some (.int)), false), (⟨"java/lang/StringUTF16", "putChar", "([BII)V"⟩, prog_29_method_4_code, none, false), (⟨"java/lang/StringUTF16", "getChar", "([BI)C"⟩, prog_29_method_5_code, (some (.char)), false), (⟨"java/lang/StringUTF16", "length", "([B)I"⟩, prog_29_method_6_code, (some (.int)), false), (⟨"java/lang/StringUTF16", "coderFromArrayLen", "([BI)B"⟩, prog_29_method_15_code, (some (.byte)), false), (⟨"java/lang/StringUTF16", "compress", "([BII)[B"⟩, prog_29_method_17_code, (some ((.array .byte))), false), (⟨"java/lang/StringUTF16", "compress", "([BI[BII)I"⟩, prog_29_method_22_code, (some (.int)), false), (⟨"java/lang/StringUTF16", "fillNull", "([BII)V"⟩, prog_29_method_70_code, none, false), (⟨"java/lang/StringUTF16", "putCharSB", "([BII)V"⟩, prog_29_method_71_code, none, false), (⟨"java/lang/StringUTF16", "getChars", "(III[B)I"⟩, prog_29_method_77_code, (some (.int)), false), (⟨"java/lang/StringUTF16", "putCharsAt", "([BICCCC)I"⟩, prog_29_method_81_code, (some (.int)), false), (⟨"java/lang/StringUTF16", "charAt", "([BI)C"⟩, prog_29_method_83_code, (some (.char)), false), (⟨"java/lang/StringUTF16", "inflate", "([BI[BII)V"⟩, prog_29_method_86_code, none, false), (⟨"java/lang/StringUTF16", "getChars", "(II[B)I"⟩, prog_29_method_89_code, (some (.int)), false), (⟨"java/lang/StringUTF16", "checkIndex", "(I[B)V"⟩, prog_29_method_91_code, none, false), (⟨"java/lang/StringUTF16", "checkBoundsBeginEnd", "(II[B)V"⟩, prog_29_method_93_code, none, false), (⟨"java/lang/StringUTF16", "checkBoundsOffCount", "(II[B)V"⟩, prog_29_method_94_code, none, false), (⟨"java/util/Arrays", "rangeCheck", "(III)V"⟩, prog_32_method_30_code, none, false), (⟨"java/util/Arrays", "fill", "([BIIB)V"⟩, prog_32_method_110_code, none, false), (⟨"java/util/Arrays", "copyOf", "([BI)[B"⟩, prog_32_method_121_code, (some ((.array .byte))), false), (⟨"java/util/Arrays", "checkLength", "(II)V"⟩, prog_32_method_131_code, none, false), (⟨"java/util/Arrays", "copyOfRange", "([BII)[B"⟩, prog_32_method_132_code, (some ((.array .byte))), false), (⟨"java/util/Arrays", "copyOfRangeByte", "([BII)[B"⟩, prog_32_method_133_code, (some ((.array .byte))), false), (⟨"jdk/internal/util/ArraysSupport", "newLength", "(III)I"⟩, prog_33_method_27_code, (some (.int)), false), (⟨"jdk/internal/util/ArraysSupport", "hugeLength", "(II)I"⟩, prog_33_method_28_code, (some (.int)), false), (⟨"jdk/internal/util/Preconditions", "checkIndex", "(IILjava/util/function/BiFunction;)I"⟩, prog_34_method_11_code, (some (.int)), false), (⟨"jdk/internal/util/Preconditions", "checkFromToIndex", "(IIILjava/util/function/BiFunction;)I"⟩, prog_34_method_12_code, (some (.int)), false), (⟨"jdk/internal/util/Preconditions", "checkFromIndexSize", "(IIILjava/util/function/BiFunction;)I"⟩, prog_34_method_13_code, (some (.int)), false)]
def mm_ns : List mm_N := mm_ns_0 ++ (mm_ns_1 ++ (mm_ns_2 ++ (mm_ns_3 ++ (mm_ns_4 ++ (mm_ns_5 ++ (mm_ns_6))))))
def mm_nm (j : Nat) : Option mm_N := mm_ns[j]?
/-! ===== what the tables must say of an instruction, and its check ===== -/
def mm_T (fs : List (String × String × String × Bool)) : u_T := fun k => fs.getD k ("", "", "", false)
def mm_cl : List vw_C := mm_cls.map fun q => (q.1, mm_T q.2, q.2.length)
/-- the length of an instruction -/
def mm_ln (i : Instr) : Nat := match i with
  | .aload _ => 2
  | .iload _ => 2
  | .lload _ => 2
  | .dload _ => 2
  | .istore _ => 2
  | .astore _ => 2
  | .lstore _ => 2
  | .dstore _ => 2
  | .bipush _ => 2
  | .sipush _ => 3
  | .ldc _ => 2
  | .ldc_w _ => 3
  | .ldc2_w _ => 3
  | .iinc _ _ => 3
  | .ifCond _ _ => 3
  | .if_icmp _ _ => 3
  | .if_acmp _ _ => 3
  | .goto _ => 3
  | .ifnull _ => 3
  | .ifnonnull _ => 3
  | .getfield _ => 3
  | .putfield _ => 3
  | .getstatic _ => 3
  | .putstatic _ => 3
  | .new _ => 3
  | .newarray _ => 2
  | .anewarray _ => 3
  | .invokevirtual _ => 3
  | .invokestatic _ => 3
  | .invokespecial _ => 3
  | .checkcast _ => 3
  | .instanceof _ => 3
  | _ => 1
/-- the words that an instruction's links rest on, with their places in the tables -/
def mm_need (own : String) (N : Nat → Option mm_N) (i : Instr) (ax : List Nat) : Option (List (Nat × Jvm.Cond)) := match i with
  | .getfield x => match ax with
    | nest :: ci :: k :: p :: r => match mm_cls[ci]? with
      | some q => match q.2[k]? with
        | some f => match nest, r with
          | 0, _ => some [(p, .fieldLink own x f.1 f.2.1 f.2.2.1)]
          | _, [hx] => some [(p, .fieldLinkNest own x f.1 f.2.1 f.2.2.1 (mm_str hx))]
          | _, _ => none
        | none => none
      | none => none
    | _ => none
  | .putfield x => match ax with
    | nest :: ci :: k :: p :: r => match mm_cls[ci]? with
      | some q => match q.2[k]? with
        | some f => match nest, r with
          | 0, _ => some [(p, .fieldLink own x f.1 f.2.1 f.2.2.1)]
          | _, [hx] => some [(p, .fieldLinkNest own x f.1 f.2.1 f.2.2.1 (mm_str hx))]
          | _, _ => none
        | none => none
      | none => none
    | _ => none
  | .getstatic x => match ax with
    | nest :: k :: p :: r => match mm_stn[k]? with
      | some f => match nest, r with
        | 0, _ => some [(p, .fieldLink own x f.1 f.2.1 f.2.2)]
        | _, [hx] => some [(p, .fieldLinkNest own x f.1 f.2.1 f.2.2 (mm_str hx))]
        | _, _ => none
      | none => none
    | _ => none
  | .ldc x => match ax with
    | 0 :: v :: p :: _ => some [(p, .constant own x (Int32.ofNat v))]
    | 1 :: _ => some []
    | _ => none
  | .ldc_w x => match ax with
    | 0 :: v :: p :: _ => some [(p, .constant own x (Int32.ofNat v))]
    | 1 :: _ => some []
    | _ => none
  | .ldc2_w x => match ax with
    | v :: p :: _ => some [(p, .constantLong own x (Int64.ofNat v))]
    | _ => none
  | .new x => match ax with
    | [0, ci, p, q, r] => match mm_cls[ci]? with
      | some c => some [(p, .classLink own x c.1), (q, .instantiable c.1 c.2.length), (r, .initialized c.1)]
      | none => none
    | 1 :: ci :: p :: _ => match mm_cls[ci]? with
      | some c => some [(p, .classLink own x c.1)]
      | none => none
    | _ => none
  | .anewarray x => match ax with
    | [t, ci, p] => match mm_cls[ci]? with
      | some c => some [(p, .classLink own x c.1)]
      | none => none
    | _ => none
  | .invokevirtual x => match ax with
    | [0, j, n, ci, p, q, r, u] => match N j, mm_cls[ci]? with
      | some y, some c => if y.1.cls = c.1 then some [(p, .methodLink own x y.1), (q, .instanceMethod y.1), (r, .selects y.1.cls y.1 y.1), (u, .initialized y.1.cls)] else none
      | _, _ => none
    | [5, j, n, ci, p, q, r, u, hx] => match N j, mm_cls[ci]? with
      | some y, some c => if y.1.cls = c.1 then some [(p, .methodLinkNest own x y.1 (mm_str hx)), (q, .instanceMethod y.1), (r, .selects y.1.cls y.1 y.1), (u, .initialized y.1.cls)] else none
      | _, _ => none
    | [3, j, n, 1, p, q, r, u, v, ox, cx] => match N j with
      | some y => if mm_str ox ≠ y.1.cls then none else some [(p, .methodLink own x ⟨mm_str ox, y.1.name, y.1.desc⟩), (q, .sameMethod (mm_str ox) (mm_str ox) y.1.name y.1.desc), (r, .selects "java/lang/StringBuilder" ⟨mm_str ox, y.1.name, y.1.desc⟩ y.1), (u, .instanceMethod y.1), (v, .initialized y.1.cls)]
      | none => none
    | _ => none
  | .invokespecial x => match ax with
    | [4, j, n, 1, p, q, r, u, v] => match N j with
      | some y => if y.1.name = "<init>" then none else some [(p, .methodLink own x y.1), (q, .sameMethod y.1.cls y.1.cls y.1.name y.1.desc), (r, .superclass own y.1.cls), (u, .instanceMethod y.1), (v, .initialized y.1.cls)]
      | none => none
    | [2, j, n, p, q, r] => match N j with
      | some y => if y.1.name = "<init>" ∧ y.2.2.1 = none then some [(p, .methodLink own x y.1), (q, .instanceMethod y.1), (r, .initialized y.1.cls)] else none
      | none => none
    | [7, j, n, p, q, r, hx] => match N j with
      | some y => if y.1.name = "<init>" ∧ y.2.2.1 = none then some [(p, .methodLinkNest own x y.1 (mm_str hx)), (q, .instanceMethod y.1), (r, .initialized y.1.cls)] else none
      | none => none
    | [9, p] => some [(p, .methodLink own x Lib.objectInit)]
    | _ => none
  | .invokestatic x => match ax with
    | [1, j, n, p, q, r] => match N j with
      | some y => some [(p, .methodLink own x y.1), (q, .static y.1), (r, .initialized y.1.cls)]
      | none => none
    | [8, j, n, p, q, r] => match N j with
      | some y => some [(p, .methodLink own x y.1), (q, .static y.1), (r, .initialized y.1.cls)]
      | none => none
    | [6, j, n, p, q, r, hx] => match N j with
      | some y => some [(p, .methodLinkNest own x y.1 (mm_str hx)), (q, .static y.1), (r, .initialized y.1.cls)]
      | none => none
    | [10, p] => some [(p, .methodLink own x arraycopyName)]
    | [11, p] => some [(p, .methodLink own x Lib.Math.max.name)]
    | [12, p] => some [(p, .methodLink own x Lib.Math.min.name)]
    | _ => none
  | _ => some []
/-- what else: the places that it goes to, final fields, arguments, the sites of strings, of throws -/
def mm_rest (own mn : String) (N : Nat → Option mm_N) (b : ByteArray) (pc : Nat) (i : Instr) (nx : Nat) (ax : List Nat) : Bool := match i with
  | .ifCond _ off => match ax with
    | [t] => decide ((pc : Int) + off = (t : Int))
    | _ => false
  | .if_icmp _ off => match ax with
    | [t] => decide ((pc : Int) + off = (t : Int))
    | _ => false
  | .goto off => match ax with
    | [t] => decide ((pc : Int) + off = (t : Int))
    | _ => false
  | .ifnull off => match ax with
    | [t] => decide ((pc : Int) + off = (t : Int))
    | _ => false
  | .ifnonnull off => match ax with
    | [t] => decide ((pc : Int) + off = (t : Int))
    | _ => false
  | .tableswitch d lo hi offs => match ax, lo with
    | t :: ts, .ofNat l0 => decide ((pc : Int) + d = (t : Int)) && (decide (hi = lo + (ts.length : Int) - 1) && (decide (ts.length = offs.size) && (List.zip ts offs.toList).all (fun q => decide ((pc : Int) + q.2 = (q.1 : Int)))))
    | _, _ => false
  | .ldc x => match ax with
    | 1 :: k :: _ => decide ((own, x, k) ∈ mm_sites)
    | _ => true
  | .ldc_w x => match ax with
    | 1 :: k :: _ => decide ((own, x, k) ∈ mm_sites)
    | _ => true
  | .getfield _ => match ax with
    | nest :: ci :: _ => decide (nest = 0 ∨ ci ≠ 0)
    | _ => false
  | .putfield _ => match ax with
    | nest :: ci :: k :: _ => match mm_cls[ci]? with
      | some q => match q.2[k]? with
        | some f => (!f.2.2.2) || (decide (mn = "<init>") && (decide (f.1 = own) && decide (nest = 0)))
        | none => false
      | none => false
    | _ => false
  | .new x => match ax with
    | [1, ci, p, ic] => decide ((own, ic, ci) ∈ mm_thr) && (decide (decode b (pc + 3) = .ok (.dup, 1)) && (decide (decode b (pc + 4) = .ok (.invokespecial ic, 3)) && decide (decode b (pc + 7) = .ok (.athrow, 1))))
    | 0 :: _ => true
    | _ => false
  | .newarray a => match ax with
    | [t] => decide ((a = .int ∧ t = 0) ∨ (a = .long ∧ t = 1) ∨ (a = .byte ∧ t = 2))
    | _ => false
  | .anewarray _ => match ax with
    | t :: ci :: _ => decide ((t = 3 ∧ ci = 12) ∨ (t = 4 ∧ ci = 8))
    | _ => false
  | .invokevirtual _ => match ax with
    | kd :: j :: n :: _ => match N j with
      | some y => decide ((parseMethodDescriptor y.1.desc).map (fun g => g.parameters.length + 1) = some n) && !y.2.2.2
      | none => false
    | _ => false
  | .invokespecial _ => match ax with
    | [9, _] => true
    | kd :: j :: n :: _ => match N j with
      | some y => decide ((parseMethodDescriptor y.1.desc).map (fun g => g.parameters.length + 1) = some n) && !y.2.2.2
      | none => false
    | _ => false
  | .invokestatic _ => match ax with
    | [10, _] => true
    | [11, _] => true
    | [12, _] => true
    | kd :: j :: n :: _ => match N j with
      | some y => decide ((parseMethodDescriptor y.1.desc).map (fun g => g.parameters.length) = some n) && (y.2.2.2 == (kd == 8))
      | none => false
    | _ => false
  | _ => true
/-- the words of nest mates' links -/
def mm_isN (w : Jvm.Cond) : Bool := match w with
  | .fieldLinkNest .. => true
  | .methodLinkNest .. => true
  | .castable .. => true
  | .declares .. => true
  | .arrayOver (.object _) => true
  | _ => false
def mm_okI (own mn : String) (N : Nat → Option mm_N) (b : ByteArray) (mi : mm_I) : Bool := match mi with
  | (pc, i, nx, ax) => (match i with
    | .tableswitch _ _ _ _ => decide (decode b pc = .ok (i, nx - pc))
    | _ => decide (decode b pc = .ok (i, mm_ln i)) && Nat.beq nx (pc + mm_ln i)) && ((match mm_need own N i ax with
    | some l => l.all (fun q => (goodWord q.2 || mm_isN q.2) && decide (mt_tbl[q.1]? = some q.2))
    | none => false) && mm_rest own mn N b pc i nx ax)
end
section
/-! ===== what the mini machine's cells and values stand for ===== -/
abbrev mm_G : Type := Nat × (Nat → Option Nat) × va_G × (Nat → ClassId)
def mm_ad (G : mm_G) (k : Nat) : Option Nat := if k < 64 then G.2.1 k else some (G.1 + (k - 64))
def mm_dn (G : mm_G) (v : Value) : Value := match v with
  | .ref k => va_rf (mm_ad G k)
  | v => v
def mm_fn (t N : Nat) : (Nat → Int32) ⊕ (Nat → Int64) ⊕ (Nat → UInt32) ⊕ (Nat → UInt64) ⊕ (Nat → Option Nat) := match t with
  | 1 => .inr (.inl (fun j => Int64.ofNat (mm_ag 64 N j)))
  | _ => .inl (fun j => Int32.ofNat (mm_ag 32 N j))
def mm_dE (G : mm_G) (c : mm_C) : va_E := match c with
  | .inl (t, n, N) => .inl (G.2.2.2 t, (n, mm_fn t N))
  | .inr (.inl (t, rs)) => .inl (G.2.2.2 t, (rs.length, .inr (.inr (.inr (.inr (fun j => (rs.getD j none).bind (mm_ad G)))))))
  | .inr (.inr (ci, fs)) => .inr (ci, fs.map (mm_dn G))
def mm_ws (G : mm_G) (h : mm_H) : va_W := h.mapIdx fun i c => (G.1 + i, mm_dE G c)
def mm_tys (G : mm_G) : List (ClassId × FieldType) := [(G.2.2.2 0, .int), (G.2.2.2 1, .long), (G.2.2.2 2, .byte), (G.2.2.2 3, .object "WhoKnows$State"), (G.2.2.2 4, .object "WhoKnows$Order")]
def mm_W (G : mm_G) (h : mm_H) (H : Heap) : Prop := va_P G.2.2.1 mm_cl (mm_ws G h) H ∧ H.size = G.1 + h.length
def mm_Ar (G : mm_G) : Nat → Prop := fun q => G.1 ≤ q
theorem mm_ws_get (G : mm_G) (h : mm_H) (i : Nat) : (mm_ws G h)[i]? = (h[i]?).map fun c => (G.1 + i, mm_dE G c) := by
  unfold mm_ws
  rw [List.getElem?_mapIdx]
theorem mm_ws_set (G : mm_G) (h : mm_H) (k : Nat) (c : mm_C) : mm_ws G (h.set k c) = (mm_ws G h).set k (G.1 + k, mm_dE G c) := by
  apply List.ext_getElem?
  intro i
  rw [mm_ws_get, List.getElem?_set, List.getElem?_set, mm_ws_get]
  have hl : (mm_ws G h).length = h.length := by simp [mm_ws]
  rw [hl]
  by_cases e : k = i
  · subst e
    by_cases e2 : k < h.length
    · simp [e2]
    · simp [e2]
  · simp [e]
theorem mm_ws_push (G : mm_G) (h : mm_H) (c : mm_C) : mm_ws G (h ++ [c]) = mm_ws G h ++ [(G.1 + h.length, mm_dE G c)] := by
  unfold mm_ws
  simp [List.mapIdx_append]
theorem mm_D (G : mm_G) (h : mm_H) : va_D (mm_Ar G) (mm_ws G h) := by
  refine ⟨fun i j p q hi hj e => ?_, fun k q hk => ?_⟩
  · rw [mm_ws_get] at hi hj
    cases a : h[i]? with
    | none => rw [a] at hi; cases hi
    | some x =>
      cases b : h[j]? with
      | none => rw [b] at hj; cases hj
      | some y =>
        rw [a] at hi; rw [b] at hj
        cases hi; cases hj
        have e : G.1 + i = G.1 + j := e
        omega
  · rw [mm_ws_get] at hk
    cases a : h[k]? with
    | none => rw [a] at hk; cases hk
    | some x =>
      rw [a] at hk; cases hk
      exact Nat.le_add_right _ _
theorem mm_cat (G : mm_G) (v : Value) : (mm_dn G v).category = v.category := by
  cases v with
  | ref k =>
    show (va_rf (mm_ad G k)).category = 1
    cases mm_ad G k <;> rfl
  | _ => rfl
theorem mm_cat2_iff (v : Value) : mm_cat2 v = true ↔ v.category = 2 := by
  cases v <;> simp [mm_cat2, Value.category]
/-! locals -/
def mm_al (G : mm_G) : Nat → mm_L → List (Nat × Value)
  | _, [] => []
  | i, some v :: r => (i, mm_dn G v) :: mm_al G (i + 1) r
  | i, none :: r => mm_al G (i + 1) r
theorem mm_al_mem (G : mm_G) : ∀ (L : mm_L) (k : Nat) (q : Nat × Value), q ∈ mm_al G k L ↔ ∃ j v, q = (k + j, mm_dn G v) ∧ L[j]? = some (some v)
  | [], k, q => by simp [mm_al]
  | some v :: r, k, q => by
    rw [mm_al, List.mem_cons, mm_al_mem G r (k + 1) q]
    constructor
    · rintro (rfl | ⟨j, w, rfl, hw⟩)
      · exact ⟨0, v, rfl, rfl⟩
      · exact ⟨j + 1, w, by rw [Nat.add_assoc, Nat.add_comm 1 j], hw⟩
    · rintro ⟨j, w, rfl, hw⟩
      cases j with
      | zero => cases hw; exact Or.inl rfl
      | succ j => exact Or.inr ⟨j, w, by rw [Nat.add_assoc, Nat.add_comm 1 j], hw⟩
  | none :: r, k, q => by
    rw [mm_al, mm_al_mem G r (k + 1) q]
    constructor
    · rintro ⟨j, w, rfl, hw⟩
      exact ⟨j + 1, w, by rw [Nat.add_assoc, Nat.add_comm 1 j], hw⟩
    · rintro ⟨j, w, rfl, hw⟩
      cases j with
      | zero => cases hw
      | succ j => exact ⟨j, w, by rw [Nat.add_assoc, Nat.add_comm 1 j], hw⟩
def mm_LH (G : mm_G) (ls : Array Slot) (L : mm_L) : Prop := lv_has ls L.length (mm_al G 0 L)
theorem mm_get_at {G : mm_G} {ls : Array Slot} {L : mm_L} (h : mm_LH G ls L) {i : Nat} {v : Value} (hv : mm_get L i = some v) : ls[i]? = some (.val (mm_dn G v)) := by
  refine h.2.2 (i, mm_dn G v) ((mm_al_mem G L 0 _).mpr ⟨i, v, by rw [Nat.zero_add], ?_⟩)
  unfold mm_get at hv
  cases hL : L[i]? with
  | none => rw [hL] at hv; cases hv
  | some o =>
    rw [hL] at hv
    have hv : o = some v := hv
    rw [hv]
theorem mm_kill_len (L : mm_L) (i : Nat) : (mm_kill L i).length = L.length := by
  cases i with
  | zero => rfl
  | succ k =>
    simp only [mm_kill]
    split
    · split <;> simp
    · rfl
/-- what a store of one place keeps -/
theorem mm_set1_keep {L L' : mm_L} {i : Nat} {v : Value} (h : mm_set1 L i v = some L') : i < L.length ∧ L'.length = L.length ∧ ∀ j w, L'[j]? = some (some w) → (j = i ∧ w = v) ∨ (j ≠ i ∧ L[j]? = some (some w) ∧ ¬ (j + 1 = i ∧ mm_cat2 w = true)) := by
  unfold mm_set1 at h
  split at h
  · rename_i hi
    cases h
    refine ⟨hi, by rw [List.length_set, mm_kill_len], fun j w hw => ?_⟩
    rw [List.getElem?_set, mm_kill_len] at hw
    by_cases e : i = j
    · subst e
      rw [if_pos rfl, if_pos hi] at hw
      cases hw
      exact Or.inl ⟨rfl, rfl⟩
    · rw [if_neg e] at hw
      refine Or.inr ⟨fun q => e q.symm, ?_⟩
      cases i with
      | zero => exact ⟨hw, fun q => by omega⟩
      | succ k =>
        simp only [mm_kill] at hw
        cases hg : mm_get L k with
        | none =>
          rw [hg] at hw
          refine ⟨hw, fun q => ?_⟩
          have : j = k := by omega
          subst this
          have hw : L[j]? = some (some w) := hw
          simp [mm_get, hw] at hg
        | some u =>
          rw [hg] at hw
          dsimp only at hw
          by_cases c : mm_cat2 u = true
          · rw [if_pos c, List.getElem?_set] at hw
            by_cases e3 : k = j
            · subst e3
              rw [if_pos rfl] at hw
              split at hw <;> cases hw
            · rw [if_neg e3] at hw
              exact ⟨hw, fun q => by omega⟩
          · rw [if_neg c] at hw
            refine ⟨hw, fun q => ?_⟩
            have : j = k := by omega
            subst this
            simp [mm_get, hw] at hg
            rw [hg] at q
            exact c q.2
  · cases h
theorem mm_set2_keep {L L' : mm_L} {i : Nat} {v : Value} (h : mm_set2 L i v = some L') : i + 1 < L.length ∧ L'.length = L.length ∧ ∀ j w, L'[j]? = some (some w) → (j = i ∧ w = v) ∨ (j ≠ i ∧ j ≠ i + 1 ∧ L[j]? = some (some w) ∧ ¬ (j + 1 = i ∧ mm_cat2 w = true)) := by
  unfold mm_set2 at h
  split at h
  · rename_i hi
    cases h
    have h1 : mm_set1 L i v = some ((mm_kill L i).set i (some v)) := by
      unfold mm_set1
      rw [if_pos (by omega)]
    obtain ⟨a, b, c⟩ := mm_set1_keep h1
    refine ⟨hi, by rw [List.length_set, b], fun j w hw => ?_⟩
    rw [List.getElem?_set] at hw
    by_cases e : i + 1 = j
    · rw [if_pos e] at hw
      split at hw <;> cases hw
    · rw [if_neg e] at hw
      rcases c j w hw with q | ⟨q1, q2, q3⟩
      · exact Or.inl q
      · exact Or.inr ⟨q1, fun q => e q.symm, q2, q3⟩
  · cases h
theorem mm_LH1 {G : mm_G} {ls' : Array Slot} {L L' : mm_L} {i : Nat} {v : Value} (hs : mm_set1 L i v = some L') (h : lv_has ls' L.length ((i, mm_dn G v) :: (mm_al G 0 L).filter (fun q => !(q.1 == i) && !(q.1 + 1 == i && q.2.category == 2)))) : mm_LH G ls' L' := by
  obtain ⟨a, b, c⟩ := mm_set1_keep hs
  refine ⟨by rw [b]; exact h.1, h.2.1, fun q hq => ?_⟩
  obtain ⟨j, w, rfl, hw⟩ := (mm_al_mem G L' 0 q).mp hq
  rw [Nat.zero_add]
  rcases c j w hw with ⟨rfl, rfl⟩ | ⟨e1, e2, e3⟩
  · exact h.2.2 _ List.mem_cons_self
  · refine h.2.2 (j, mm_dn G w) (List.mem_cons_of_mem _ (List.mem_filter.mpr ⟨(mm_al_mem G L 0 _).mpr ⟨j, w, by rw [Nat.zero_add], e2⟩, ?_⟩))
    rw [mm_cat2_iff] at e3
    simp only [mm_cat]
    simp
    exact ⟨e1, Decidable.not_and_iff_not_or_not.mp e3⟩
theorem mm_LH2 {G : mm_G} {ls' : Array Slot} {L L' : mm_L} {i : Nat} {v : Value} (hs : mm_set2 L i v = some L') (h : lv_has ls' L.length ((i, mm_dn G v) :: (mm_al G 0 L).filter (fun q => !(q.1 == i) && (!(q.1 == i + 1) && !(q.1 + 1 == i && q.2.category == 2))))) : mm_LH G ls' L' := by
  obtain ⟨a, b, c⟩ := mm_set2_keep hs
  refine ⟨by rw [b]; exact h.1, h.2.1, fun q hq => ?_⟩
  obtain ⟨j, w, rfl, hw⟩ := (mm_al_mem G L' 0 q).mp hq
  rw [Nat.zero_add]
  rcases c j w hw with ⟨rfl, rfl⟩ | ⟨e1, e0, e2, e3⟩
  · exact h.2.2 _ List.mem_cons_self
  · refine h.2.2 (j, mm_dn G w) (List.mem_cons_of_mem _ (List.mem_filter.mpr ⟨(mm_al_mem G L 0 _).mpr ⟨j, w, by rw [Nat.zero_add], e2⟩, ?_⟩))
    rw [mm_cat2_iff] at e3
    simp only [mm_cat]
    simp
    exact ⟨e1, e0, Decidable.not_and_iff_not_or_not.mp e3⟩
end
section
/-! ===== one instruction of the mini machine is one of the machine: those without heap and links ===== -/
theorem mi_go {nx : Nat} {L : mm_L} {st : List Value} {a : mm_A} (h : mm_go nx L st = some a) : a = .inl (nx, L, st, none) := (Option.some.inj h).symm
theorem mi_ld {nx : Nat} {L : mm_L} {st : List Value} {i : Nat} {ok : Value → Bool} {a : mm_A} (h : mm_ld nx L st i ok = some a) : ∃ v, mm_get L i = some v ∧ ok v = true ∧ a = .inl (nx, L, v :: st, none) := by
  unfold mm_ld at h
  split at h
  · rename_i v hv
    split at h
    · rename_i hok
      exact ⟨v, hv, hok, mi_go h⟩
    · cases h
  · cases h
theorem mi_s1 {nx : Nat} {L : mm_L} {st : List Value} {i : Nat} {ok : Value → Bool} {a : mm_A} (h : mm_s1 nx L st i ok = some a) : ∃ v r L', st = v :: r ∧ ok v = true ∧ mm_set1 L i v = some L' ∧ a = .inl (nx, L', r, none) := by
  unfold mm_s1 at h
  split at h
  · rename_i v r
    split at h
    · rename_i hok
      split at h
      · rename_i L' hL
        exact ⟨v, r, L', rfl, hok, hL, mi_go h⟩
      · cases h
    · cases h
  · cases h
theorem mi_s2 {nx : Nat} {L : mm_L} {st : List Value} {i : Nat} {ok : Value → Bool} {a : mm_A} (h : mm_s2 nx L st i ok = some a) : ∃ v r L', st = v :: r ∧ ok v = true ∧ mm_set2 L i v = some L' ∧ a = .inl (nx, L', r, none) := by
  unfold mm_s2 at h
  split at h
  · rename_i v r
    split at h
    · rename_i hok
      split at h
      · rename_i L' hL
        exact ⟨v, r, L', rfl, hok, hL, mi_go h⟩
      · cases h
    · cases h
  · cases h
theorem mi_i2 {nx : Nat} {L : mm_L} {st : List Value} {f : Int32 → Int32 → Int32} {a : mm_A} (h : mm_i2 nx L st f = some a) : ∃ x y r, st = .int y :: .int x :: r ∧ a = .inl (nx, L, .int (f x y) :: r, none) := by
  unfold mm_i2 at h
  split at h
  · rename_i y x r
    rw [mm_fI_eq] at h
    exact ⟨x, y, r, rfl, mi_go h⟩
  · cases h
theorem mi_i1 {nx : Nat} {L : mm_L} {st : List Value} {f : Int32 → Int32} {a : mm_A} (h : mm_i1 nx L st f = some a) : ∃ x r, st = .int x :: r ∧ a = .inl (nx, L, .int (f x) :: r, none) := by
  unfold mm_i1 at h
  split at h
  · rename_i x r
    rw [mm_fI_eq] at h
    exact ⟨x, r, rfl, mi_go h⟩
  · cases h
theorem mi_br {nx : Nat} {L : mm_L} {ax : List Nat} {r : List Value} {b : Bool} {a : mm_A} (h : mm_br nx L ax r b = some a) : ∃ t, ax = [t] ∧ ((b = true ∧ a = .inl (t, L, r, none)) ∨ (b = false ∧ a = .inl (nx, L, r, none))) := by
  unfold mm_br at h
  split at h
  · rename_i t
    cases b with
    | true => exact ⟨t, rfl, Or.inl ⟨rfl, mi_go h⟩⟩
    | false => exact ⟨t, rfl, Or.inr ⟨rfl, mi_go h⟩⟩
  · cases h
theorem mi_isI {v : Value} (h : mm_isI v = true) : ∃ x, v = .int x := by
  cases v <;> first | exact ⟨_, rfl⟩ | cases h
theorem mi_isL {v : Value} (h : mm_isL v = true) : ∃ x, v = .long x := by
  cases v <;> first | exact ⟨_, rfl⟩ | cases h
theorem mi_isD {v : Value} (h : mm_isD v = true) : ∃ x, v = .double x := by
  cases v <;> first | exact ⟨_, rfl⟩ | cases h
theorem mi_isA {G : mm_G} {v : Value} (h : mm_isA v = true) : ∃ o, mm_dn G v = va_rf o := by
  cases v with
  | ref k => exact ⟨_, rfl⟩
  | null => exact ⟨none, rfl⟩
  | _ => cases h
theorem mi_c1 {G : mm_G} {v : Value} (h : ¬ mm_cat2 v = true) : (mm_dn G v).category = 1 := by
  rw [mm_cat]
  rcases lv_cat v with q | q
  · exact q
  · exact absurd ((mm_cat2_iff v).mpr q) h
section MP
variable {p : Program} {l : Launch} {e : Env} {R : Room} {s : State} {m : MethodId} {args : Array Value} {below : List Frame} {meth : Method} {c : Code} {H : Heap} {locs : List Loc} {cells slots : Nat} {Q : State → Prop}
variable {cc : ByteArray} {pc : Nat} {ls : Array Slot} {G : mm_G} {X : mm_X} {h : mm_H} {L L' : mm_L} {st st' : List Value} {nx pc' : Nat} {ax : List Nat} {op : Option ((Nat × mm_C) ⊕ mm_C)}
theorem mp_iload (hx : p.tables.exec = Jvm.exec) (hb : c.code = cc) {j : Nat} (hd : decode cc pc = .ok ((Instr.iload j), mm_ln (Instr.iload j))) (hl : mm_LH G ls L) (hs : mm_stp X h L st (pc, (Instr.iload j), pc + mm_ln (Instr.iload j), ax) = some (.inl (pc', L', st', op)))
    (k : op = none → ∀ ls', mm_LH G ls' L' → W p l e R s m args below meth c H locs cells slots Q (F0 m pc' ls' (st'.map (mm_dn G)))) : W p l e R s m args below meth c H locs cells slots Q (F0 m pc ls (st.map (mm_dn G))) := by
  obtain ⟨v, hv, hok, hq⟩ := mi_ld (show mm_ld _ L st j _ = some _ from hs)
  obtain ⟨x, rfl⟩ := mi_isI hok
  cases hq
  exact lv_iload hx hb hd (mm_get_at hl hv) (k rfl ls hl)
theorem mp_iload_n (hx : p.tables.exec = Jvm.exec) (hb : c.code = cc) {j : Fin 4} (hd : decode cc pc = .ok ((Instr.iload_n j), mm_ln (Instr.iload_n j))) (hl : mm_LH G ls L) (hs : mm_stp X h L st (pc, (Instr.iload_n j), pc + mm_ln (Instr.iload_n j), ax) = some (.inl (pc', L', st', op)))
    (k : op = none → ∀ ls', mm_LH G ls' L' → W p l e R s m args below meth c H locs cells slots Q (F0 m pc' ls' (st'.map (mm_dn G)))) : W p l e R s m args below meth c H locs cells slots Q (F0 m pc ls (st.map (mm_dn G))) := by
  obtain ⟨v, hv, hok, hq⟩ := mi_ld (show mm_ld _ L st j.val _ = some _ from hs)
  obtain ⟨x, rfl⟩ := mi_isI hok
  cases hq
  exact lv_iload_n hx hb hd rfl (mm_get_at hl hv) (k rfl ls hl)
theorem mp_lload (hx : p.tables.exec = Jvm.exec) (hb : c.code = cc) {j : Nat} (hd : decode cc pc = .ok ((Instr.lload j), mm_ln (Instr.lload j))) (hl : mm_LH G ls L) (hs : mm_stp X h L st (pc, (Instr.lload j), pc + mm_ln (Instr.lload j), ax) = some (.inl (pc', L', st', op)))
    (k : op = none → ∀ ls', mm_LH G ls' L' → W p l e R s m args below meth c H locs cells slots Q (F0 m pc' ls' (st'.map (mm_dn G)))) : W p l e R s m args below meth c H locs cells slots Q (F0 m pc ls (st.map (mm_dn G))) := by
  obtain ⟨v, hv, hok, hq⟩ := mi_ld (show mm_ld _ L st j _ = some _ from hs)
  obtain ⟨x, rfl⟩ := mi_isL hok
  cases hq
  exact lv_lload hx hb hd (mm_get_at hl hv) (k rfl ls hl)
theorem mp_lload_n (hx : p.tables.exec = Jvm.exec) (hb : c.code = cc) {j : Fin 4} (hd : decode cc pc = .ok ((Instr.lload_n j), mm_ln (Instr.lload_n j))) (hl : mm_LH G ls L) (hs : mm_stp X h L st (pc, (Instr.lload_n j), pc + mm_ln (Instr.lload_n j), ax) = some (.inl (pc', L', st', op)))
    (k : op = none → ∀ ls', mm_LH G ls' L' → W p l e R s m args below meth c H locs cells slots Q (F0 m pc' ls' (st'.map (mm_dn G)))) : W p l e R s m args below meth c H locs cells slots Q (F0 m pc ls (st.map (mm_dn G))) := by
  obtain ⟨v, hv, hok, hq⟩ := mi_ld (show mm_ld _ L st j.val _ = some _ from hs)
  obtain ⟨x, rfl⟩ := mi_isL hok
  cases hq
  exact lv_lload_n hx hb hd rfl (mm_get_at hl hv) (k rfl ls hl)
theorem mp_dload (hx : p.tables.exec = Jvm.exec) (hb : c.code = cc) {j : Nat} (hd : decode cc pc = .ok ((Instr.dload j), mm_ln (Instr.dload j))) (hl : mm_LH G ls L) (hs : mm_stp X h L st (pc, (Instr.dload j), pc + mm_ln (Instr.dload j), ax) = some (.inl (pc', L', st', op)))
    (k : op = none → ∀ ls', mm_LH G ls' L' → W p l e R s m args below meth c H locs cells slots Q (F0 m pc' ls' (st'.map (mm_dn G)))) : W p l e R s m args below meth c H locs cells slots Q (F0 m pc ls (st.map (mm_dn G))) := by
  obtain ⟨v, hv, hok, hq⟩ := mi_ld (show mm_ld _ L st j _ = some _ from hs)
  obtain ⟨x, rfl⟩ := mi_isD hok
  cases hq
  exact lv_dload hx hb hd (mm_get_at hl hv) (k rfl ls hl)
theorem mp_dload_n (hx : p.tables.exec = Jvm.exec) (hb : c.code = cc) {j : Fin 4} (hd : decode cc pc = .ok ((Instr.dload_n j), mm_ln (Instr.dload_n j))) (hl : mm_LH G ls L) (hs : mm_stp X h L st (pc, (Instr.dload_n j), pc + mm_ln (Instr.dload_n j), ax) = some (.inl (pc', L', st', op)))
    (k : op = none → ∀ ls', mm_LH G ls' L' → W p l e R s m args below meth c H locs cells slots Q (F0 m pc' ls' (st'.map (mm_dn G)))) : W p l e R s m args below meth c H locs cells slots Q (F0 m pc ls (st.map (mm_dn G))) := by
  obtain ⟨v, hv, hok, hq⟩ := mi_ld (show mm_ld _ L st j.val _ = some _ from hs)
  obtain ⟨x, rfl⟩ := mi_isD hok
  cases hq
  exact lv_dload_n hx hb hd rfl (mm_get_at hl hv) (k rfl ls hl)
theorem mp_aload (hx : p.tables.exec = Jvm.exec) (hb : c.code = cc) {j : Nat} (hd : decode cc pc = .ok ((Instr.aload j), mm_ln (Instr.aload j))) (hl : mm_LH G ls L) (hs : mm_stp X h L st (pc, (Instr.aload j), pc + mm_ln (Instr.aload j), ax) = some (.inl (pc', L', st', op)))
    (k : op = none → ∀ ls', mm_LH G ls' L' → W p l e R s m args below meth c H locs cells slots Q (F0 m pc' ls' (st'.map (mm_dn G)))) : W p l e R s m args below meth c H locs cells slots Q (F0 m pc ls (st.map (mm_dn G))) := by
  obtain ⟨v, hv, hok, hq⟩ := mi_ld (show mm_ld _ L st j _ = some _ from hs)
  obtain ⟨o, ho⟩ := mi_isA (G := G) hok
  cases hq
  have h1 := mm_get_at hl hv
  have h2 := k rfl ls hl
  rw [List.map_cons] at h2
  rw [ho] at h1 h2
  cases o with
  | none => exact lv_aloadN hx hb hd h1 h2
  | some q => exact lv_aload hx hb hd h1 h2
theorem mp_aload_n (hx : p.tables.exec = Jvm.exec) (hb : c.code = cc) {j : Fin 4} (hd : decode cc pc = .ok ((Instr.aload_n j), mm_ln (Instr.aload_n j))) (hl : mm_LH G ls L) (hs : mm_stp X h L st (pc, (Instr.aload_n j), pc + mm_ln (Instr.aload_n j), ax) = some (.inl (pc', L', st', op)))
    (k : op = none → ∀ ls', mm_LH G ls' L' → W p l e R s m args below meth c H locs cells slots Q (F0 m pc' ls' (st'.map (mm_dn G)))) : W p l e R s m args below meth c H locs cells slots Q (F0 m pc ls (st.map (mm_dn G))) := by
  obtain ⟨v, hv, hok, hq⟩ := mi_ld (show mm_ld _ L st j.val _ = some _ from hs)
  obtain ⟨o, ho⟩ := mi_isA (G := G) hok
  cases hq
  have h1 := mm_get_at hl hv
  have h2 := k rfl ls hl
  rw [List.map_cons] at h2
  rw [ho] at h1 h2
  cases o with
  | none => exact lv_aload_nN hx hb hd rfl h1 h2
  | some q => exact lv_aload_n hx hb hd rfl h1 h2
theorem mp_istore (hx : p.tables.exec = Jvm.exec) (hb : c.code = cc) {j : Nat} (hd : decode cc pc = .ok ((Instr.istore j), mm_ln (Instr.istore j))) (hl : mm_LH G ls L) (hs : mm_stp X h L st (pc, (Instr.istore j), pc + mm_ln (Instr.istore j), ax) = some (.inl (pc', L', st', op)))
    (k : op = none → ∀ ls', mm_LH G ls' L' → W p l e R s m args below meth c H locs cells slots Q (F0 m pc' ls' (st'.map (mm_dn G)))) : W p l e R s m args below meth c H locs cells slots Q (F0 m pc ls (st.map (mm_dn G))) := by
  obtain ⟨v, r, L1, rfl, hok, hS, hq⟩ := mi_s1 (show mm_s1 _ L st j _ = some _ from hs)
  obtain ⟨x, rfl⟩ := mi_isI hok
  cases hq
  exact lv_istore hx hb hd hl (mm_set1_keep hS).1 rfl (fun ls' h' => k rfl ls' (mm_LH1 hS h'))
theorem mp_istore_n (hx : p.tables.exec = Jvm.exec) (hb : c.code = cc) {j : Fin 4} (hd : decode cc pc = .ok ((Instr.istore_n j), mm_ln (Instr.istore_n j))) (hl : mm_LH G ls L) (hs : mm_stp X h L st (pc, (Instr.istore_n j), pc + mm_ln (Instr.istore_n j), ax) = some (.inl (pc', L', st', op)))
    (k : op = none → ∀ ls', mm_LH G ls' L' → W p l e R s m args below meth c H locs cells slots Q (F0 m pc' ls' (st'.map (mm_dn G)))) : W p l e R s m args below meth c H locs cells slots Q (F0 m pc ls (st.map (mm_dn G))) := by
  obtain ⟨v, r, L1, rfl, hok, hS, hq⟩ := mi_s1 (show mm_s1 _ L st j.val _ = some _ from hs)
  obtain ⟨x, rfl⟩ := mi_isI hok
  cases hq
  exact lv_istore_n hx hb hd rfl hl (mm_set1_keep hS).1 rfl (fun ls' h' => k rfl ls' (mm_LH1 hS h'))
theorem mp_lstore (hx : p.tables.exec = Jvm.exec) (hb : c.code = cc) {j : Nat} (hd : decode cc pc = .ok ((Instr.lstore j), mm_ln (Instr.lstore j))) (hl : mm_LH G ls L) (hs : mm_stp X h L st (pc, (Instr.lstore j), pc + mm_ln (Instr.lstore j), ax) = some (.inl (pc', L', st', op)))
    (k : op = none → ∀ ls', mm_LH G ls' L' → W p l e R s m args below meth c H locs cells slots Q (F0 m pc' ls' (st'.map (mm_dn G)))) : W p l e R s m args below meth c H locs cells slots Q (F0 m pc ls (st.map (mm_dn G))) := by
  obtain ⟨v, r, L1, rfl, hok, hS, hq⟩ := mi_s2 (show mm_s2 _ L st j _ = some _ from hs)
  obtain ⟨x, rfl⟩ := mi_isL hok
  cases hq
  exact lv_lstore hx hb hd hl (mm_set2_keep hS).1 rfl (fun ls' h' => k rfl ls' (mm_LH2 hS h'))
theorem mp_dstore (hx : p.tables.exec = Jvm.exec) (hb : c.code = cc) {j : Nat} (hd : decode cc pc = .ok ((Instr.dstore j), mm_ln (Instr.dstore j))) (hl : mm_LH G ls L) (hs : mm_stp X h L st (pc, (Instr.dstore j), pc + mm_ln (Instr.dstore j), ax) = some (.inl (pc', L', st', op)))
    (k : op = none → ∀ ls', mm_LH G ls' L' → W p l e R s m args below meth c H locs cells slots Q (F0 m pc' ls' (st'.map (mm_dn G)))) : W p l e R s m args below meth c H locs cells slots Q (F0 m pc ls (st.map (mm_dn G))) := by
  obtain ⟨v, r, L1, rfl, hok, hS, hq⟩ := mi_s2 (show mm_s2 _ L st j _ = some _ from hs)
  obtain ⟨x, rfl⟩ := mi_isD hok
  cases hq
  exact lv_dstore hx hb hd hl (mm_set2_keep hS).1 rfl (fun ls' h' => k rfl ls' (mm_LH2 hS h'))
theorem mp_astore (hx : p.tables.exec = Jvm.exec) (hb : c.code = cc) {j : Nat} (hd : decode cc pc = .ok ((Instr.astore j), mm_ln (Instr.astore j))) (hl : mm_LH G ls L) (hs : mm_stp X h L st (pc, (Instr.astore j), pc + mm_ln (Instr.astore j), ax) = some (.inl (pc', L', st', op)))
    (k : op = none → ∀ ls', mm_LH G ls' L' → W p l e R s m args below meth c H locs cells slots Q (F0 m pc' ls' (st'.map (mm_dn G)))) : W p l e R s m args below meth c H locs cells slots Q (F0 m pc ls (st.map (mm_dn G))) := by
  obtain ⟨v, r, L1, rfl, hok, hS, hq⟩ := mi_s1 (show mm_s1 _ L st j _ = some _ from hs)
  obtain ⟨o, ho⟩ := mi_isA (G := G) hok
  cases hq
  have h2 := fun ls' (h' : lv_has ls' L.length ((j, mm_dn G v) :: (mm_al G 0 L).filter (fun q => !(q.1 == j) && !(q.1 + 1 == j && q.2.category == 2)))) => k rfl ls' (mm_LH1 hS h')
  rw [List.map_cons]
  rw [ho] at h2 ⊢
  cases o with
  | none => exact lv_astoreN hx hb hd hl (mm_set1_keep hS).1 rfl h2
  | some q => exact lv_astore hx hb hd hl (mm_set1_keep hS).1 rfl h2
theorem mp_astore_n (hx : p.tables.exec = Jvm.exec) (hb : c.code = cc) {j : Fin 4} (hd : decode cc pc = .ok ((Instr.astore_n j), mm_ln (Instr.astore_n j))) (hl : mm_LH G ls L) (hs : mm_stp X h L st (pc, (Instr.astore_n j), pc + mm_ln (Instr.astore_n j), ax) = some (.inl (pc', L', st', op)))
    (k : op = none → ∀ ls', mm_LH G ls' L' → W p l e R s m args below meth c H locs cells slots Q (F0 m pc' ls' (st'.map (mm_dn G)))) : W p l e R s m args below meth c H locs cells slots Q (F0 m pc ls (st.map (mm_dn G))) := by
  obtain ⟨v, r, L1, rfl, hok, hS, hq⟩ := mi_s1 (show mm_s1 _ L st j.val _ = some _ from hs)
  obtain ⟨o, ho⟩ := mi_isA (G := G) hok
  cases hq
  have h2 := fun ls' (h' : lv_has ls' L.length ((j.val, mm_dn G v) :: (mm_al G 0 L).filter (fun q => !(q.1 == j.val) && !(q.1 + 1 == j.val && q.2.category == 2)))) => k rfl ls' (mm_LH1 hS h')
  rw [List.map_cons]
  rw [ho] at h2 ⊢
  cases o with
  | none => exact lv_astore_nN hx hb hd rfl hl (mm_set1_keep hS).1 rfl h2
  | some q => exact lv_astore_n hx hb hd rfl hl (mm_set1_keep hS).1 rfl h2
theorem mp_iconst (hx : p.tables.exec = Jvm.exec) (hb : c.code = cc) {n : Int} (hd : decode cc pc = .ok ((Instr.iconst n), mm_ln (Instr.iconst n))) (hl : mm_LH G ls L) (hs : mm_stp X h L st (pc, (Instr.iconst n), pc + mm_ln (Instr.iconst n), ax) = some (.inl (pc', L', st', op)))
    (k : op = none → ∀ ls', mm_LH G ls' L' → W p l e R s m args below meth c H locs cells slots Q (F0 m pc' ls' (st'.map (mm_dn G)))) : W p l e R s m args below meth c H locs cells slots Q (F0 m pc ls (st.map (mm_dn G))) := by
  have hs := (show mm_fI (Int32.ofInt n) (fun z => mm_go _ L (.int z :: st)) = some _ from hs)
  rw [mm_fI_eq] at hs
  cases mi_go hs
  exact lv_iconst hx hb hd rfl (k rfl ls hl)
theorem mp_bipush (hx : p.tables.exec = Jvm.exec) (hb : c.code = cc) {n : Int} (hd : decode cc pc = .ok ((Instr.bipush n), mm_ln (Instr.bipush n))) (hl : mm_LH G ls L) (hs : mm_stp X h L st (pc, (Instr.bipush n), pc + mm_ln (Instr.bipush n), ax) = some (.inl (pc', L', st', op)))
    (k : op = none → ∀ ls', mm_LH G ls' L' → W p l e R s m args below meth c H locs cells slots Q (F0 m pc' ls' (st'.map (mm_dn G)))) : W p l e R s m args below meth c H locs cells slots Q (F0 m pc ls (st.map (mm_dn G))) := by
  have hs := (show mm_fI ((Int8.ofInt n).toInt32) (fun z => mm_go _ L (.int z :: st)) = some _ from hs)
  rw [mm_fI_eq] at hs
  cases mi_go hs
  exact lv_bipush hx hb hd rfl (k rfl ls hl)
theorem mp_sipush (hx : p.tables.exec = Jvm.exec) (hb : c.code = cc) {n : Int} (hd : decode cc pc = .ok ((Instr.sipush n), mm_ln (Instr.sipush n))) (hl : mm_LH G ls L) (hs : mm_stp X h L st (pc, (Instr.sipush n), pc + mm_ln (Instr.sipush n), ax) = some (.inl (pc', L', st', op)))
    (k : op = none → ∀ ls', mm_LH G ls' L' → W p l e R s m args below meth c H locs cells slots Q (F0 m pc' ls' (st'.map (mm_dn G)))) : W p l e R s m args below meth c H locs cells slots Q (F0 m pc ls (st.map (mm_dn G))) := by
  have hs := (show mm_fI ((Int16.ofInt n).toInt32) (fun z => mm_go _ L (.int z :: st)) = some _ from hs)
  rw [mm_fI_eq] at hs
  cases mi_go hs
  exact lv_sipush hx hb hd rfl (k rfl ls hl)
theorem mp_lconst (hx : p.tables.exec = Jvm.exec) (hb : c.code = cc) {n : Fin 2} (hd : decode cc pc = .ok ((Instr.lconst n), mm_ln (Instr.lconst n))) (hl : mm_LH G ls L) (hs : mm_stp X h L st (pc, (Instr.lconst n), pc + mm_ln (Instr.lconst n), ax) = some (.inl (pc', L', st', op)))
    (k : op = none → ∀ ls', mm_LH G ls' L' → W p l e R s m args below meth c H locs cells slots Q (F0 m pc' ls' (st'.map (mm_dn G)))) : W p l e R s m args below meth c H locs cells slots Q (F0 m pc ls (st.map (mm_dn G))) := by
  cases mi_go (show mm_go _ L _ = some _ from hs)
  exact lv_lconst hx hb hd rfl (k rfl ls hl)
theorem mp_null (hx : p.tables.exec = Jvm.exec) (hb : c.code = cc) (hd : decode cc pc = .ok (Instr.aconst_null, mm_ln Instr.aconst_null)) (hl : mm_LH G ls L) (hs : mm_stp X h L st (pc, Instr.aconst_null, pc + mm_ln Instr.aconst_null, ax) = some (.inl (pc', L', st', op)))
    (k : op = none → ∀ ls', mm_LH G ls' L' → W p l e R s m args below meth c H locs cells slots Q (F0 m pc' ls' (st'.map (mm_dn G)))) : W p l e R s m args below meth c H locs cells slots Q (F0 m pc ls (st.map (mm_dn G))) := by
  cases mi_go (show mm_go _ L _ = some _ from hs)
  exact lv_null hx hb hd (k rfl ls hl)
theorem mp_fconst0 (hx : p.tables.exec = Jvm.exec) (hb : c.code = cc) (hd : decode cc pc = .ok ((Instr.fconst 0), mm_ln (Instr.fconst 0))) (hl : mm_LH G ls L) (hs : mm_stp X h L st (pc, (Instr.fconst 0), pc + mm_ln (Instr.fconst 0), ax) = some (.inl (pc', L', st', op)))
    (k : op = none → ∀ ls', mm_LH G ls' L' → W p l e R s m args below meth c H locs cells slots Q (F0 m pc' ls' (st'.map (mm_dn G)))) : W p l e R s m args below meth c H locs cells slots Q (F0 m pc ls (st.map (mm_dn G))) := by
  cases mi_go (show mm_go _ L _ = some _ from hs)
  exact lv_fconst0 hx hb hd (k rfl ls hl)
theorem mp_dconst0 (hx : p.tables.exec = Jvm.exec) (hb : c.code = cc) (hd : decode cc pc = .ok ((Instr.dconst 0), mm_ln (Instr.dconst 0))) (hl : mm_LH G ls L) (hs : mm_stp X h L st (pc, (Instr.dconst 0), pc + mm_ln (Instr.dconst 0), ax) = some (.inl (pc', L', st', op)))
    (k : op = none → ∀ ls', mm_LH G ls' L' → W p l e R s m args below meth c H locs cells slots Q (F0 m pc' ls' (st'.map (mm_dn G)))) : W p l e R s m args below meth c H locs cells slots Q (F0 m pc ls (st.map (mm_dn G))) := by
  cases mi_go (show mm_go _ L _ = some _ from hs)
  exact lv_dconst0 hx hb hd (k rfl ls hl)
theorem mp_iadd (hx : p.tables.exec = Jvm.exec) (hb : c.code = cc) (hd : decode cc pc = .ok (Instr.iadd, mm_ln Instr.iadd)) (hl : mm_LH G ls L) (hs : mm_stp X h L st (pc, Instr.iadd, pc + mm_ln Instr.iadd, ax) = some (.inl (pc', L', st', op)))
    (k : op = none → ∀ ls', mm_LH G ls' L' → W p l e R s m args below meth c H locs cells slots Q (F0 m pc' ls' (st'.map (mm_dn G)))) : W p l e R s m args below meth c H locs cells slots Q (F0 m pc ls (st.map (mm_dn G))) := by
  obtain ⟨x, y, r, rfl, hq⟩ := mi_i2 (show mm_i2 _ L st _ = some _ from hs)
  cases hq
  exact lv_iadd hx hb hd (k rfl ls hl)
theorem mp_isub (hx : p.tables.exec = Jvm.exec) (hb : c.code = cc) (hd : decode cc pc = .ok (Instr.isub, mm_ln Instr.isub)) (hl : mm_LH G ls L) (hs : mm_stp X h L st (pc, Instr.isub, pc + mm_ln Instr.isub, ax) = some (.inl (pc', L', st', op)))
    (k : op = none → ∀ ls', mm_LH G ls' L' → W p l e R s m args below meth c H locs cells slots Q (F0 m pc' ls' (st'.map (mm_dn G)))) : W p l e R s m args below meth c H locs cells slots Q (F0 m pc ls (st.map (mm_dn G))) := by
  obtain ⟨x, y, r, rfl, hq⟩ := mi_i2 (show mm_i2 _ L st _ = some _ from hs)
  cases hq
  exact lv_isub hx hb hd (k rfl ls hl)
theorem mp_imul (hx : p.tables.exec = Jvm.exec) (hb : c.code = cc) (hd : decode cc pc = .ok (Instr.imul, mm_ln Instr.imul)) (hl : mm_LH G ls L) (hs : mm_stp X h L st (pc, Instr.imul, pc + mm_ln Instr.imul, ax) = some (.inl (pc', L', st', op)))
    (k : op = none → ∀ ls', mm_LH G ls' L' → W p l e R s m args below meth c H locs cells slots Q (F0 m pc' ls' (st'.map (mm_dn G)))) : W p l e R s m args below meth c H locs cells slots Q (F0 m pc ls (st.map (mm_dn G))) := by
  obtain ⟨x, y, r, rfl, hq⟩ := mi_i2 (show mm_i2 _ L st _ = some _ from hs)
  cases hq
  exact lv_imul hx hb hd (k rfl ls hl)
theorem mp_iand (hx : p.tables.exec = Jvm.exec) (hb : c.code = cc) (hd : decode cc pc = .ok (Instr.iand, mm_ln Instr.iand)) (hl : mm_LH G ls L) (hs : mm_stp X h L st (pc, Instr.iand, pc + mm_ln Instr.iand, ax) = some (.inl (pc', L', st', op)))
    (k : op = none → ∀ ls', mm_LH G ls' L' → W p l e R s m args below meth c H locs cells slots Q (F0 m pc' ls' (st'.map (mm_dn G)))) : W p l e R s m args below meth c H locs cells slots Q (F0 m pc ls (st.map (mm_dn G))) := by
  obtain ⟨x, y, r, rfl, hq⟩ := mi_i2 (show mm_i2 _ L st _ = some _ from hs)
  cases hq
  exact lv_iand hx hb hd (k rfl ls hl)
theorem mp_ior (hx : p.tables.exec = Jvm.exec) (hb : c.code = cc) (hd : decode cc pc = .ok (Instr.ior, mm_ln Instr.ior)) (hl : mm_LH G ls L) (hs : mm_stp X h L st (pc, Instr.ior, pc + mm_ln Instr.ior, ax) = some (.inl (pc', L', st', op)))
    (k : op = none → ∀ ls', mm_LH G ls' L' → W p l e R s m args below meth c H locs cells slots Q (F0 m pc' ls' (st'.map (mm_dn G)))) : W p l e R s m args below meth c H locs cells slots Q (F0 m pc ls (st.map (mm_dn G))) := by
  obtain ⟨x, y, r, rfl, hq⟩ := mi_i2 (show mm_i2 _ L st _ = some _ from hs)
  cases hq
  exact lv_ior hx hb hd (k rfl ls hl)
theorem mp_ixor (hx : p.tables.exec = Jvm.exec) (hb : c.code = cc) (hd : decode cc pc = .ok (Instr.ixor, mm_ln Instr.ixor)) (hl : mm_LH G ls L) (hs : mm_stp X h L st (pc, Instr.ixor, pc + mm_ln Instr.ixor, ax) = some (.inl (pc', L', st', op)))
    (k : op = none → ∀ ls', mm_LH G ls' L' → W p l e R s m args below meth c H locs cells slots Q (F0 m pc' ls' (st'.map (mm_dn G)))) : W p l e R s m args below meth c H locs cells slots Q (F0 m pc ls (st.map (mm_dn G))) := by
  obtain ⟨x, y, r, rfl, hq⟩ := mi_i2 (show mm_i2 _ L st _ = some _ from hs)
  cases hq
  exact lv_ixor hx hb hd (k rfl ls hl)
theorem mp_ishl (hx : p.tables.exec = Jvm.exec) (hb : c.code = cc) (hd : decode cc pc = .ok (Instr.ishl, mm_ln Instr.ishl)) (hl : mm_LH G ls L) (hs : mm_stp X h L st (pc, Instr.ishl, pc + mm_ln Instr.ishl, ax) = some (.inl (pc', L', st', op)))
    (k : op = none → ∀ ls', mm_LH G ls' L' → W p l e R s m args below meth c H locs cells slots Q (F0 m pc' ls' (st'.map (mm_dn G)))) : W p l e R s m args below meth c H locs cells slots Q (F0 m pc ls (st.map (mm_dn G))) := by
  obtain ⟨x, y, r, rfl, hq⟩ := mi_i2 (show mm_i2 _ L st _ = some _ from hs)
  cases hq
  exact lv_ishl hx hb hd (k rfl ls hl)
theorem mp_ishr (hx : p.tables.exec = Jvm.exec) (hb : c.code = cc) (hd : decode cc pc = .ok (Instr.ishr, mm_ln Instr.ishr)) (hl : mm_LH G ls L) (hs : mm_stp X h L st (pc, Instr.ishr, pc + mm_ln Instr.ishr, ax) = some (.inl (pc', L', st', op)))
    (k : op = none → ∀ ls', mm_LH G ls' L' → W p l e R s m args below meth c H locs cells slots Q (F0 m pc' ls' (st'.map (mm_dn G)))) : W p l e R s m args below meth c H locs cells slots Q (F0 m pc ls (st.map (mm_dn G))) := by
  obtain ⟨x, y, r, rfl, hq⟩ := mi_i2 (show mm_i2 _ L st _ = some _ from hs)
  cases hq
  exact lv_ishr hx hb hd (k rfl ls hl)
theorem mp_iushr (hx : p.tables.exec = Jvm.exec) (hb : c.code = cc) (hd : decode cc pc = .ok (Instr.iushr, mm_ln Instr.iushr)) (hl : mm_LH G ls L) (hs : mm_stp X h L st (pc, Instr.iushr, pc + mm_ln Instr.iushr, ax) = some (.inl (pc', L', st', op)))
    (k : op = none → ∀ ls', mm_LH G ls' L' → W p l e R s m args below meth c H locs cells slots Q (F0 m pc' ls' (st'.map (mm_dn G)))) : W p l e R s m args below meth c H locs cells slots Q (F0 m pc ls (st.map (mm_dn G))) := by
  obtain ⟨x, y, r, rfl, hq⟩ := mi_i2 (show mm_i2 _ L st _ = some _ from hs)
  cases hq
  exact lv_iushr hx hb hd rfl (k rfl ls hl)
theorem mp_idiv (hx : p.tables.exec = Jvm.exec) (hb : c.code = cc) (hd : decode cc pc = .ok (Instr.idiv, mm_ln Instr.idiv)) (hl : mm_LH G ls L) (hs : mm_stp X h L st (pc, Instr.idiv, pc + mm_ln Instr.idiv, ax) = some (.inl (pc', L', st', op)))
    (k : op = none → ∀ ls', mm_LH G ls' L' → W p l e R s m args below meth c H locs cells slots Q (F0 m pc' ls' (st'.map (mm_dn G)))) : W p l e R s m args below meth c H locs cells slots Q (F0 m pc ls (st.map (mm_dn G))) := by
  simp only [mm_stp] at hs
  split at hs
  · rename_i y r0
    split at hs
    · cases hs
    · rename_i hz
      obtain ⟨x, y2, r, he, hq⟩ := mi_i2 hs
      cases he
      cases hq
      exact lv_idiv hx hb hd (fun q => by rw [(mm_eq_iff y 0).mpr q] at hz; cases hz) (k rfl ls hl)
  · cases hs
theorem mp_irem (hx : p.tables.exec = Jvm.exec) (hb : c.code = cc) (hd : decode cc pc = .ok (Instr.irem, mm_ln Instr.irem)) (hl : mm_LH G ls L) (hs : mm_stp X h L st (pc, Instr.irem, pc + mm_ln Instr.irem, ax) = some (.inl (pc', L', st', op)))
    (k : op = none → ∀ ls', mm_LH G ls' L' → W p l e R s m args below meth c H locs cells slots Q (F0 m pc' ls' (st'.map (mm_dn G)))) : W p l e R s m args below meth c H locs cells slots Q (F0 m pc ls (st.map (mm_dn G))) := by
  simp only [mm_stp] at hs
  split at hs
  · rename_i y r0
    split at hs
    · cases hs
    · rename_i hz
      obtain ⟨x, y2, r, he, hq⟩ := mi_i2 hs
      cases he
      cases hq
      exact lv_irem hx hb hd (fun q => by rw [(mm_eq_iff y 0).mpr q] at hz; cases hz) (k rfl ls hl)
  · cases hs
theorem mp_ineg (hx : p.tables.exec = Jvm.exec) (hb : c.code = cc) (hd : decode cc pc = .ok (Instr.ineg, mm_ln Instr.ineg)) (hl : mm_LH G ls L) (hs : mm_stp X h L st (pc, Instr.ineg, pc + mm_ln Instr.ineg, ax) = some (.inl (pc', L', st', op)))
    (k : op = none → ∀ ls', mm_LH G ls' L' → W p l e R s m args below meth c H locs cells slots Q (F0 m pc' ls' (st'.map (mm_dn G)))) : W p l e R s m args below meth c H locs cells slots Q (F0 m pc ls (st.map (mm_dn G))) := by
  obtain ⟨x, r, rfl, hq⟩ := mi_i1 (show mm_i1 _ L st _ = some _ from hs)
  cases hq
  exact lv_ineg hx hb hd (k rfl ls hl)
theorem mp_i2b (hx : p.tables.exec = Jvm.exec) (hb : c.code = cc) (hd : decode cc pc = .ok (Instr.i2b, mm_ln Instr.i2b)) (hl : mm_LH G ls L) (hs : mm_stp X h L st (pc, Instr.i2b, pc + mm_ln Instr.i2b, ax) = some (.inl (pc', L', st', op)))
    (k : op = none → ∀ ls', mm_LH G ls' L' → W p l e R s m args below meth c H locs cells slots Q (F0 m pc' ls' (st'.map (mm_dn G)))) : W p l e R s m args below meth c H locs cells slots Q (F0 m pc ls (st.map (mm_dn G))) := by
  obtain ⟨x, r, rfl, hq⟩ := mi_i1 (show mm_i1 _ L st _ = some _ from hs)
  cases hq
  exact lv_i2b hx hb hd rfl (k rfl ls hl)
theorem mp_i2c (hx : p.tables.exec = Jvm.exec) (hb : c.code = cc) (hd : decode cc pc = .ok (Instr.i2c, mm_ln Instr.i2c)) (hl : mm_LH G ls L) (hs : mm_stp X h L st (pc, Instr.i2c, pc + mm_ln Instr.i2c, ax) = some (.inl (pc', L', st', op)))
    (k : op = none → ∀ ls', mm_LH G ls' L' → W p l e R s m args below meth c H locs cells slots Q (F0 m pc' ls' (st'.map (mm_dn G)))) : W p l e R s m args below meth c H locs cells slots Q (F0 m pc ls (st.map (mm_dn G))) := by
  obtain ⟨x, r, rfl, hq⟩ := mi_i1 (show mm_i1 _ L st _ = some _ from hs)
  cases hq
  exact lv_i2c hx hb hd rfl (k rfl ls hl)
theorem mp_i2l (hx : p.tables.exec = Jvm.exec) (hb : c.code = cc) (hd : decode cc pc = .ok (Instr.i2l, mm_ln Instr.i2l)) (hl : mm_LH G ls L) (hs : mm_stp X h L st (pc, Instr.i2l, pc + mm_ln Instr.i2l, ax) = some (.inl (pc', L', st', op)))
    (k : op = none → ∀ ls', mm_LH G ls' L' → W p l e R s m args below meth c H locs cells slots Q (F0 m pc' ls' (st'.map (mm_dn G)))) : W p l e R s m args below meth c H locs cells slots Q (F0 m pc ls (st.map (mm_dn G))) := by
  simp only [mm_stp] at hs
  split at hs
  · rw [mm_fL_eq] at hs
    cases mi_go hs
    exact lv_i2l hx hb hd rfl (k rfl ls hl)
  · cases hs
theorem mp_lcmp (hx : p.tables.exec = Jvm.exec) (hb : c.code = cc) (hd : decode cc pc = .ok (Instr.lcmp, mm_ln Instr.lcmp)) (hl : mm_LH G ls L) (hs : mm_stp X h L st (pc, Instr.lcmp, pc + mm_ln Instr.lcmp, ax) = some (.inl (pc', L', st', op)))
    (k : op = none → ∀ ls', mm_LH G ls' L' → W p l e R s m args below meth c H locs cells slots Q (F0 m pc' ls' (st'.map (mm_dn G)))) : W p l e R s m args below meth c H locs cells slots Q (F0 m pc ls (st.map (mm_dn G))) := by
  simp only [mm_stp] at hs
  split at hs
  · rw [mm_fI_eq, mm_lcmp_eq] at hs
    cases mi_go hs
    exact W.lcmp hx hb hd (k rfl ls hl)
  · cases hs
theorem mp_i2f (hx : p.tables.exec = Jvm.exec) (hb : c.code = cc) (hd : decode cc pc = .ok (Instr.i2f, mm_ln Instr.i2f)) (hl : mm_LH G ls L) (hs : mm_stp X h L st (pc, Instr.i2f, pc + mm_ln Instr.i2f, ax) = some (.inl (pc', L', st', op)))
    (k : op = none → ∀ ls', mm_LH G ls' L' → W p l e R s m args below meth c H locs cells slots Q (F0 m pc' ls' (st'.map (mm_dn G)))) : W p l e R s m args below meth c H locs cells slots Q (F0 m pc ls (st.map (mm_dn G))) := by
  simp only [mm_stp] at hs
  split at hs
  · cases mi_go hs
    exact lv_i2f hx hb hd (k rfl ls hl)
  · cases hs
theorem mp_i2d (hx : p.tables.exec = Jvm.exec) (hb : c.code = cc) (hd : decode cc pc = .ok (Instr.i2d, mm_ln Instr.i2d)) (hl : mm_LH G ls L) (hs : mm_stp X h L st (pc, Instr.i2d, pc + mm_ln Instr.i2d, ax) = some (.inl (pc', L', st', op)))
    (k : op = none → ∀ ls', mm_LH G ls' L' → W p l e R s m args below meth c H locs cells slots Q (F0 m pc' ls' (st'.map (mm_dn G)))) : W p l e R s m args below meth c H locs cells slots Q (F0 m pc ls (st.map (mm_dn G))) := by
  simp only [mm_stp] at hs
  split at hs
  · cases mi_go hs
    exact lv_i2d hx hb hd (k rfl ls hl)
  · cases hs
theorem mp_fdiv (hx : p.tables.exec = Jvm.exec) (hb : c.code = cc) (hd : decode cc pc = .ok (Instr.fdiv, mm_ln Instr.fdiv)) (hl : mm_LH G ls L) (hs : mm_stp X h L st (pc, Instr.fdiv, pc + mm_ln Instr.fdiv, ax) = some (.inl (pc', L', st', op)))
    (k : op = none → ∀ ls', mm_LH G ls' L' → W p l e R s m args below meth c H locs cells slots Q (F0 m pc' ls' (st'.map (mm_dn G)))) : W p l e R s m args below meth c H locs cells slots Q (F0 m pc ls (st.map (mm_dn G))) := by
  simp only [mm_stp] at hs
  split at hs
  · split at hs
    · rename_i hn
      cases mi_go hs
      exact lv_fdiv hx hb hd hn (k rfl ls hl)
    · cases hs
  · cases hs
theorem mp_ddiv (hx : p.tables.exec = Jvm.exec) (hb : c.code = cc) (hd : decode cc pc = .ok (Instr.ddiv, mm_ln Instr.ddiv)) (hl : mm_LH G ls L) (hs : mm_stp X h L st (pc, Instr.ddiv, pc + mm_ln Instr.ddiv, ax) = some (.inl (pc', L', st', op)))
    (k : op = none → ∀ ls', mm_LH G ls' L' → W p l e R s m args below meth c H locs cells slots Q (F0 m pc' ls' (st'.map (mm_dn G)))) : W p l e R s m args below meth c H locs cells slots Q (F0 m pc ls (st.map (mm_dn G))) := by
  simp only [mm_stp] at hs
  split at hs
  · split at hs
    · rename_i hn
      cases mi_go hs
      exact lv_ddiv hx hb hd hn (k rfl ls hl)
    · cases hs
  · cases hs
theorem mp_f2d (hx : p.tables.exec = Jvm.exec) (hb : c.code = cc) (hd : decode cc pc = .ok (Instr.f2d, mm_ln Instr.f2d)) (hl : mm_LH G ls L) (hs : mm_stp X h L st (pc, Instr.f2d, pc + mm_ln Instr.f2d, ax) = some (.inl (pc', L', st', op)))
    (k : op = none → ∀ ls', mm_LH G ls' L' → W p l e R s m args below meth c H locs cells slots Q (F0 m pc' ls' (st'.map (mm_dn G)))) : W p l e R s m args below meth c H locs cells slots Q (F0 m pc ls (st.map (mm_dn G))) := by
  simp only [mm_stp] at hs
  split at hs
  · split at hs
    · rename_i hn
      cases mi_go hs
      exact lv_f2d hx hb hd hn (k rfl ls hl)
    · cases hs
  · cases hs
theorem mp_dcmp (hx : p.tables.exec = Jvm.exec) (hb : c.code = cc) {o : CmpOp} (hd : decode cc pc = .ok ((Instr.dcmp o), mm_ln (Instr.dcmp o))) (hl : mm_LH G ls L) (hs : mm_stp X h L st (pc, (Instr.dcmp o), pc + mm_ln (Instr.dcmp o), ax) = some (.inl (pc', L', st', op)))
    (k : op = none → ∀ ls', mm_LH G ls' L' → W p l e R s m args below meth c H locs cells slots Q (F0 m pc' ls' (st'.map (mm_dn G)))) : W p l e R s m args below meth c H locs cells slots Q (F0 m pc ls (st.map (mm_dn G))) := by
  simp only [mm_stp] at hs
  split at hs
  · cases mi_go hs
    exact lv_dcmp hx hb hd (k rfl ls hl)
  · cases hs
theorem mp_dup (hx : p.tables.exec = Jvm.exec) (hb : c.code = cc) (hd : decode cc pc = .ok (Instr.dup, mm_ln Instr.dup)) (hl : mm_LH G ls L) (hs : mm_stp X h L st (pc, Instr.dup, pc + mm_ln Instr.dup, ax) = some (.inl (pc', L', st', op)))
    (k : op = none → ∀ ls', mm_LH G ls' L' → W p l e R s m args below meth c H locs cells slots Q (F0 m pc' ls' (st'.map (mm_dn G)))) : W p l e R s m args below meth c H locs cells slots Q (F0 m pc ls (st.map (mm_dn G))) := by
  simp only [mm_stp] at hs
  split at hs
  · split at hs
    · cases hs
    · rename_i hc
      cases mi_go hs
      exact lv_dup hx hb hd (mi_c1 hc) (k rfl ls hl)
  · cases hs
theorem mp_pop (hx : p.tables.exec = Jvm.exec) (hb : c.code = cc) (hd : decode cc pc = .ok (Instr.pop, mm_ln Instr.pop)) (hl : mm_LH G ls L) (hs : mm_stp X h L st (pc, Instr.pop, pc + mm_ln Instr.pop, ax) = some (.inl (pc', L', st', op)))
    (k : op = none → ∀ ls', mm_LH G ls' L' → W p l e R s m args below meth c H locs cells slots Q (F0 m pc' ls' (st'.map (mm_dn G)))) : W p l e R s m args below meth c H locs cells slots Q (F0 m pc ls (st.map (mm_dn G))) := by
  simp only [mm_stp] at hs
  split at hs
  · split at hs
    · cases hs
    · rename_i hc
      cases mi_go hs
      exact lv_pop hx hb hd (mi_c1 hc) (k rfl ls hl)
  · cases hs
theorem mp_dup_x1 (hx : p.tables.exec = Jvm.exec) (hb : c.code = cc) (hd : decode cc pc = .ok (Instr.dup_x1, mm_ln Instr.dup_x1)) (hl : mm_LH G ls L) (hs : mm_stp X h L st (pc, Instr.dup_x1, pc + mm_ln Instr.dup_x1, ax) = some (.inl (pc', L', st', op)))
    (k : op = none → ∀ ls', mm_LH G ls' L' → W p l e R s m args below meth c H locs cells slots Q (F0 m pc' ls' (st'.map (mm_dn G)))) : W p l e R s m args below meth c H locs cells slots Q (F0 m pc ls (st.map (mm_dn G))) := by
  simp only [mm_stp] at hs
  split at hs
  · split at hs
    · cases hs
    · rename_i hc
      cases mi_go hs
      exact lv_dup_x1 hx hb hd (mi_c1 (fun q => hc (Or.inl q))) (mi_c1 (fun q => hc (Or.inr q))) (k rfl ls hl)
  · cases hs
theorem mp_dup2 (hx : p.tables.exec = Jvm.exec) (hb : c.code = cc) (hd : decode cc pc = .ok (Instr.dup2, mm_ln Instr.dup2)) (hl : mm_LH G ls L) (hs : mm_stp X h L st (pc, Instr.dup2, pc + mm_ln Instr.dup2, ax) = some (.inl (pc', L', st', op)))
    (k : op = none → ∀ ls', mm_LH G ls' L' → W p l e R s m args below meth c H locs cells slots Q (F0 m pc' ls' (st'.map (mm_dn G)))) : W p l e R s m args below meth c H locs cells slots Q (F0 m pc ls (st.map (mm_dn G))) := by
  simp only [mm_stp] at hs
  split at hs
  · split at hs
    · cases hs
    · rename_i hc
      cases mi_go hs
      exact lv_dup2_11 hx hb hd (mi_c1 (fun q => hc (Or.inl q))) (mi_c1 (fun q => hc (Or.inr q))) (k rfl ls hl)
  · cases hs
theorem mp_iinc (hx : p.tables.exec = Jvm.exec) (hb : c.code = cc) {j : Nat} {n : Int} (hd : decode cc pc = .ok ((Instr.iinc j n), mm_ln (Instr.iinc j n))) (hl : mm_LH G ls L) (hs : mm_stp X h L st (pc, (Instr.iinc j n), pc + mm_ln (Instr.iinc j n), ax) = some (.inl (pc', L', st', op)))
    (k : op = none → ∀ ls', mm_LH G ls' L' → W p l e R s m args below meth c H locs cells slots Q (F0 m pc' ls' (st'.map (mm_dn G)))) : W p l e R s m args below meth c H locs cells slots Q (F0 m pc ls (st.map (mm_dn G))) := by
  simp only [mm_stp] at hs
  split at hs
  · rename_i x hg
    rw [mm_fI_eq] at hs
    split at hs
    · rename_i L1 hS
      cases mi_go hs
      obtain ⟨kk, hk⟩ : ∃ kk : Nat, (mm_al G 0 L)[kk]? = some (j, .int x) := by
        have hm : (j, mm_dn G (.int x)) ∈ mm_al G 0 L := (mm_al_mem G L 0 _).mpr ⟨j, .int x, by rw [Nat.zero_add], by
          unfold mm_get at hg
          cases hL : L[j]? with
          | none => rw [hL] at hg; cases hg
          | some o => rw [hL] at hg; exact congrArg some hg⟩
        exact List.getElem?_of_mem hm
      exact lv_iinc hx hb hd hl hk rfl (mm_set1_keep hS).1 rfl (fun ls' h' => k rfl ls' (mm_LH1 hS h'))
    · cases hs
  · cases hs
theorem mp_ifCond (hx : p.tables.exec = Jvm.exec) (hb : c.code = cc) {o : ClassFile.Cond} {off : Int} {own mn : String} {N : Nat → Option mm_N} (hd : decode cc pc = .ok ((Instr.ifCond o off), mm_ln (Instr.ifCond o off))) (hl : mm_LH G ls L) (hr : mm_rest own mn N cc pc (.ifCond o off) nx ax = true) (hs : mm_stp X h L st (pc, (Instr.ifCond o off), pc + mm_ln (Instr.ifCond o off), ax) = some (.inl (pc', L', st', op)))
    (k : op = none → ∀ ls', mm_LH G ls' L' → W p l e R s m args below meth c H locs cells slots Q (F0 m pc' ls' (st'.map (mm_dn G)))) : W p l e R s m args below meth c H locs cells slots Q (F0 m pc ls (st.map (mm_dn G))) := by
  simp only [mm_stp] at hs
  split at hs
  · rename_i x r
    obtain ⟨t, rfl, hq⟩ := mi_br hs
    have ht : (pc : Int) + off = (t : Int) := of_decide_eq_true hr
    have e := mm_cnd_iff o x 0
    rcases hq with ⟨hc, hq⟩ | ⟨hc, hq⟩
    · cases hq
      have e := e.mp hc
      cases o
      · exact lv_if_eq hx hb hd ht (fun _ => k rfl ls hl) (fun q => absurd e q)
      · exact lv_if_ne hx hb hd ht (fun _ => k rfl ls hl) (fun q => absurd q e)
      · exact lv_if_lt hx hb hd ht (fun _ => k rfl ls hl) (fun q => absurd e q)
      · exact lv_if_ge hx hb hd ht (fun _ => k rfl ls hl) (fun q => absurd (Int32.not_lt.mp e) q)
      · exact lv_if_gt hx hb hd ht (fun _ => k rfl ls hl) (fun q => absurd e q)
      · exact lv_if_le hx hb hd ht (fun _ => k rfl ls hl) (fun q => absurd (Int32.not_lt.mp e) q)
    · cases hq
      have e := fun z => Bool.false_ne_true (hc.symm.trans (e.mpr z))
      cases o
      · exact lv_if_eq hx hb hd ht (fun q => absurd q e) (fun _ => k rfl ls hl)
      · exact lv_if_ne hx hb hd ht (fun q => absurd q e) (fun _ => k rfl ls hl)
      · exact lv_if_lt hx hb hd ht (fun q => absurd q e) (fun _ => k rfl ls hl)
      · exact lv_if_ge hx hb hd ht (fun q => absurd (Int32.not_lt.mpr q) e) (fun _ => k rfl ls hl)
      · exact lv_if_gt hx hb hd ht (fun q => absurd q e) (fun _ => k rfl ls hl)
      · exact lv_if_le hx hb hd ht (fun q => absurd (Int32.not_lt.mpr q) e) (fun _ => k rfl ls hl)
  · cases hs
theorem mp_if_icmp (hx : p.tables.exec = Jvm.exec) (hb : c.code = cc) {o : ClassFile.Cond} {off : Int} {own mn : String} {N : Nat → Option mm_N} (hd : decode cc pc = .ok ((Instr.if_icmp o off), mm_ln (Instr.if_icmp o off))) (hl : mm_LH G ls L) (hr : mm_rest own mn N cc pc (.if_icmp o off) nx ax = true) (hs : mm_stp X h L st (pc, (Instr.if_icmp o off), pc + mm_ln (Instr.if_icmp o off), ax) = some (.inl (pc', L', st', op)))
    (k : op = none → ∀ ls', mm_LH G ls' L' → W p l e R s m args below meth c H locs cells slots Q (F0 m pc' ls' (st'.map (mm_dn G)))) : W p l e R s m args below meth c H locs cells slots Q (F0 m pc ls (st.map (mm_dn G))) := by
  simp only [mm_stp] at hs
  split at hs
  · rename_i y x r
    obtain ⟨t, rfl, hq⟩ := mi_br hs
    have ht : (pc : Int) + off = (t : Int) := of_decide_eq_true hr
    have e := mm_cnd_iff o x y
    rcases hq with ⟨hc, hq⟩ | ⟨hc, hq⟩
    · cases hq
      have e := e.mp hc
      cases o
      · exact lv_icmp_eq hx hb hd ht (fun _ => k rfl ls hl) (fun q => absurd e q)
      · exact lv_icmp_ne hx hb hd ht (fun _ => k rfl ls hl) (fun q => absurd q e)
      · exact lv_icmp_lt hx hb hd ht (fun _ => k rfl ls hl) (fun q => absurd e q)
      · exact lv_icmp_ge hx hb hd ht (fun _ => k rfl ls hl) (fun q => absurd (Int32.not_lt.mp e) q)
      · exact lv_icmp_gt hx hb hd ht (fun _ => k rfl ls hl) (fun q => absurd e q)
      · exact lv_icmp_le hx hb hd ht (fun _ => k rfl ls hl) (fun q => absurd (Int32.not_lt.mp e) q)
    · cases hq
      have e := fun z => Bool.false_ne_true (hc.symm.trans (e.mpr z))
      cases o
      · exact lv_icmp_eq hx hb hd ht (fun q => absurd q e) (fun _ => k rfl ls hl)
      · exact lv_icmp_ne hx hb hd ht (fun q => absurd q e) (fun _ => k rfl ls hl)
      · exact lv_icmp_lt hx hb hd ht (fun q => absurd q e) (fun _ => k rfl ls hl)
      · exact lv_icmp_ge hx hb hd ht (fun q => absurd (Int32.not_lt.mpr q) e) (fun _ => k rfl ls hl)
      · exact lv_icmp_gt hx hb hd ht (fun q => absurd q e) (fun _ => k rfl ls hl)
      · exact lv_icmp_le hx hb hd ht (fun q => absurd (Int32.not_lt.mpr q) e) (fun _ => k rfl ls hl)
  · cases hs
theorem mp_goto (hx : p.tables.exec = Jvm.exec) (hb : c.code = cc) {off : Int} {own mn : String} {N : Nat → Option mm_N} (hd : decode cc pc = .ok ((Instr.goto off), mm_ln (Instr.goto off))) (hl : mm_LH G ls L) (hr : mm_rest own mn N cc pc (.goto off) nx ax = true) (hs : mm_stp X h L st (pc, (Instr.goto off), pc + mm_ln (Instr.goto off), ax) = some (.inl (pc', L', st', op)))
    (k : op = none → ∀ ls', mm_LH G ls' L' → W p l e R s m args below meth c H locs cells slots Q (F0 m pc' ls' (st'.map (mm_dn G)))) : W p l e R s m args below meth c H locs cells slots Q (F0 m pc ls (st.map (mm_dn G))) := by
  simp only [mm_stp] at hs
  split at hs
  · rename_i t
    have ht : (pc : Int) + off = (t : Int) := of_decide_eq_true hr
    cases mi_go hs
    exact lv_goto hx hb hd ht (k rfl ls hl)
  · cases hs
end MP
end
section
/-! ===== what holds around the heap: tables, statics, constants, the script ===== -/
def mt_g : List Jvm.Cond := mt_tbl.filter goodWord
def mm_xc (G : mm_G) (k : Nat) (c : mm_C) (U : State) (H : Heap) : Prop := match c with
  | .inl (t, n, N) => ∃ q, mm_ad G k = some q ∧ ((t = 0 ∧ va_T .int q n (fun j => .int (Int32.ofNat (mm_ag 32 N j))) (mm_Ar G) U H) ∨ (t = 2 ∧ va_T .byte q n (fun j => .int (Int32.ofNat (mm_ag 32 N j))) (mm_Ar G) U H))
  | .inr (.inl _) => False
  | .inr (.inr (ci, fs)) => ∃ q r, mm_ad G k = some q ∧ mm_cls[ci]? = some r ∧ va_O r.1 q (mm_Ar G) U H ∧ ∀ (f : Nat) (v : Value) (d : String × String × String × Bool), fs[f]? = some v → r.2[f]? = some d → va_OF d.1 d.2.1 d.2.2.1 (mm_dn G v) q (mm_Ar G) U H
def mm_Ev (G : mm_G) (X : mm_X) (U : State) : Prop :=
  va_K G.2.2.1 mm_cl (mm_tys G) U ∧
  (∀ k f v, mm_stn[k]? = some f → X.2.2.1 k = some v → va_Z f.1 f.2.1 f.2.2 (mm_dn G v) (mm_Ar G) U U.heap) ∧
  (∀ own x k, (own, x, k) ∈ mm_sites → ∃ q tx, mm_ad G k = some q ∧ vk_R own x tx q U) ∧
  (∀ k c, k < 64 → X.1 k = some c → mm_xc G k c U U.heap) ∧
  (∃ b xs, mm_ad G 0 = some b ∧ va_X b X.2.1.1 xs U U.heap ∧ b < U.heap.size ∧ ¬ mm_Ar G b ∧ ∀ j x, X.2.1.2 j = some x → xs j = x) ∧
  (vx_Zq Bundle.tN "UNASSIGNED_STACK" Bundle.steD (mm_Ar G) U U.heap ∧ vx_Zq Bundle.tN "SUPPRESSED_SENTINEL" Bundle.listD (mm_Ar G) U U.heap) ∧
  (∀ w ∈ mt_tbl, mm_isN w = true → va_Nw w U) ∧
  (∀ k, k < 63 → ∃ q, mm_ad G k = some q)
theorem mm_Ev.to {G : mm_G} {X : mm_X} {s U : State} {H : Heap} {locs : List Loc} (h : mm_Ev G X s) (hS : va_S (mm_Ar G) s.heap H locs) (hU : U.heap = H) (hW : s.WarmedH U.vm) : mm_Ev G X U := by
  subst hU
  obtain ⟨a1, a2, a3, a4, ⟨b, xs, c1, c2, c3, c4, c5⟩, ⟨a6, a7⟩, a8, a9⟩ := h
  refine ⟨a1.moved hW.alike, fun k f v h1 h2 => va_Z.moved hW.alike ((a2 k f v h1 h2).kept hS.2.1), fun own x k hm => ?_, fun k c hk hc => ?_, ⟨b, xs, c1, (c2.kept (hS.2.1 b c3 c4)).moved hW.alike, Nat.lt_of_lt_of_le c3 hS.1, c4, c5⟩, ⟨vx_Zq.moved hW.alike (a6.kept hS.2.1), vx_Zq.moved hW.alike (a7.kept hS.2.1)⟩, fun w hw hn => ?_, a9⟩
  · obtain ⟨q, tx, h1, h2⟩ := a3 own x k hm
    exact ⟨q, tx, h1, h2.warm hW⟩
  · have h1 := a4 k c hk hc
    match c, h1 with
    | .inl (t, n, N), h1 =>
      obtain ⟨q, e1, h2⟩ := h1
      refine ⟨q, e1, ?_⟩
      rcases h2 with ⟨e, h2⟩ | ⟨e, h2⟩
      · exact Or.inl ⟨e, va_T.moved hW.alike (h2.kept hS.2.1)⟩
      · exact Or.inr ⟨e, va_T.moved hW.alike (h2.kept hS.2.1)⟩
    | .inr (.inl _), h1 => exact h1
    | .inr (.inr (ci, fs)), h1 =>
      obtain ⟨q, r, e1, e2, e3, e4⟩ := h1
      exact ⟨q, r, e1, e2, va_O.moved hW.alike (e3.kept hS.2.1), fun f v d g1 g2 => va_OF.moved hW.alike ((e4 f v d g1 g2).kept hS.2.1)⟩
  · have h1 := a8 w hw hn
    match w, hn, h1 with
    | .fieldLinkNest a i b n d h, _, h1 => exact va_Nw.warmF hW h1
    | .methodLinkNest a i x h, _, h1 => exact va_Nw.warmM hW h1
    | .castable a b, _, h1 => exact va_Nw.warmC hW h1
    | .declares a, _, h1 => exact va_Nw.warmD hW h1
    | .arrayOver (.object C), _, h1 => exact va_AO.moved hW.alike h1
theorem mm_Ev.blind {G : mm_G} {X : mm_X} {U : State} {g : JFrame} {mk : MethodId} {a : Array Value} (h : mm_Ev G X U) : mm_Ev G X (U.calling g mk a) :=
  h.to (locs := []) va_S.rf rfl (State.WarmedH.refl U)
def mm_Fx (p : Program) (s : State) (m : MethodId) (args : Array Value) (c : Code) (cc : ByteArray) (own : String) (G : mm_G) (X : mm_X) : Prop :=
  p.tables.exec = Jvm.exec ∧ c.code = cc ∧ s.vm.findClass own = some m.cls ∧ (∀ w ∈ mt_g, w.before args s = true) ∧ mm_Ev G X s ∧ X.2.2.2 = mm_fty
theorem mm_wd {p : Program} {s : State} {m : MethodId} {args : Array Value} {c : Code} {cc : ByteArray} {own : String} {G : mm_G} {X : mm_X} (hF : mm_Fx p s m args c cc own G X) {i : Nat} {w : Jvm.Cond} (h : (goodWord w || mm_isN w) = true) (hi : mt_tbl[i]? = some w) : w.before args s = true := by
  obtain ⟨-, -, -, hts, hE, -⟩ := hF
  have hm : w ∈ mt_tbl := List.mem_of_getElem? hi
  cases hg : goodWord w with
  | true => exact hts w (List.mem_filter.mpr ⟨hm, hg⟩)
  | false =>
    rw [hg, Bool.false_or] at h
    have h1 := hE.2.2.2.2.2.2.1 w hm h
    match w, h, h1 with
    | .fieldLinkNest a i b n d h, _, h1 => exact va_tabs rfl rfl h1
    | .methodLinkNest a i x h, _, h1 => exact va_tabs rfl rfl h1
    | .castable a b, _, h1 => exact va_tabs rfl rfl h1
    | .declares a, _, h1 => exact va_tabs rfl rfl h1
    | .arrayOver (.object C), _, h1 => exact va_AO.use h1
theorem mm_need_wd {p : Program} {s : State} {m : MethodId} {args : Array Value} {c : Code} {cc : ByteArray} {own mn : String} {G : mm_G} {X : mm_X} (hF : mm_Fx p s m args c cc own G X) {N : Nat → Option mm_N} {pc nx : Nat} {i : Instr} {ax : List Nat} (hI : mm_okI own mn N cc (pc, i, nx, ax) = true) {l : List (Nat × Jvm.Cond)} (hn : mm_need own N i ax = some l) : ∀ q ∈ l, q.2.before args s = true := by
  intro q hq
  unfold mm_okI at hI
  simp only [Bool.and_eq_true] at hI
  obtain ⟨-, h2, -⟩ := hI
  rw [hn] at h2
  have h3 := List.all_eq_true.mp h2 q hq
  rw [Bool.and_eq_true] at h3
  exact mm_wd hF h3.1 (of_decide_eq_true h3.2)
theorem mm_okI_rest {own mn : String} {N : Nat → Option mm_N} {cc : ByteArray} {pc nx : Nat} {i : Instr} {ax : List Nat} (hI : mm_okI own mn N cc (pc, i, nx, ax) = true) : mm_rest own mn N cc pc i nx ax = true := by
  unfold mm_okI at hI
  simp only [Bool.and_eq_true] at hI
  exact hI.2.2
theorem mm_okI_dec {own mn : String} {N : Nat → Option mm_N} {cc : ByteArray} {pc nx : Nat} {i : Instr} {ax : List Nat} (hI : mm_okI own mn N cc (pc, i, nx, ax) = true) (hne : ∀ a b c d, i ≠ .tableswitch a b c d) : decode cc pc = .ok (i, mm_ln i) ∧ nx = pc + mm_ln i := by
  unfold mm_okI at hI
  simp only [Bool.and_eq_true] at hI
  have h1 := hI.1
  exact ⟨of_decide_eq_true h1.1, Nat.beq_eq.mp h1.2⟩
theorem mm_okI_sw {own mn : String} {N : Nat → Option mm_N} {cc : ByteArray} {pc nx : Nat} {a b c : Int} {d : Array Int} {ax : List Nat} (hI : mm_okI own mn N cc (pc, .tableswitch a b c d, nx, ax) = true) : decode cc pc = .ok (.tableswitch a b c d, nx - pc) := by
  unfold mm_okI at hI
  simp only [Bool.and_eq_true] at hI
  exact of_decide_eq_true hI.1
/-- the heap can't be larger than the count -/
theorem mm_bound {p : Program} {l : Launch} {e : Env} {R : Room} {s : State} {m : MethodId} {args : Array Value} {below : List Frame} {meth : Method} {c : Code} {H : Heap} {locs : List Loc} {cells slots : Nat} {Q : State → Prop} {g : JFrame}
    (k : H.size ≤ s.heap.size + cells → W p l e R s m args below meth c H locs cells slots Q g) : W p l e R s m args below meth c H locs cells slots Q g :=
  fun T hT X => k (by rw [← hT]; exact X.heapSize) T hT X
theorem mm_dn_own {G : mm_G} {a : Nat} (h : 64 ≤ a) : mm_dn G (.ref a) = .ref (G.1 + (a - 64)) := by
  show va_rf (mm_ad G a) = _
  unfold mm_ad
  rw [if_neg (by omega)]
  rfl
theorem mm_rd_own {X : Nat → Option mm_C} {h : mm_H} {a : Nat} (h1 : 64 ≤ a) : mm_rd X h a = h[a - 64]? := by
  unfold mm_rd
  rw [show Nat.ble 64 a = true from Nat.ble_eq.mpr h1]
theorem mm_rd_ext {X : Nat → Option mm_C} {h : mm_H} {a : Nat} (h1 : ¬ 64 ≤ a) : mm_rd X h a = X a := by
  unfold mm_rd
  rw [show Nat.ble 64 a = false from by rw [← Bool.not_eq_true, Nat.ble_eq]; exact h1]
theorem mm_obj_eq {o : Option mm_C} {ci : Nat} {fs : List Value} (h : mm_obj o ci = some fs) : o = some (.inr (.inr (ci, fs))) := by
  unfold mm_obj at h
  split at h
  · split at h
    · rename_i hb
      cases h
      rw [Nat.beq_eq] at hb
      rw [hb]
    · cases h
  · cases h
theorem mm_prim_eq {o : Option mm_C} {t n N : Nat} (h : mm_prim o t = some (n, N)) : o = some (.inl (t, n, N)) := by
  unfold mm_prim at h
  split at h
  · split at h
    · rename_i hb
      cases h
      rw [Nat.beq_eq] at hb
      rw [hb]
    · cases h
  · cases h
theorem mm_cl_get {ci : Nat} {q : String × List (String × String × String × Bool)} (h : mm_cls[ci]? = some q) : mm_cl[ci]? = some (q.1, mm_T q.2, q.2.length) := by
  unfold mm_cl
  rw [List.getElem?_map, h]
  rfl
theorem mm_T_get {fs : List (String × String × String × Bool)} {k : Nat} {f : String × String × String × Bool} (h : fs[k]? = some f) : mm_T fs k = f := by
  unfold mm_T
  rw [List.getD_eq_getElem?_getD, h]
  rfl
/-- what the classes' tables give -/
def mm_Cok : Prop := ∀ ci q, mm_cls[ci]? = some q → (∀ w ∈ u_ws q.1 (mm_T q.2) q.2.length, w ∈ mt_g) ∧ (∀ a, a < q.2.length → ∀ b, b < q.2.length → a ≠ b → (mm_T q.2 a).2.1 ≠ (mm_T q.2 b).2.1) ∧ (mm_fty ci).length = q.2.length ∧ ∀ k ty, (mm_fty ci)[k]? = some ty → parseFieldDescriptor (mm_T q.2 k).2.2.1 = some ty
theorem mm_Wof {G : mm_G} {h : mm_H} {H1 : Heap} (hP : va_P G.2.2.1 mm_cl (mm_ws G h) H1) (hb : H1.size ≤ G.1 + h.length) (h0 : G.1 ≤ H1.size) : mm_W G h H1 := by
  refine ⟨hP, Nat.le_antisymm hb ?_⟩
  cases hl : h.length with
  | zero => exact h0
  | succ n =>
    have hc : n < h.length := by omega
    have h1 : (mm_ws G h)[n]? = some (G.1 + n, mm_dE G h[n]) := by rw [mm_ws_get, List.getElem?_eq_getElem hc]; rfl
    have h2 := (hP n _ h1).lt
    have h2 : G.1 + n < H1.size := h2
    omega
end
section
/-! ===== one instruction: reads of the heap, links, switches ===== -/
section MH
variable {p : Program} {l : Launch} {e : Env} {R : Room} {s : State} {m : MethodId} {args : Array Value} {below : List Frame} {meth : Method} {c : Code} {H : Heap} {locs : List Loc} {cells slots : Nat} {Q : State → Prop}
variable {cc : ByteArray} {pc : Nat} {ls : Array Slot} {G : mm_G} {X : mm_X} {h : mm_H} {L L' : mm_L} {st st' : List Value} {nx pc' : Nat} {ax : List Nat} {op : Option ((Nat × mm_C) ⊕ mm_C)} {own mn : String} {N : Nat → Option mm_N}
theorem mm_okI_need {i : Instr} (hI : mm_okI own mn N cc (pc, i, nx, ax) = true) : ∃ l, mm_need own N i ax = some l := by
  unfold mm_okI at hI
  simp only [Bool.and_eq_true] at hI
  have h2 := hI.2.1
  cases hn : mm_need own N i ax with
  | none => rw [hn] at h2; cases h2
  | some l => exact ⟨l, rfl⟩
theorem mm_fieldlink (hF : mm_Fx p s m args c cc own G X) {i : Instr} {x : Nat} (hi : i = .getfield x ∨ i = .putfield x) {nest ci k : Nat} {t : List Nat} (hI : mm_okI own mn N cc (pc, i, nx, nest :: ci :: k :: t) = true) :
    ∃ q f, mm_cls[ci]? = some q ∧ q.2[k]? = some f ∧ ((nest = 0 ∧ (Jvm.Cond.fieldLink own x f.1 f.2.1 f.2.2.1).before args s = true) ∨ (nest ≠ 0 ∧ ∃ hx, (Jvm.Cond.fieldLinkNest own x f.1 f.2.1 f.2.2.1 hx).before args s = true)) := by
  obtain ⟨lw, hn⟩ := mm_okI_need hI
  have hw := mm_need_wd hF hI hn
  rcases hi with rfl | rfl
  all_goals
    cases t with
    | nil => cases hn
    | cons p0 r =>
      simp only [mm_need] at hn
      split at hn
      · rename_i q hq
        split at hn
        · rename_i f hf
          refine ⟨q, f, hq, hf, ?_⟩
          split at hn
          · cases hn
            exact Or.inl ⟨rfl, hw _ List.mem_cons_self⟩
          · rename_i hne
            cases hn
            exact Or.inr ⟨fun z => hne z, _, hw _ List.mem_cons_self⟩
          · cases hn
        · cases hn
      · cases hn
/-- what the externals are: below 64, their objects Strings -/
def mm_Xok (X : mm_X) : Prop := (∀ k q, X.1 k = some q → k < 64) ∧ ∀ k ci fs, X.1 k = some (.inr (.inr (ci, fs))) → ci = 0
theorem mm_own_at {k : Nat} {q : mm_C} (h1 : h[k]? = some q) : (mm_ws G h)[k]? = some (G.1 + k, mm_dE G q) := by
  rw [mm_ws_get, h1]; rfl
theorem mh_getfield (hC : mm_Cok) (hX : mm_Xok X) (hF : mm_Fx p s m args c cc own G X) {x : Nat} (hI : mm_okI own mn N cc (pc, .getfield x, nx, ax) = true) (hW : mm_W G h H) (hS : va_S (mm_Ar G) s.heap H locs) (hl : mm_LH G ls L) (hs : mm_stp X h L st (pc, .getfield x, nx, ax) = some (.inl (pc', L', st', op)))
    (k : op = none → ∀ ls', mm_LH G ls' L' → W p l e R s m args below meth c H locs cells slots Q (F0 m pc' ls' (st'.map (mm_dn G)))) : W p l e R s m args below meth c H locs cells slots Q (F0 m pc ls (st.map (mm_dn G))) := by
  obtain ⟨hd, hn⟩ := mm_okI_dec hI (fun _ _ _ _ q => by cases q)
  subst hn
  simp only [mm_stp] at hs
  split at hs
  · rename_i a r nest ci kf ax0
    split at hs
    · rename_i fs ho
      split at hs
      · rename_i v hv
        cases mi_go hs
        have hk := k rfl ls hl
        rw [List.map_cons] at hk
        obtain ⟨q, f, hq, hf, hlk⟩ := mm_fieldlink hF (Or.inl rfl) hI
        have hfl : kf < q.2.length := (List.getElem?_eq_some_iff.mp hf).1
        have hT := mm_T_get hf
        have ho := mm_obj_eq ho
        obtain ⟨hx, hb, hown, hts, hE, hXf⟩ := hF
        rw [List.map_cons]
        by_cases ha : 64 ≤ a
        · rw [mm_rd_own ha] at ho
          rw [mm_dn_own ha]
          have he := mm_own_at (G := G) ho
          have hv2 : (fs.map (mm_dn G))[kf]? = some (mm_dn G v) := by rw [List.getElem?_map, hv]; rfl
          rcases hlk with ⟨-, hlk⟩ | ⟨hn0, hx0, hlk⟩
          · exact va_get (D := G.2.2.1) (cl := mm_cl) (tys := mm_tys G) (ws := mm_ws G h) (ci := ci) (C := q.1) (T := mm_T q.2) (N := q.2.length) (ref := f.1) hx hb hts (hC ci q hq).1 hown hE.1 hW.1 (a - 64) he (mm_cl_get hq) kf hfl (by rw [hT]; exact hlk) (by rw [hT]; exact fun _ z => z) hv2 hd hk
          · exact va_getN (D := G.2.2.1) (cl := mm_cl) (tys := mm_tys G) (ws := mm_ws G h) (ci := ci) (C := q.1) (T := mm_T q.2) (N := q.2.length) (ref := f.1) (host := hx0) hx hb hts (hC ci q hq).1 hown hE.1 hW.1 (a - 64) he (mm_cl_get hq) kf hfl (by rw [hT]; exact hlk) (by rw [hT]; exact fun _ z => z) hv2 hd hk
        · rw [mm_rd_ext ha] at ho
          obtain ⟨qa, r0, e1, e2, e3, e4⟩ := hE.2.2.2.1 a _ (hX.1 _ _ ho) ho
          cases hq.symm.trans e2
          have hO := e4 kf v f hv hf
          rw [show mm_dn G (.ref a) = .ref qa from by show va_rf (mm_ad G a) = _; rw [e1]; rfl]
          rcases hlk with ⟨-, hlk⟩ | ⟨hn0, hx0, hlk⟩
          · exact vk_getf hx hb hO hS hown hlk (fun _ z => z) hd hk
          · have hr := of_decide_eq_true (mm_okI_rest hI)
            have hci : ci = 0 := (hX.2 _ _ _ ho)
            rcases hr with hr | hr
            · exact absurd hr hn0
            · exact absurd hci hr
      · cases hs
    · cases hs
  · cases hs
theorem mh_getstatic (hX : mm_Xok X) (hF : mm_Fx p s m args c cc own G X) {x : Nat} (hI : mm_okI own mn N cc (pc, .getstatic x, nx, ax) = true) (hW : mm_W G h H) (hS : va_S (mm_Ar G) s.heap H locs) (hl : mm_LH G ls L) (hs : mm_stp X h L st (pc, .getstatic x, nx, ax) = some (.inl (pc', L', st', op)))
    (k : op = none → ∀ ls', mm_LH G ls' L' → W p l e R s m args below meth c H locs cells slots Q (F0 m pc' ls' (st'.map (mm_dn G)))) : W p l e R s m args below meth c H locs cells slots Q (F0 m pc ls (st.map (mm_dn G))) := by
  obtain ⟨hd, hn⟩ := mm_okI_dec hI (fun _ _ _ _ q => by cases q)
  subst hn
  obtain ⟨lw, hnd⟩ := mm_okI_need hI
  have hw := mm_need_wd hF hI hnd
  obtain ⟨hx, hb, hown, hts, hE, hXf⟩ := hF
  simp only [mm_stp] at hs
  split at hs
  · rename_i nest kk ax0
    split at hs
    · rename_i v hv
      cases mi_go hs
      have hk := k rfl ls hl
      rw [List.map_cons] at hk
      cases ax0 with
      | nil => cases hnd
      | cons p0 r0 =>
        simp only [mm_need] at hnd
        split at hnd
        · rename_i f hf
          have hZ := hE.2.1 kk f v hf hv
          split at hnd
          · cases hnd
            exact va_gets hx hb hZ hS hown (hw _ List.mem_cons_self) (fun _ z => z) hd hk
          · cases hnd
            exact va_getsN hx hb hZ hS hown (hw _ List.mem_cons_self) (fun _ z => z) hd hk
          · cases hnd
        · cases hnd
    · cases hs
  · cases hs
theorem mh_ldcSW {tx : String} {index q : Nat} {rest : List Value} (hexec : p.tables.exec = Jvm.exec) (hb : c.code = cc) (hown : s.vm.findClass own = some m.cls) (hZ : vk_R own index tx q s) (hdg : decode cc pc = .ok (.ldc_w index, 3))
    (k : W p l e R s m args below meth c H locs cells slots Q (F0 m (pc + 3) ls (.ref q :: rest))) : W p l e R s m args below meth c H locs cells slots Q (F0 m pc ls rest) := by
  intro T hT X
  obtain ⟨t, a1, b1⟩ := k T hT X
  exact ⟨t, X.ldcStringW hexec hown (text := tx) (a := q) hZ.1 hZ.2 (g := F0 m pc ls rest) rfl (by rw [hb]; exact hdg) t a1, b1⟩
theorem mm_dn_some {a q : Nat} (e : mm_ad G a = some q) : mm_dn G (.ref a) = .ref q := by
  show va_rf (mm_ad G a) = _
  rw [e]; rfl
theorem mh_ldc (hX : mm_Xok X) (hF : mm_Fx p s m args c cc own G X) {x : Nat} (hI : mm_okI own mn N cc (pc, .ldc x, nx, ax) = true) (hW : mm_W G h H) (hS : va_S (mm_Ar G) s.heap H locs) (hl : mm_LH G ls L) (hs : mm_stp X h L st (pc, .ldc x, nx, ax) = some (.inl (pc', L', st', op)))
    (k : op = none → ∀ ls', mm_LH G ls' L' → W p l e R s m args below meth c H locs cells slots Q (F0 m pc' ls' (st'.map (mm_dn G)))) : W p l e R s m args below meth c H locs cells slots Q (F0 m pc ls (st.map (mm_dn G))) := by
  obtain ⟨hd, hn⟩ := mm_okI_dec hI (fun _ _ _ _ q => by cases q)
  subst hn
  obtain ⟨lw, hnd⟩ := mm_okI_need hI
  have hw := mm_need_wd hF hI hnd
  have hr := mm_okI_rest hI
  obtain ⟨hx, hb, hown, hts, hE, hXf⟩ := hF
  simp only [mm_stp] at hs
  split at hs
  · rename_i v ax0
    cases mi_go hs
    have hk := k rfl ls hl
    rw [List.map_cons] at hk
    cases ax0 with
    | nil => cases hnd
    | cons p0 r0 =>
      cases hnd
      exact lv_ldc hx hb hown (hw _ List.mem_cons_self) hd hk
  · rename_i v ax0
    cases mi_go hs
    have hk := k rfl ls hl
    rw [List.map_cons] at hk
    obtain ⟨q, tx, e1, e2⟩ := hE.2.2.1 _ _ _ (of_decide_eq_true hr)
    rw [mm_dn_some e1] at hk
    exact va_ldcS hx hb hown e2 hd hk
  · cases hs
theorem mh_ldc_w (hX : mm_Xok X) (hF : mm_Fx p s m args c cc own G X) {x : Nat} (hI : mm_okI own mn N cc (pc, .ldc_w x, nx, ax) = true) (hW : mm_W G h H) (hS : va_S (mm_Ar G) s.heap H locs) (hl : mm_LH G ls L) (hs : mm_stp X h L st (pc, .ldc_w x, nx, ax) = some (.inl (pc', L', st', op)))
    (k : op = none → ∀ ls', mm_LH G ls' L' → W p l e R s m args below meth c H locs cells slots Q (F0 m pc' ls' (st'.map (mm_dn G)))) : W p l e R s m args below meth c H locs cells slots Q (F0 m pc ls (st.map (mm_dn G))) := by
  obtain ⟨hd, hn⟩ := mm_okI_dec hI (fun _ _ _ _ q => by cases q)
  subst hn
  obtain ⟨lw, hnd⟩ := mm_okI_need hI
  have hw := mm_need_wd hF hI hnd
  have hr := mm_okI_rest hI
  obtain ⟨hx, hb, hown, hts, hE, hXf⟩ := hF
  simp only [mm_stp] at hs
  split at hs
  · rename_i v ax0
    cases mi_go hs
    have hk := k rfl ls hl
    rw [List.map_cons] at hk
    cases ax0 with
    | nil => cases hnd
    | cons p0 r0 =>
      cases hnd
      exact lv_ldcw hx hb hown (hw _ List.mem_cons_self) hd hk
  · rename_i v ax0
    cases mi_go hs
    have hk := k rfl ls hl
    rw [List.map_cons] at hk
    obtain ⟨q, tx, e1, e2⟩ := hE.2.2.1 _ _ _ (of_decide_eq_true hr)
    rw [mm_dn_some e1] at hk
    exact mh_ldcSW hx hb hown e2 hd hk
  · cases hs
theorem mh_ldc2_w (hX : mm_Xok X) (hF : mm_Fx p s m args c cc own G X) {x : Nat} (hI : mm_okI own mn N cc (pc, .ldc2_w x, nx, ax) = true) (hW : mm_W G h H) (hS : va_S (mm_Ar G) s.heap H locs) (hl : mm_LH G ls L) (hs : mm_stp X h L st (pc, .ldc2_w x, nx, ax) = some (.inl (pc', L', st', op)))
    (k : op = none → ∀ ls', mm_LH G ls' L' → W p l e R s m args below meth c H locs cells slots Q (F0 m pc' ls' (st'.map (mm_dn G)))) : W p l e R s m args below meth c H locs cells slots Q (F0 m pc ls (st.map (mm_dn G))) := by
  obtain ⟨hd, hn⟩ := mm_okI_dec hI (fun _ _ _ _ q => by cases q)
  subst hn
  obtain ⟨lw, hnd⟩ := mm_okI_need hI
  have hw := mm_need_wd hF hI hnd
  obtain ⟨hx, hb, hown, hts, hE, hXf⟩ := hF
  simp only [mm_stp] at hs
  split at hs
  · rename_i v ax0
    cases mi_go hs
    have hk := k rfl ls hl
    rw [List.map_cons] at hk
    cases ax0 with
    | nil => cases hnd
    | cons p0 r0 =>
      cases hnd
      exact lv_ldc2 hx hb hown (hw _ List.mem_cons_self) hd hk
  · cases hs
theorem mh_iaload (hX : mm_Xok X) (hF : mm_Fx p s m args c cc own G X) (hI : mm_okI own mn N cc (pc, .iaload, nx, ax) = true) (hW : mm_W G h H) (hS : va_S (mm_Ar G) s.heap H locs) (hl : mm_LH G ls L) (hs : mm_stp X h L st (pc, .iaload, nx, ax) = some (.inl (pc', L', st', op)))
    (k : op = none → ∀ ls', mm_LH G ls' L' → W p l e R s m args below meth c H locs cells slots Q (F0 m pc' ls' (st'.map (mm_dn G)))) : W p l e R s m args below meth c H locs cells slots Q (F0 m pc ls (st.map (mm_dn G))) := by
  obtain ⟨hd, hn⟩ := mm_okI_dec hI (fun _ _ _ _ q => by cases q)
  subst hn
  obtain ⟨hx, hb, hown, hts, hE, hXf⟩ := hF
  simp only [mm_stp] at hs
  split at hs
  · rename_i i a r
    rw [List.map_cons, List.map_cons]
    show W p l e R s m args below meth c H locs cells slots Q (F0 m pc ls (.int i :: mm_dn G (.ref a) :: List.map (mm_dn G) r))
    split at hs
    · rename_i ha
      rw [Nat.beq_eq] at ha
      subst ha
      split at hs
      · rename_i hin
        obtain ⟨h1, h2, h3⟩ := mm_in_ok hin
        split at hs
        · rename_i x hx0
          cases mi_go hs
          have hk := k rfl ls hl
          obtain ⟨b, xs, c1, c2, c3, c4, c5⟩ := hE.2.2.2.2.1
          rw [mm_dn_some c1]
          refine va_sld hx hb c2 c3 c4 hS h1 hd ?_
          rw [h2, c5 _ _ hx0]
          exact hk
        · cases hs
      · cases hs
    · split at hs
      · rename_i n M ho
        have ho := mm_prim_eq ho
        split at hs
        · rename_i hin
          obtain ⟨h1, h2, h3⟩ := mm_in_ok hin
          rw [mm_fI_eq] at hs
          cases mi_go hs
          have hk := k rfl ls hl
          rw [List.map_cons] at hk
          by_cases ha : 64 ≤ a
          · rw [mm_rd_own ha] at ho
            rw [mm_dn_own ha]
            refine va_iald (D := G.2.2.1) (cl := mm_cl) (tys := mm_tys G) (ws := mm_ws G h) hx hb hE.1 hW.1 (a - 64) 0 (cA := G.2.2.2 0) (n := n) (f := fun j => Int32.ofNat (mm_ag 32 M j)) (mm_own_at ho) rfl h1 hd ?_
            rw [h2]
            exact hk
          · rw [mm_rd_ext ha] at ho
            obtain ⟨q, e1, hT⟩ := hE.2.2.2.1 a _ (hX.1 _ _ ho) ho
            rw [mm_dn_some e1]
            rcases hT with ⟨-, hT⟩ | ⟨z, -⟩
            · exact va_ti hx hb hT hS h1 (by rw [h2]; rfl) hd hk
            · cases z
        · cases hs
      · cases hs
  · cases hs
theorem mh_baload (hX : mm_Xok X) (hF : mm_Fx p s m args c cc own G X) (hI : mm_okI own mn N cc (pc, .baload, nx, ax) = true) (hW : mm_W G h H) (hS : va_S (mm_Ar G) s.heap H locs) (hl : mm_LH G ls L) (hs : mm_stp X h L st (pc, .baload, nx, ax) = some (.inl (pc', L', st', op)))
    (k : op = none → ∀ ls', mm_LH G ls' L' → W p l e R s m args below meth c H locs cells slots Q (F0 m pc' ls' (st'.map (mm_dn G)))) : W p l e R s m args below meth c H locs cells slots Q (F0 m pc ls (st.map (mm_dn G))) := by
  obtain ⟨hd, hn⟩ := mm_okI_dec hI (fun _ _ _ _ q => by cases q)
  subst hn
  obtain ⟨hx, hb, hown, hts, hE, hXf⟩ := hF
  simp only [mm_stp] at hs
  split at hs
  · rename_i i a r
    rw [List.map_cons, List.map_cons]
    show W p l e R s m args below meth c H locs cells slots Q (F0 m pc ls (.int i :: mm_dn G (.ref a) :: List.map (mm_dn G) r))
    split at hs
    · rename_i n M ho
      have ho := mm_prim_eq ho
      split at hs
      · rename_i hin
        obtain ⟨h1, h2, h3⟩ := mm_in_ok hin
        rw [mm_fI_eq] at hs
        cases mi_go hs
        have hk := k rfl ls hl
        rw [List.map_cons] at hk
        by_cases ha : 64 ≤ a
        · rw [mm_rd_own ha] at ho
          rw [mm_dn_own ha]
          refine va_bald (D := G.2.2.1) (cl := mm_cl) (tys := mm_tys G) (ws := mm_ws G h) hx hb hE.1 hW.1 (a - 64) 2 (cA := G.2.2.2 2) (n := n) (f := fun j => Int32.ofNat (mm_ag 32 M j)) (mm_own_at ho) rfl h1 hd ?_
          rw [h2]
          exact hk
        · rw [mm_rd_ext ha] at ho
          obtain ⟨q, e1, hT⟩ := hE.2.2.2.1 a _ (hX.1 _ _ ho) ho
          rw [mm_dn_some e1]
          rcases hT with ⟨z, -⟩ | ⟨-, hT⟩
          · cases z
          · exact va_tb hx hb hT hS h1 (by rw [h2]; rfl) hd hk
      · cases hs
    · cases hs
  · cases hs
theorem mh_laload (hX : mm_Xok X) (hF : mm_Fx p s m args c cc own G X) (hI : mm_okI own mn N cc (pc, .laload, nx, ax) = true) (hW : mm_W G h H) (hS : va_S (mm_Ar G) s.heap H locs) (hl : mm_LH G ls L) (hs : mm_stp X h L st (pc, .laload, nx, ax) = some (.inl (pc', L', st', op)))
    (k : op = none → ∀ ls', mm_LH G ls' L' → W p l e R s m args below meth c H locs cells slots Q (F0 m pc' ls' (st'.map (mm_dn G)))) : W p l e R s m args below meth c H locs cells slots Q (F0 m pc ls (st.map (mm_dn G))) := by
  obtain ⟨hd, hn⟩ := mm_okI_dec hI (fun _ _ _ _ q => by cases q)
  subst hn
  obtain ⟨hx, hb, hown, hts, hE, hXf⟩ := hF
  simp only [mm_stp] at hs
  split at hs
  · rename_i i a r
    rw [List.map_cons, List.map_cons]
    show W p l e R s m args below meth c H locs cells slots Q (F0 m pc ls (.int i :: mm_dn G (.ref a) :: List.map (mm_dn G) r))
    split at hs
    · rename_i n M ho
      have ho := mm_prim_eq ho
      split at hs
      · rename_i hin
        rw [Bool.and_eq_true, Nat.ble_eq] at hin
        obtain ⟨hin, ha⟩ := hin
        obtain ⟨h1, h2, h3⟩ := mm_in_ok hin
        rw [mm_fL_eq] at hs
        cases mi_go hs
        have hk := k rfl ls hl
        rw [List.map_cons] at hk
        rw [mm_rd_own ha] at ho
        rw [mm_dn_own ha]
        refine va_lald (D := G.2.2.1) (cl := mm_cl) (tys := mm_tys G) (ws := mm_ws G h) hx hb hE.1 hW.1 (a - 64) 1 (cA := G.2.2.2 1) (n := n) (f := fun j => Int64.ofNat (mm_ag 64 M j)) (mm_own_at ho) rfl h1 hd ?_
        rw [h2]
        exact hk
      · cases hs
    · cases hs
  · cases hs
theorem mm_tys_at {t : Nat} (ht : t ≤ 4) : ∃ ty, (mm_tys G)[t]? = some (G.2.2.2 t, ty) := by
  rcases (show t = 0 ∨ t = 1 ∨ t = 2 ∨ t = 3 ∨ t = 4 by omega) with rfl | rfl | rfl | rfl | rfl <;> exact ⟨_, rfl⟩
theorem mm_tys_q {t : Nat} (ht : 3 ≤ t ∧ t ≤ 4) : ∃ C, (mm_tys G)[t]? = some (G.2.2.2 t, .object C) := by
  rcases (show t = 3 ∨ t = 4 by omega) with rfl | rfl <;> exact ⟨_, rfl⟩
theorem mh_aaload (hX : mm_Xok X) (hF : mm_Fx p s m args c cc own G X) (hI : mm_okI own mn N cc (pc, .aaload, nx, ax) = true) (hW : mm_W G h H) (hS : va_S (mm_Ar G) s.heap H locs) (hl : mm_LH G ls L) (hs : mm_stp X h L st (pc, .aaload, nx, ax) = some (.inl (pc', L', st', op)))
    (k : op = none → ∀ ls', mm_LH G ls' L' → W p l e R s m args below meth c H locs cells slots Q (F0 m pc' ls' (st'.map (mm_dn G)))) : W p l e R s m args below meth c H locs cells slots Q (F0 m pc ls (st.map (mm_dn G))) := by
  obtain ⟨hd, hn⟩ := mm_okI_dec hI (fun _ _ _ _ q => by cases q)
  subst hn
  obtain ⟨hx, hb, hown, hts, hE, hXf⟩ := hF
  simp only [mm_stp] at hs
  split at hs
  · rename_i i a r
    rw [List.map_cons, List.map_cons]
    show W p l e R s m args below meth c H locs cells slots Q (F0 m pc ls (.int i :: mm_dn G (.ref a) :: List.map (mm_dn G) r))
    split at hs
    · rename_i ha
      rw [Nat.ble_eq] at ha
      rw [mm_dn_own ha]
      split at hs
      · rename_i t rs ho
        rw [mm_rd_own ha] at ho
        split at hs
        · rename_i hin
          rw [Bool.and_eq_true, Bool.and_eq_true, Nat.ble_eq, Nat.ble_eq] at hin
          obtain ⟨hin, ht⟩ := hin
          obtain ⟨h1, h2, h3⟩ := mm_in_ok hin
          obtain ⟨C, hC⟩ := mm_tys_q (G := G) ht
          split at hs
          · rename_i q hq
            cases mi_go hs
            have hk := k rfl ls hl
            rw [List.map_cons] at hk
            refine va_aldq (D := G.2.2.1) (cl := mm_cl) (tys := mm_tys G) (ws := mm_ws G h) hx hb hE.1 hW.1 (a - 64) t (cA := G.2.2.2 t) (n := rs.length) (f := fun j => (rs.getD j none).bind (mm_ad G)) (mm_own_at ho) hC h1 hd ?_
            rw [h2, List.getD_eq_getElem?_getD, hq]
            exact hk
          · rename_i hq
            cases mi_go hs
            have hk := k rfl ls hl
            rw [List.map_cons] at hk
            refine va_aldq (D := G.2.2.1) (cl := mm_cl) (tys := mm_tys G) (ws := mm_ws G h) hx hb hE.1 hW.1 (a - 64) t (cA := G.2.2.2 t) (n := rs.length) (f := fun j => (rs.getD j none).bind (mm_ad G)) (mm_own_at ho) hC h1 hd ?_
            rw [h2, List.getD_eq_getElem?_getD, hq]
            exact hk
          · cases hs
        · cases hs
      · cases hs
    · cases hs
  · cases hs
theorem mh_alen (hX : mm_Xok X) (hF : mm_Fx p s m args c cc own G X) (hI : mm_okI own mn N cc (pc, .arraylength, nx, ax) = true) (hW : mm_W G h H) (hS : va_S (mm_Ar G) s.heap H locs) (hl : mm_LH G ls L) (hs : mm_stp X h L st (pc, .arraylength, nx, ax) = some (.inl (pc', L', st', op)))
    (k : op = none → ∀ ls', mm_LH G ls' L' → W p l e R s m args below meth c H locs cells slots Q (F0 m pc' ls' (st'.map (mm_dn G)))) : W p l e R s m args below meth c H locs cells slots Q (F0 m pc ls (st.map (mm_dn G))) := by
  obtain ⟨hd, hn⟩ := mm_okI_dec hI (fun _ _ _ _ q => by cases q)
  subst hn
  obtain ⟨hx, hb, hown, hts, hE, hXf⟩ := hF
  simp only [mm_stp] at hs
  split at hs
  · rename_i a r
    rw [List.map_cons]
    split at hs
    · rename_i ha
      rw [Nat.beq_eq] at ha
      subst ha
      cases mi_go hs
      obtain ⟨b, xs, c1, c2, c3, c4, c5⟩ := hE.2.2.2.2.1
      rw [mm_dn_some c1]
      exact va_slen hx hb c2 c3 c4 hS hd (k rfl ls hl)
    · split at hs
      · rename_i t n M ho
        split at hs
        · rename_i ht
          rw [Nat.ble_eq] at ht
          cases mi_go hs
          have hk := k rfl ls hl
          rw [List.map_cons] at hk
          by_cases ha : 64 ≤ a
          · rw [mm_rd_own ha] at ho
            rw [mm_dn_own ha]
            obtain ⟨ty, hty⟩ := mm_tys_at (G := G) ht
            exact va_alen (D := G.2.2.1) (cl := mm_cl) (tys := mm_tys G) (ws := mm_ws G h) hx hb hE.1 hW.1 (a - 64) t (mm_own_at ho) hty rfl hd hk
          · rw [mm_rd_ext ha] at ho
            obtain ⟨q, e1, hT⟩ := hE.2.2.2.1 a _ (hX.1 _ _ ho) ho
            rw [mm_dn_some e1]
            rcases hT with ⟨-, hT⟩ | ⟨-, hT⟩
            · exact va_tlen hx hb hT hS rfl hd hk
            · exact va_tlen hx hb hT hS rfl hd hk
        · cases hs
      · rename_i t rs ho
        split at hs
        · rename_i ht
          rw [Bool.and_eq_true, Nat.ble_eq, Nat.ble_eq] at ht
          cases mi_go hs
          have hk := k rfl ls hl
          rw [List.map_cons] at hk
          rw [mm_rd_own ht.2] at ho
          rw [mm_dn_own ht.2]
          obtain ⟨ty, hty⟩ := mm_tys_at (G := G) ht.1
          exact va_alen (D := G.2.2.1) (cl := mm_cl) (tys := mm_tys G) (ws := mm_ws G h) hx hb hE.1 hW.1 (a - 64) t (mm_own_at ho) hty rfl hd hk
        · cases hs
      · cases hs
  · cases hs
theorem mm_nn {X : mm_X} {a : Nat} (hE : mm_Ev G X s) (ha : ¬ a = 63) : ∃ q, mm_ad G a = some q := by
  by_cases h : a < 63
  · exact hE.2.2.2.2.2.2.2 a h
  · exact ⟨_, by unfold mm_ad; rw [if_neg (by omega)]⟩
theorem mh_ifnull (hX : mm_Xok X) (hF : mm_Fx p s m args c cc own G X) {off : Int} (hI : mm_okI own mn N cc (pc, .ifnull off, nx, ax) = true) (hW : mm_W G h H) (hS : va_S (mm_Ar G) s.heap H locs) (hl : mm_LH G ls L) (hs : mm_stp X h L st (pc, .ifnull off, nx, ax) = some (.inl (pc', L', st', op)))
    (k : op = none → ∀ ls', mm_LH G ls' L' → W p l e R s m args below meth c H locs cells slots Q (F0 m pc' ls' (st'.map (mm_dn G)))) : W p l e R s m args below meth c H locs cells slots Q (F0 m pc ls (st.map (mm_dn G))) := by
  obtain ⟨hd, hn⟩ := mm_okI_dec hI (fun _ _ _ _ q => by cases q)
  subst hn
  have hr := mm_okI_rest hI
  obtain ⟨hx, hb, hown, hts, hE, hXf⟩ := hF
  simp only [mm_stp] at hs
  split at hs
  · obtain ⟨t, rfl, hq⟩ := mi_br hs
    rcases hq with ⟨-, hq⟩ | ⟨z, -⟩
    · cases hq
      exact lv_ifnullN hx hb hd (of_decide_eq_true hr) (k rfl ls hl)
    · cases z
  · rename_i a r
    split at hs
    · cases hs
    · rename_i ha
      rw [← Bool.not_eq_true, Nat.beq_eq] at ha
      obtain ⟨q, e1⟩ := mm_nn hE ha
      obtain ⟨t, rfl, hq⟩ := mi_br hs
      rcases hq with ⟨z, -⟩ | ⟨-, hq⟩
      · cases z
      · cases hq
        rw [List.map_cons, mm_dn_some e1]
        exact lv_ifnull hx hb hd (k rfl ls hl)
  · cases hs
theorem mh_ifnonnull (hX : mm_Xok X) (hF : mm_Fx p s m args c cc own G X) {off : Int} (hI : mm_okI own mn N cc (pc, .ifnonnull off, nx, ax) = true) (hW : mm_W G h H) (hS : va_S (mm_Ar G) s.heap H locs) (hl : mm_LH G ls L) (hs : mm_stp X h L st (pc, .ifnonnull off, nx, ax) = some (.inl (pc', L', st', op)))
    (k : op = none → ∀ ls', mm_LH G ls' L' → W p l e R s m args below meth c H locs cells slots Q (F0 m pc' ls' (st'.map (mm_dn G)))) : W p l e R s m args below meth c H locs cells slots Q (F0 m pc ls (st.map (mm_dn G))) := by
  obtain ⟨hd, hn⟩ := mm_okI_dec hI (fun _ _ _ _ q => by cases q)
  subst hn
  have hr := mm_okI_rest hI
  obtain ⟨hx, hb, hown, hts, hE, hXf⟩ := hF
  simp only [mm_stp] at hs
  split at hs
  · rename_i a r
    split at hs
    · cases hs
    · rename_i ha
      rw [← Bool.not_eq_true, Nat.beq_eq] at ha
      obtain ⟨q, e1⟩ := mm_nn hE ha
      obtain ⟨t, rfl, hq⟩ := mi_br hs
      rcases hq with ⟨-, hq⟩ | ⟨z, -⟩
      · cases hq
        rw [List.map_cons, mm_dn_some e1]
        exact lv_ifnonnull hx hb hd (of_decide_eq_true hr) (k rfl ls hl)
      · cases z
  · cases hs
theorem mh_tsw (hX : mm_Xok X) (hF : mm_Fx p s m args c cc own G X) {df lo hi : Int} {offs : Array Int} (hI : mm_okI own mn N cc (pc, .tableswitch df lo hi offs, nx, ax) = true) (hW : mm_W G h H) (hS : va_S (mm_Ar G) s.heap H locs) (hl : mm_LH G ls L) (hs : mm_stp X h L st (pc, .tableswitch df lo hi offs, nx, ax) = some (.inl (pc', L', st', op)))
    (k : op = none → ∀ ls', mm_LH G ls' L' → W p l e R s m args below meth c H locs cells slots Q (F0 m pc' ls' (st'.map (mm_dn G)))) : W p l e R s m args below meth c H locs cells slots Q (F0 m pc ls (st.map (mm_dn G))) := by
  have hd := mm_okI_sw hI
  have hr := mm_okI_rest hI
  obtain ⟨hx, hb, hown, hts, hE, hXf⟩ := hF
  simp only [mm_stp] at hs
  split at hs
  · rename_i x r d ts
    split at hs
    · rename_i l0
      simp only [mm_rest, Bool.and_eq_true, decide_eq_true_eq] at hr
      obtain ⟨r1, r2, r3, r4⟩ := hr
      rw [List.map_cons]
      show W p l e R s m args below meth c H locs cells slots Q (F0 m pc ls (.int x :: List.map (mm_dn G) r))
      split at hs
      · rename_i hc
        simp only [Bool.and_eq_true, Nat.ble_eq] at hc
        obtain ⟨c1, c2, c3⟩ := hc
        obtain ⟨n1, n2, n3⟩ := mm_nonneg (x := x) (by omega)
        split at hs
        · rename_i t ht
          cases mi_go hs
          have hlt : mm_un x - l0 < offs.size := by omega
          have hz : (List.zip ts offs.toList)[mm_un x - l0]? = some (pc', offs[mm_un x - l0]) := by
            rw [List.getElem?_zip_eq_some]
            exact ⟨ht, by rw [Array.getElem?_toList, Array.getElem?_eq_getElem hlt]⟩
          have h4 := List.all_eq_true.mp r4 _ (List.mem_of_getElem? hz)
          have e0 : (Int.ofNat l0 : Int) = (l0 : Int) := rfl
          rw [e0] at r2
          refine lv_tableIn (off := offs[mm_un x - l0]) hx hb hd (by rw [n3, e0]; omega) (by rw [n3, r2]; omega) ?_ (of_decide_eq_true h4) (k rfl ls hl)
          rw [n3, e0, show ((mm_un x : Int) - (l0 : Int)).toNat = mm_un x - l0 by omega, Array.getElem?_eq_getElem hlt]
        · cases hs
      · rename_i hc
        cases mi_go hs
        refine lv_tableOut hx hb hd ?_ r1 (k rfl ls hl)
        have e0 : (Int.ofNat l0 : Int) = (l0 : Int) := rfl
        rw [e0] at r2 ⊢
        rw [r2]
        have h1 := mm_toInt x
        rw [← Bool.not_eq_true] at hc
        simp only [Bool.and_eq_true, Nat.ble_eq] at hc
        by_cases c1 : mm_un x < 2147483648
        · rw [if_pos c1] at h1
          rw [h1]
          by_cases c2 : l0 ≤ mm_un x
          · refine Or.inr ?_
            have : ¬ (mm_un x - l0 + 1 ≤ ts.length) := fun q => hc ⟨by omega, c2, q⟩
            omega
          · exact Or.inl (by omega)
        · rw [if_neg c1] at h1
          have := mm_un_lt x
          exact Or.inl (by omega)
    · cases hs
  · cases hs
end MH
end
section
/-! ===== one instruction: stores, new cells, natives ===== -/
/-- words of the natives and of arrays' classes, that any method may use -/
def mm_Sys : Prop := Jvm.Cond.native arraycopyName ∈ mt_g ∧ Jvm.Cond.static arraycopyName ∈ mt_g ∧ Jvm.Cond.initialized "java/lang/System" ∈ mt_g ∧ Jvm.Cond.instanceMethod Lib.objectInit ∈ mt_g ∧ Jvm.Cond.code Lib.objectInit ⟨#[0xb1]⟩ 1 none ∈ mt_g ∧
  (Jvm.Cond.arrayClass .int ∈ mt_g ∧ Jvm.Cond.arrayClass .long ∈ mt_g ∧ Jvm.Cond.arrayClass .byte ∈ mt_g) ∧ (∃ i : Nat, mt_tbl[i]? = some (Jvm.Cond.arrayOver (.object "WhoKnows$State"))) ∧ (∃ i : Nat, mt_tbl[i]? = some (Jvm.Cond.arrayOver (.object "WhoKnows$Order"))) ∧
  Jvm.Cond.initialized "java/lang/Math" ∈ mt_g ∧ (Jvm.Cond.static Lib.Math.max.name ∈ mt_g ∧ Jvm.Cond.code Lib.Math.max.name Lib.Math.max.code 2 (some .int) ∈ mt_g) ∧ Jvm.Cond.static Lib.Math.min.name ∈ mt_g ∧ Jvm.Cond.code Lib.Math.min.name Lib.Math.min.code 2 (some .int) ∈ mt_g
theorem mm_fit_ok {G : mm_G} {ty : FieldType} {v : Value} (h : mm_fit ty v = true) : narrow ty (mm_dn G v) = mm_dn G v ∧ fits ty (mm_dn G v) = true := by
  unfold mm_fit at h
  split at h
  · exact ⟨rfl, rfl⟩
  · rename_i x
    rw [Nat.ble_eq] at h
    have h1 : x = 0 ∨ x = 1 := by
      rcases (show mm_un x = 0 ∨ mm_un x = 1 by omega) with q | q
      · exact Or.inl ((mm_eq_iff x 0).mp (by unfold mm_eq; rw [Nat.beq_eq, q]; rfl))
      · exact Or.inr ((mm_eq_iff x 1).mp (by unfold mm_eq; rw [Nat.beq_eq, q]; rfl))
    rcases h1 with rfl | rfl <;> exact ⟨rfl, rfl⟩
  · rename_i x
    rw [mm_eq_iff] at h
    show narrow .byte (.int x) = .int x ∧ fits .byte (.int x) = true
    rw [← h]
    exact ⟨pk_nb x, pk_fb x⟩
  · rename_i a
    show narrow _ (va_rf (mm_ad G a)) = va_rf (mm_ad G a) ∧ _
    show _ ∧ fits _ (va_rf (mm_ad G a)) = true
    cases mm_ad G a <;> exact ⟨rfl, rfl⟩
  · exact ⟨rfl, rfl⟩
  · rename_i a
    show narrow _ (va_rf (mm_ad G a)) = va_rf (mm_ad G a) ∧ _
    show _ ∧ fits _ (va_rf (mm_ad G a)) = true
    cases mm_ad G a <;> exact ⟨rfl, rfl⟩
  · exact ⟨rfl, rfl⟩
  · cases h
theorem mm_ofNat_un (x : Int32) : Int32.ofNat (mm_un x % 2 ^ 32) = x := by
  apply Int32.toBitVec_inj.mp
  show BitVec.ofNat 32 (x.toBitVec.toNat % 2 ^ 32) = x.toBitVec
  exact BitVec.eq_of_toNat_eq (by simp; exact x.toBitVec.isLt)
theorem mm_ofNat_ul (x : Int64) : Int64.ofNat (x.toUInt64.toNat % 2 ^ 64) = x := by
  apply Int64.toBitVec_inj.mp
  show BitVec.ofNat 64 (x.toBitVec.toNat % 2 ^ 64) = x.toBitVec
  exact BitVec.eq_of_toNat_eq (by simp; exact x.toBitVec.isLt)
theorem mm_fn_i (t N i : Nat) (x : Int32) (ht : t ≠ 1) : mm_fn t (mm_as 32 N i (mm_un x)) = .inl (upd (fun j => Int32.ofNat (mm_ag 32 N j)) i x) := by
  have h1 : ∀ M, mm_fn t M = .inl (fun j => Int32.ofNat (mm_ag 32 M j)) := fun M => by
    unfold mm_fn
    split
    · exact absurd rfl ht
    · rfl
  rw [h1]
  congr 1
  funext j
  rw [mm_ag_as _ _ _ _ _ (by decide)]
  unfold upd
  by_cases e : j = i
  · rw [if_pos e, if_pos e, mm_ofNat_un]
  · rw [if_neg e, if_neg e]
theorem mm_fn_l (N i : Nat) (x : Int64) : mm_fn 1 (mm_as 64 N i x.toUInt64.toNat) = .inr (.inl (vp_updL (fun j => Int64.ofNat (mm_ag 64 N j)) i x)) := by
  show Sum.inr (Sum.inl _) = _
  congr 2
  funext j
  rw [mm_ag_as _ _ _ _ _ (by decide)]
  unfold vp_updL
  by_cases e : j = i
  · rw [if_pos e, if_pos e, mm_ofNat_ul]
  · rw [if_neg e, if_neg e]
theorem mm_rest8 (st : List Value) (hr : st.length ≤ 4) : (st.map fun v => v.category).sum ≤ 8 := by
  have h : ∀ l : List Value, (l.map fun v => v.category).sum ≤ 2 * l.length := by
    intro l
    induction l with
    | nil => exact Nat.le_refl _
    | cons v r ih =>
      rw [List.map_cons, List.sum_cons, List.length_cons]
      have := lv_cat v
      omega
  have := h st
  omega
theorem mm_map_cat (G : mm_G) (r : List Value) : (r.map (mm_dn G)).map (fun v => v.category) = r.map fun v => v.category := by
  rw [List.map_map]
  congr 1
  funext v
  exact mm_cat G v
section MS
variable {p : Program} {l : Launch} {e : Env} {R : Room} {s : State} {m : MethodId} {args : Array Value} {below : List Frame} {meth : Method} {c : Code} {H : Heap} {locs : List Loc} {cells slots : Nat} {Q : State → Prop}
variable {cc : ByteArray} {pc : Nat} {ls : Array Slot} {G : mm_G} {X : mm_X} {h : mm_H} {L L' : mm_L} {st st' : List Value} {nx pc' : Nat} {ax : List Nat} {op : Option ((Nat × mm_C) ⊕ mm_C)} {own mn : String} {N : Nat → Option mm_N}
theorem mi_wr {a : Nat} {c0 : mm_C} {q : mm_A} (h : mm_wr nx L st a c0 = some q) : 64 ≤ a ∧ q = .inl (nx, L, st, some (.inl (a - 64, c0))) := by
  unfold mm_wr at h
  split at h
  · rename_i hb
    exact ⟨Nat.ble_eq.mp hb, (Option.some.inj h).symm⟩
  · cases h
theorem ms_fin {k : Nat} {c0 : mm_C} {H1 : Heap} {locs1 : List Loc} {g : JFrame} (hG : G.1 ≤ s.heap.size) (hZ : s.heap.size + cells = G.1 + h.length) (hP : va_P G.2.2.1 mm_cl ((mm_ws G h).set k (G.1 + k, mm_dE G c0)) H1) (hS : va_S (mm_Ar G) s.heap H1 locs1)
    (kk : mm_W G (h.set k c0) H1 → W p l e R s m args below meth c H1 locs1 cells slots Q g) : W p l e R s m args below meth c H1 locs1 cells slots Q g := by
  refine mm_bound fun hb => kk (mm_Wof (by rw [mm_ws_set]; exact hP) (by rw [List.length_set]; omega) (Nat.le_trans hG hS.1))
theorem mh_putfield (hC : mm_Cok) (hF : mm_Fx p s m args c cc own G X) (hmn : meth.name = mn) {x : Nat} (hI : mm_okI own mn N cc (pc, .putfield x, nx, ax) = true) (hG : G.1 ≤ s.heap.size) (hZ : s.heap.size + cells = G.1 + h.length) (hW : mm_W G h H) (hS : va_S (mm_Ar G) s.heap H locs) (hl : mm_LH G ls L) (hs : mm_stp X h L st (pc, .putfield x, nx, ax) = some (.inl (pc', L', st', op)))
    (k : ∀ i c', op = some (.inl (i, c')) → L' = L → ∀ H' locs', mm_W G (h.set i c') H' → va_S (mm_Ar G) s.heap H' locs' → W p l e R s m args below meth c H' locs' cells slots Q (F0 m pc' ls (st'.map (mm_dn G)))) : W p l e R s m args below meth c H locs cells slots Q (F0 m pc ls (st.map (mm_dn G))) := by
  obtain ⟨hd, hn⟩ := mm_okI_dec hI (fun _ _ _ _ q => by cases q)
  subst hn
  have hr := mm_okI_rest hI
  simp only [mm_stp] at hs
  split at hs
  · rename_i v a r nest ci kf ax0
    split at hs
    · rename_i fs ho
      split at hs
      · rename_i v0 hv0
        split at hs
        · rename_i ty hty
          split at hs
          · rename_i hft
            obtain ⟨ha, hq⟩ := mi_wr hs
            cases hq
            obtain ⟨q, f, hq, hf, hlk⟩ := mm_fieldlink hF (Or.inr rfl) hI
            have hfl : kf < q.2.length := (List.getElem?_eq_some_iff.mp hf).1
            have hT := mm_T_get hf
            have ho := mm_obj_eq ho
            rw [mm_rd_own ha] at ho
            obtain ⟨n1, n2⟩ := mm_fit_ok (G := G) hft
            obtain ⟨hx, hb, hown, hts, hE, hXf⟩ := hF
            rw [hXf] at hty
            obtain ⟨k1, k2, k3, k4⟩ := hC ci q hq
            rw [List.map_cons, List.map_cons, mm_dn_own ha]
            have he := mm_own_at (G := G) ho
            simp only [mm_rest, hq, hf] at hr
            have hty0 : ∀ k, k < q.2.length → parseFieldDescriptor (mm_T q.2 k).2.2.1 = some ((mm_fty ci).getD k .int) := fun k hk => by
              refine k4 k _ ?_
              rw [List.getD_eq_getElem?_getD, List.getElem?_eq_getElem (by omega)]
              rfl
            have hlen : kf < (fs.map (mm_dn G)).length := by rw [List.length_map]; exact (List.getElem?_eq_some_iff.mp hv0).1
            have kk : ∀ (H1 : Heap) (locs1 : List Loc), va_P G.2.2.1 mm_cl ((mm_ws G h).set (a - 64) (G.1 + (a - 64), .inr (ci, (fs.map (mm_dn G)).set kf (mm_dn G v)))) H1 → va_D (mm_Ar G) ((mm_ws G h).set (a - 64) (G.1 + (a - 64), .inr (ci, (fs.map (mm_dn G)).set kf (mm_dn G v)))) → va_S (mm_Ar G) s.heap H1 locs1 → W p l e R s m args below meth c H1 locs1 cells slots Q (F0 m (pc + 3) ls (st'.map (mm_dn G))) := by
              intro H1 locs1 hP1 _ hS1
              refine ms_fin (k := a - 64) (c0 := .inr (.inr (ci, fs.set kf v))) hG hZ (by show va_P _ _ ((mm_ws G h).set (a - 64) (G.1 + (a - 64), .inr (ci, (fs.set kf v).map (mm_dn G)))) H1; rw [List.map_set]; exact hP1) hS1 (fun hW1 => k _ _ rfl rfl H1 locs1 hW1 hS1)
            cases hfin : f.2.2.2 with
              | true =>
                rw [hfin] at hr
                simp only [Bool.not_true, Bool.false_or, Bool.and_eq_true, decide_eq_true_eq] at hr
                obtain ⟨r1, r2, r3⟩ := hr
                rcases hlk with ⟨-, hlk⟩ | ⟨hn0, hx0, hlk⟩
                · exact va_putF (D := G.2.2.1) (cl := mm_cl) (tys := mm_tys G) (ws := mm_ws G h) (ci := ci) (C := q.1) (T := mm_T q.2) (N := q.2.length) (ref := f.1) hx hb hts k1 _ hty0 k2 hown hE.1 hW.1 (mm_D G h) hS (a - 64) he (mm_cl_get hq) kf hfl (by rw [hT]; exact hlk) (by rw [hT]; exact fun _ z => z) (by rw [hT]; exact hfin) (hmn.trans r1) (by rw [hT]; exact r2) (k4 _ _ hty) n1 n2 hlen hd kk
                · exact absurd r3 hn0
              | false =>
                rcases hlk with ⟨-, hlk⟩ | ⟨hn0, hx0, hlk⟩
                · exact va_put (D := G.2.2.1) (cl := mm_cl) (tys := mm_tys G) (ws := mm_ws G h) (ci := ci) (C := q.1) (T := mm_T q.2) (N := q.2.length) (ref := f.1) hx hb hts k1 _ hty0 k2 hown hE.1 hW.1 (mm_D G h) hS (a - 64) he (mm_cl_get hq) kf hfl (by rw [hT]; exact hlk) (by rw [hT]; exact fun _ z => z) (by rw [hT]; exact hfin) (k4 _ _ hty) n1 n2 hlen hd kk
                · exact va_putN (D := G.2.2.1) (cl := mm_cl) (tys := mm_tys G) (ws := mm_ws G h) (ci := ci) (C := q.1) (T := mm_T q.2) (N := q.2.length) (ref := f.1) (host := hx0) hx hb hts k1 _ hty0 k2 hown hE.1 hW.1 (mm_D G h) hS (a - 64) he (mm_cl_get hq) kf hfl (by rw [hT]; exact hlk) (by rw [hT]; exact fun _ z => z) (by rw [hT]; exact hfin) (k4 _ _ hty) n1 n2 hlen hd kk
          · cases hs
        · cases hs
      · cases hs
    · cases hs
  · cases hs
theorem mh_iastore (hF : mm_Fx p s m args c cc own G X) (hI : mm_okI own mn N cc (pc, .iastore, nx, ax) = true) (hG : G.1 ≤ s.heap.size) (hZ : s.heap.size + cells = G.1 + h.length) (hW : mm_W G h H) (hS : va_S (mm_Ar G) s.heap H locs) (hl : mm_LH G ls L) (hs : mm_stp X h L st (pc, .iastore, nx, ax) = some (.inl (pc', L', st', op)))
    (k : ∀ i c', op = some (.inl (i, c')) → L' = L → ∀ H' locs', mm_W G (h.set i c') H' → va_S (mm_Ar G) s.heap H' locs' → W p l e R s m args below meth c H' locs' cells slots Q (F0 m pc' ls (st'.map (mm_dn G)))) : W p l e R s m args below meth c H locs cells slots Q (F0 m pc ls (st.map (mm_dn G))) := by
  obtain ⟨hd, hn⟩ := mm_okI_dec hI (fun _ _ _ _ q => by cases q)
  subst hn
  obtain ⟨hx, hb, hown, hts, hE, hXf⟩ := hF
  simp only [mm_stp] at hs
  split at hs
  · rename_i x i a r
    rw [List.map_cons, List.map_cons, List.map_cons]
    show W p l e R s m args below meth c H locs cells slots Q (F0 m pc ls (.int x :: .int i :: mm_dn G (.ref a) :: List.map (mm_dn G) r))
    split at hs
    · rename_i n M ho
      have ho := mm_prim_eq ho
      split at hs
      · rename_i hin
        obtain ⟨h1, h2, h3⟩ := mm_in_ok hin
        rw [mm_fN_eq] at hs
        obtain ⟨ha, hq⟩ := mi_wr hs
        cases hq
        rw [mm_rd_own ha] at ho
        rw [mm_dn_own ha]
        refine va_iast (D := G.2.2.1) (cl := mm_cl) (tys := mm_tys G) (ws := mm_ws G h) hx hb hE.1 hW.1 (mm_D G h) hS (a - 64) 0 (cA := G.2.2.2 0) (n := n) (f := (fun j => Int32.ofNat (mm_ag 32 M j))) (mm_own_at ho) rfl h1 hd (fun H1 locs1 hP1 _ hS1 => ?_)
        refine ms_fin (k := a - 64) (c0 := .inl (0, n, _)) hG hZ (by show va_P _ _ ((mm_ws G h).set (a - 64) (G.1 + (a - 64), .inl (G.2.2.2 0, (n, mm_fn 0 _)))) H1; rw [mm_fn_i 0 _ _ _ (by decide), ← h2]; exact hP1) hS1 (fun hW1 => k _ _ rfl rfl H1 locs1 hW1 hS1)
      · cases hs
    · cases hs
  · cases hs
theorem mh_bastore (hF : mm_Fx p s m args c cc own G X) (hI : mm_okI own mn N cc (pc, .bastore, nx, ax) = true) (hG : G.1 ≤ s.heap.size) (hZ : s.heap.size + cells = G.1 + h.length) (hW : mm_W G h H) (hS : va_S (mm_Ar G) s.heap H locs) (hl : mm_LH G ls L) (hs : mm_stp X h L st (pc, .bastore, nx, ax) = some (.inl (pc', L', st', op)))
    (k : ∀ i c', op = some (.inl (i, c')) → L' = L → ∀ H' locs', mm_W G (h.set i c') H' → va_S (mm_Ar G) s.heap H' locs' → W p l e R s m args below meth c H' locs' cells slots Q (F0 m pc' ls (st'.map (mm_dn G)))) : W p l e R s m args below meth c H locs cells slots Q (F0 m pc ls (st.map (mm_dn G))) := by
  obtain ⟨hd, hn⟩ := mm_okI_dec hI (fun _ _ _ _ q => by cases q)
  subst hn
  obtain ⟨hx, hb, hown, hts, hE, hXf⟩ := hF
  simp only [mm_stp] at hs
  split at hs
  · rename_i x i a r
    rw [List.map_cons, List.map_cons, List.map_cons]
    show W p l e R s m args below meth c H locs cells slots Q (F0 m pc ls (.int x :: .int i :: mm_dn G (.ref a) :: List.map (mm_dn G) r))
    split at hs
    · rename_i n M ho
      have ho := mm_prim_eq ho
      split at hs
      · rename_i hin
        obtain ⟨h1, h2, h3⟩ := mm_in_ok hin
        rw [mm_fN_eq] at hs
        obtain ⟨ha, hq⟩ := mi_wr hs
        cases hq
        rw [mm_rd_own ha] at ho
        rw [mm_dn_own ha]
        refine va_bast (D := G.2.2.1) (cl := mm_cl) (tys := mm_tys G) (ws := mm_ws G h) hx hb hE.1 hW.1 (mm_D G h) hS (a - 64) 2 (cA := G.2.2.2 2) (n := n) (f := (fun j => Int32.ofNat (mm_ag 32 M j))) (mm_own_at ho) rfl h1 hd (fun H1 locs1 hP1 _ hS1 => ?_)
        refine ms_fin (k := a - 64) (c0 := .inl (2, n, _)) hG hZ (by show va_P _ _ ((mm_ws G h).set (a - 64) (G.1 + (a - 64), .inl (G.2.2.2 2, (n, mm_fn 2 _)))) H1; rw [mm_fn_i 2 _ _ _ (by decide), ← h2]; rw [vp_nar_byte] at hP1; exact hP1) hS1 (fun hW1 => k _ _ rfl rfl H1 locs1 hW1 hS1)
      · cases hs
    · cases hs
  · cases hs
theorem mh_lastore (hF : mm_Fx p s m args c cc own G X) (hI : mm_okI own mn N cc (pc, .lastore, nx, ax) = true) (hG : G.1 ≤ s.heap.size) (hZ : s.heap.size + cells = G.1 + h.length) (hW : mm_W G h H) (hS : va_S (mm_Ar G) s.heap H locs) (hl : mm_LH G ls L) (hs : mm_stp X h L st (pc, .lastore, nx, ax) = some (.inl (pc', L', st', op)))
    (k : ∀ i c', op = some (.inl (i, c')) → L' = L → ∀ H' locs', mm_W G (h.set i c') H' → va_S (mm_Ar G) s.heap H' locs' → W p l e R s m args below meth c H' locs' cells slots Q (F0 m pc' ls (st'.map (mm_dn G)))) : W p l e R s m args below meth c H locs cells slots Q (F0 m pc ls (st.map (mm_dn G))) := by
  obtain ⟨hd, hn⟩ := mm_okI_dec hI (fun _ _ _ _ q => by cases q)
  subst hn
  obtain ⟨hx, hb, hown, hts, hE, hXf⟩ := hF
  simp only [mm_stp] at hs
  split at hs
  · rename_i x i a r
    rw [List.map_cons, List.map_cons, List.map_cons]
    show W p l e R s m args below meth c H locs cells slots Q (F0 m pc ls (.long x :: .int i :: mm_dn G (.ref a) :: List.map (mm_dn G) r))
    split at hs
    · rename_i n M ho
      have ho := mm_prim_eq ho
      split at hs
      · rename_i hin
        obtain ⟨h1, h2, h3⟩ := mm_in_ok hin
        rw [mm_fN_eq] at hs
        obtain ⟨ha, hq⟩ := mi_wr hs
        cases hq
        rw [mm_rd_own ha] at ho
        rw [mm_dn_own ha]
        refine va_last (D := G.2.2.1) (cl := mm_cl) (tys := mm_tys G) (ws := mm_ws G h) hx hb hE.1 hW.1 (mm_D G h) hS (a - 64) 1 (cA := G.2.2.2 1) (n := n) (f := (fun j => Int64.ofNat (mm_ag 64 M j))) (mm_own_at ho) rfl h1 hd (fun H1 locs1 hP1 _ hS1 => ?_)
        refine ms_fin (k := a - 64) (c0 := .inl (1, n, _)) hG hZ (by show va_P _ _ ((mm_ws G h).set (a - 64) (G.1 + (a - 64), .inl (G.2.2.2 1, (n, mm_fn 1 _)))) H1; rw [mm_fn_l _ _ _, ← h2]; exact hP1) hS1 (fun hW1 => k _ _ rfl rfl H1 locs1 hW1 hS1)
      · cases hs
    · cases hs
  · cases hs
theorem mm_recv_own {v ci : Nat} (hv : 64 ≤ v) (h1 : mm_recv X h (some (.ref v)) ci = true) : ∃ fs, h[v - 64]? = some (.inr (.inr (ci, fs))) := by
  unfold mm_recv at h1
  dsimp only at h1
  split at h1
  · rename_i fs ho
    have ho := mm_obj_eq ho
    rw [mm_rd_own hv] at ho
    exact ⟨fs, ho⟩
  · cases h1
theorem mh_aastore (hF : mm_Fx p s m args c cc own G X) (hI : mm_okI own mn N cc (pc, .aastore, nx, ax) = true) (hG : G.1 ≤ s.heap.size) (hZ : s.heap.size + cells = G.1 + h.length) (hW : mm_W G h H) (hS : va_S (mm_Ar G) s.heap H locs) (hl : mm_LH G ls L) (hs : mm_stp X h L st (pc, .aastore, nx, ax) = some (.inl (pc', L', st', op)))
    (k : ∀ i c', op = some (.inl (i, c')) → L' = L → ∀ H' locs', mm_W G (h.set i c') H' → va_S (mm_Ar G) s.heap H' locs' → W p l e R s m args below meth c H' locs' cells slots Q (F0 m pc' ls (st'.map (mm_dn G)))) : W p l e R s m args below meth c H locs cells slots Q (F0 m pc ls (st.map (mm_dn G))) := by
  obtain ⟨hd, hn⟩ := mm_okI_dec hI (fun _ _ _ _ q => by cases q)
  subst hn
  obtain ⟨hx, hb, hown, hts, hE, hXf⟩ := hF
  simp only [mm_stp] at hs
  split at hs
  · rename_i v i a r
    rw [List.map_cons, List.map_cons, List.map_cons]
    show W p l e R s m args below meth c H locs cells slots Q (F0 m pc ls (mm_dn G (.ref v) :: .int i :: mm_dn G (.ref a) :: List.map (mm_dn G) r))
    split at hs
    · rename_i t rs ho
      split at hs
      · rename_i hin
        simp only [Bool.and_eq_true, Bool.or_eq_true, Nat.ble_eq, Nat.beq_eq] at hin
        obtain ⟨hin, ha, hv, hk⟩ := hin
        obtain ⟨h1, h2, h3⟩ := mm_in_ok hin
        obtain ⟨-, hq⟩ := mi_wr hs
        cases hq
        rw [mm_rd_own ha] at ho
        rw [mm_dn_own ha, mm_dn_own hv]
        have hfun : (fun j => ((rs.set (mm_un i) (some v)).getD j none).bind (mm_ad G)) = va_up (fun j => (rs.getD j none).bind (mm_ad G)) (mm_un i) (some (G.1 + (v - 64))) := by
          funext j
          unfold va_up
          rw [List.getD_eq_getElem?_getD, List.getElem?_set]
          by_cases e : j = mm_un i
          · rw [if_pos e, if_pos e.symm, if_pos h3]
            show mm_ad G v = _
            unfold mm_ad
            rw [if_neg (by omega)]
          · rw [if_neg e, if_neg (fun z => e z.symm)]
            show _ = (rs.getD j none).bind (mm_ad G)
            rw [List.getD_eq_getElem?_getD]
        have fin : ∀ (H1 : Heap) (locs1 : List Loc), va_P G.2.2.1 mm_cl ((mm_ws G h).set (a - 64) (G.1 + (a - 64), .inl (G.2.2.2 t, rs.length, .inr (.inr (.inr (.inr (va_up (fun j => (rs.getD j none).bind (mm_ad G)) i.toNatClampNeg (some (G.1 + (v - 64)))))))))) H1 → va_S (mm_Ar G) s.heap H1 locs1 → W p l e R s m args below meth c H1 locs1 cells slots Q (F0 m (pc + 1) ls (List.map (mm_dn G) st')) := by
          intro H1 locs1 hP1 hS1
          refine ms_fin (k := a - 64) (c0 := .inr (.inl (t, rs.set (mm_un i) (some v)))) hG hZ (by show va_P _ _ ((mm_ws G h).set (a - 64) (G.1 + (a - 64), .inl (G.2.2.2 t, ((rs.set (mm_un i) (some v)).length, .inr (.inr (.inr (.inr (fun j => ((rs.set (mm_un i) (some v)).getD j none).bind (mm_ad G))))))))) H1; rw [hfun, List.length_set, ← h2]; exact hP1) hS1 (fun hW1 => k _ _ rfl rfl H1 locs1 hW1 hS1)
        rcases hk with ⟨ht, hk⟩ | ⟨ht, hk⟩
        · obtain ⟨fs, hf⟩ := mm_recv_own hv hk
          subst ht
          obtain ⟨qc, e1, e2⟩ : ∃ qc, mm_cls[12]? = some qc ∧ qc.1 = "WhoKnows$State" := ⟨_, rfl, rfl⟩
          have hcl := mm_cl_get e1
          rw [e2] at hcl
          exact va_astq (D := G.2.2.1) (cl := mm_cl) (tys := mm_tys G) (ws := mm_ws G h) (r := ("WhoKnows$State", mm_T qc.2, qc.2.length)) hx hb hE.1 hW.1 (mm_D G h) hS (a - 64) 3 (v - 64) 12 (mm_own_at ho) rfl (mm_own_at hf) hcl h1 hd (fun H1 locs1 hP1 _ hS1 => fin H1 locs1 hP1 hS1)
        · obtain ⟨fs, hf⟩ := mm_recv_own hv hk
          subst ht
          obtain ⟨qc, e1, e2⟩ : ∃ qc, mm_cls[8]? = some qc ∧ qc.1 = "WhoKnows$Order" := ⟨_, rfl, rfl⟩
          have hcl := mm_cl_get e1
          rw [e2] at hcl
          exact va_astq (D := G.2.2.1) (cl := mm_cl) (tys := mm_tys G) (ws := mm_ws G h) (r := ("WhoKnows$Order", mm_T qc.2, qc.2.length)) hx hb hE.1 hW.1 (mm_D G h) hS (a - 64) 4 (v - 64) 8 (mm_own_at ho) rfl (mm_own_at hf) hcl h1 hd (fun H1 locs1 hP1 _ hS1 => fin H1 locs1 hP1 hS1)
      · cases hs
    · cases hs
  · cases hs
theorem ms_new {q : Nat} {c0 : mm_C} {ev : va_E} {H1 : Heap} {g : Nat → JFrame} {sl : Nat} (hG : G.1 ≤ s.heap.size) (hZ : s.heap.size + cells = G.1 + h.length) (he : mm_dE G c0 = ev) (hP : va_P G.2.2.1 mm_cl (mm_ws G h ++ [(q, ev)]) H1) (hD : va_D (mm_Ar G) (mm_ws G h ++ [(q, ev)])) (hS : va_S (mm_Ar G) s.heap H1 locs)
    (kk : mm_W G (h ++ [c0]) H1 → W p l e R s m args below meth c H1 locs (cells + 1) sl Q (g (G.1 + h.length))) : W p l e R s m args below meth c H1 locs (cells + 1) sl Q (g q) := by
  refine mm_bound fun hb => ?_
  have hlen : (mm_ws G h).length = h.length := by simp [mm_ws]
  have hlast : (mm_ws G h ++ [(q, ev)])[h.length]? = some (q, ev) := by rw [List.getElem?_append_right (by omega), hlen, Nat.sub_self]; rfl
  have h1 : q < H1.size := (hP _ _ hlast).lt
  have h2 : G.1 ≤ q := hD.2 _ _ hlast
  have h3 : ∀ i, i < h.length → q ≠ G.1 + i := by
    intro i hi e
    have hi' : (mm_ws G h ++ [(q, ev)])[i]? = some (G.1 + i, mm_dE G h[i]) := by rw [List.getElem?_append_left (by omega), mm_ws_get, List.getElem?_eq_getElem hi]; rfl
    have := hD.1 _ _ _ _ hlast hi' e
    omega
  have hq : q = G.1 + h.length := by
    rcases Nat.lt_or_ge (q - G.1) h.length with z | z
    · exact absurd (show q = G.1 + (q - G.1) by omega) (h3 _ z)
    · omega
  subst hq
  exact kk (mm_Wof (by rw [mm_ws_push, he]; exact hP) (by rw [List.length_append, List.length_singleton]; omega) (Nat.le_trans hG hS.1))
theorem mm_dflt_eq (ty : FieldType) : mm_dn G (mm_dflt ty) = defaultValue ty := by cases ty <;> rfl
theorem mm_dn_top : mm_dn G (.ref (64 + h.length)) = .ref (G.1 + h.length) := by
  rw [mm_dn_own (by omega), show 64 + h.length - 64 = h.length by omega]
theorem mm_AA (hG : G.1 ≤ s.heap.size) : ∀ q, s.heap.size ≤ q → mm_Ar G q := fun q hq => Nat.le_trans hG hq
theorem mh_new (hC : mm_Cok) (hF : mm_Fx p s m args c cc own G X) {x : Nat} (hI : mm_okI own mn N cc (pc, .new x, nx, ax) = true) (hG : G.1 ≤ s.heap.size) (hZ : s.heap.size + cells = G.1 + h.length) (hW : mm_W G h H) (hS : va_S (mm_Ar G) s.heap H locs) (hl : mm_LH G ls L) (hs : mm_stp X h L st (pc, .new x, nx, ax) = some (.inl (pc', L', st', op)))
    (hR : ∀ c', op = some (.inr c') → cells + 1 ≤ R.cells ∧ slots + mm_sl c' ≤ R.slots)
    (k : ∀ c', op = some (.inr c') → L' = L → ∀ H', mm_W G (h ++ [c']) H' → va_S (mm_Ar G) s.heap H' locs → W p l e R s m args below meth c H' locs (cells + 1) (slots + mm_sl c') Q (F0 m pc' ls (st'.map (mm_dn G)))) : W p l e R s m args below meth c H locs cells slots Q (F0 m pc ls (st.map (mm_dn G))) := by
  obtain ⟨hd, hn⟩ := mm_okI_dec hI (fun _ _ _ _ q => by cases q)
  subst hn
  obtain ⟨lw, hnd⟩ := mm_okI_need hI
  have hw := mm_need_wd hF hI hnd
  obtain ⟨hx, hb, hown, hts, hE, hXf⟩ := hF
  simp only [mm_stp] at hs
  split at hs
  · rename_i ci ax0
    cases hs
    obtain ⟨r1, r2⟩ := hR _ rfl
    have hk := k _ rfl rfl
    rw [hXf] at hk r2
    match ax0, hnd with
    | [p0, q0, r0], hnd =>
      simp only [mm_need] at hnd
      split at hnd
      · rename_i q hq
        cases hnd
        obtain ⟨k1, k2, k3, k4⟩ := hC ci q hq
        have hty0 : ∀ k, k < q.2.length → parseFieldDescriptor (mm_T q.2 k).2.2.1 = some ((mm_fty ci).getD k .int) := fun k hk => by
          refine k4 k _ ?_
          rw [List.getD_eq_getElem?_getD, List.getElem?_eq_getElem (by omega)]
          rfl
        have hsl : mm_sl (.inr (.inr (ci, (mm_fty ci).map mm_dflt))) = q.2.length ∨ 15 ≤ ci := by
          by_cases z : 15 ≤ ci
          · exact Or.inr z
          · refine Or.inl ?_
            simp only [mm_sl]
            rw [show Nat.ble 15 ci = false from by rw [← Bool.not_eq_true, Nat.ble_eq]; exact z]
            show ((mm_fty ci).map mm_dflt).length = _
            rw [List.length_map, k3]
        have hsl2 : q.2.length ≤ mm_sl (.inr (.inr (ci, (mm_fty ci).map mm_dflt))) := by
          rcases hsl with z | z
          · omega
          · have : (mm_fty ci).length = 0 := by
              unfold mm_fty
              split <;> first | (exfalso; omega) | rfl
            omega
        refine va_new (D := G.2.2.1) (cl := mm_cl) (tys := mm_tys G) (ws := mm_ws G h) (ci := ci) (C := q.1) (T := mm_T q.2) (N := q.2.length) (fs := ((mm_fty ci).map mm_dflt).map (mm_dn G)) hx hb hts k1 _ hty0 hown (hw _ List.mem_cons_self) (hw _ (List.mem_cons_of_mem _ List.mem_cons_self)) (hw _ (List.mem_cons_of_mem _ (List.mem_cons_of_mem _ List.mem_cons_self))) hE.1 hW.1 (mm_D G h) hS (mm_AA hG) (mm_cl_get hq) (fun j hj => ?_) r1 (by omega) hd (fun q1 H1 hP1 hD1 hS1 => ?_)
        · unfold vp_V
          have hj2 : j < (mm_fty ci).length := by omega
          rw [List.map_map]
          simp only [List.getD_eq_getElem?_getD, List.getElem?_map, List.getElem?_eq_getElem hj2]
          exact (mm_dflt_eq _).symm
        · refine W.widen (k := cells + 1) (n := slots + mm_sl (.inr (.inr (ci, (mm_fty ci).map mm_dflt)))) (Nat.le_refl _) (by omega) ?_
          refine ms_new (g := fun q => F0 m (pc + 3) ls (.ref q :: List.map (mm_dn G) st)) (c0 := .inr (.inr (ci, (mm_fty ci).map mm_dflt))) hG hZ rfl hP1 hD1 hS1 (fun hW1 => ?_)
          have hk := hk H1 hW1 hS1
          rw [List.map_cons, mm_dn_top] at hk
          exact hk
      · cases hnd
    | [], hnd => cases hnd
    | [_], hnd => cases hnd
    | [_, _], hnd => cases hnd
    | _ :: _ :: _ :: _ :: _, hnd => cases hnd
  · split at hs <;> cases hs
  · cases hs
theorem ms_cA {t : Nat} {ty : FieldType} {cA : ClassId} (hK : va_K G.2.2.1 mm_cl (mm_tys G) s) (ht : (mm_tys G)[t]? = some (G.2.2.2 t, ty)) (hK2 : va_K G.2.2.1 mm_cl (mm_tys G ++ [(cA, ty)]) s) (hp : va_RA s cA ty → va_RA s (G.2.2.2 t) ty → cA = G.2.2.2 t) : cA = G.2.2.2 t := by
  have h2 := (hK2.2 5 (cA, ty) rfl).2
  exact hp h2 (hK.2 t _ ht).2
theorem ms_fn0 (t : Nat) (ht : t = 0 ∨ t = 2) : mm_fn t 0 = .inl (fun _ => 0) := by
  have h1 : (fun j => Int32.ofNat (mm_ag 32 0 j)) = fun _ => (0 : Int32) := by
    funext j
    rw [mm_ag_0]
    rfl
  rcases ht with rfl | rfl
  · show Sum.inl (fun j => Int32.ofNat (mm_ag 32 0 j)) = _
    rw [h1]
  · show Sum.inl (fun j => Int32.ofNat (mm_ag 32 0 j)) = _
    rw [h1]
theorem ms_fn1 : mm_fn 1 0 = .inr (.inl (fun _ => 0)) := by
  have h1 : (fun j => Int64.ofNat (mm_ag 64 0 j)) = fun _ => (0 : Int64) := by
    funext j
    rw [mm_ag_0]
    rfl
  show Sum.inr (Sum.inl (fun j => Int64.ofNat (mm_ag 64 0 j))) = _
  rw [h1]
theorem mh_newarray (hY : mm_Sys) (hF : mm_Fx p s m args c cc own G X) {a : ArrayType} (hI : mm_okI own mn N cc (pc, .newarray a, nx, ax) = true) (hG : G.1 ≤ s.heap.size) (hZ : s.heap.size + cells = G.1 + h.length) (hW : mm_W G h H) (hS : va_S (mm_Ar G) s.heap H locs) (hl : mm_LH G ls L) (hs : mm_stp X h L st (pc, .newarray a, nx, ax) = some (.inl (pc', L', st', op)))
    (hR : ∀ c', op = some (.inr c') → cells + 1 ≤ R.cells ∧ slots + mm_sl c' ≤ R.slots)
    (k : ∀ c', op = some (.inr c') → L' = L → ∀ H', mm_W G (h ++ [c']) H' → va_S (mm_Ar G) s.heap H' locs → W p l e R s m args below meth c H' locs (cells + 1) (slots + mm_sl c') Q (F0 m pc' ls (st'.map (mm_dn G)))) : W p l e R s m args below meth c H locs cells slots Q (F0 m pc ls (st.map (mm_dn G))) := by
  obtain ⟨hd, hn⟩ := mm_okI_dec hI (fun _ _ _ _ q => by cases q)
  subst hn
  have hr := mm_okI_rest hI
  obtain ⟨hx, hb, hown, hts, hE, hXf⟩ := hF
  simp only [mm_stp] at hs
  split at hs
  · rename_i n r t
    split at hs
    · rename_i hn
      rw [Nat.ble_eq] at hn
      cases hs
      obtain ⟨r1, r2⟩ := hR _ rfl
      have r2 : slots + mm_un n ≤ R.slots := r2
      have hk := k _ rfl rfl
      obtain ⟨n1, n2, n3⟩ := mm_nonneg (x := n) (by omega)
      rw [List.map_cons]
      show W p l e R s m args below meth c H locs cells slots Q (F0 m pc ls (.int n :: List.map (mm_dn G) r))
      rcases (of_decide_eq_true hr : (a = .int ∧ t = 0) ∨ (a = .long ∧ t = 1) ∨ (a = .byte ∧ t = 2)) with ⟨rfl, rfl⟩ | ⟨rfl, rfl⟩ | ⟨rfl, rfl⟩
      · refine va_newa (D := G.2.2.1) (cl := mm_cl) (tys := mm_tys G) (ws := mm_ws G h) (atype := .int) (ty := .int) (N' := mm_un n) (a0 := (mm_un n, mm_fn 0 0)) hx hb (hts _ hY.2.2.2.2.2.1.1) rfl hE.1 hW.1 (mm_D G h) hS (mm_AA hG) (fun cA => by rw [ms_fn0 0 (Or.inl rfl)]; rfl) n1 n2 (by show mm_un n * 4 ≤ _; omega) r1 r2 hd (fun q1 cA H1 hK1 hP1 hD1 hS1 => ?_)
        have e9 := ms_cA (t := 0) hE.1 rfl hK1 (fun x y => Option.some.inj ((show s.vm.findClass _ = some cA from x).symm.trans y))
        subst e9
        refine ms_new (g := fun q => F0 m (pc + 2) ls (.ref q :: List.map (mm_dn G) r)) (c0 := .inl (0, mm_un n, 0)) hG hZ rfl hP1 hD1 hS1 (fun hW1 => ?_)
        have hk := hk H1 hW1 hS1
        rw [List.map_cons, mm_dn_top] at hk
        exact hk
      · refine va_newa (D := G.2.2.1) (cl := mm_cl) (tys := mm_tys G) (ws := mm_ws G h) (atype := .long) (ty := .long) (N' := mm_un n) (a0 := (mm_un n, mm_fn 1 0)) hx hb (hts _ hY.2.2.2.2.2.1.2.1) rfl hE.1 hW.1 (mm_D G h) hS (mm_AA hG) (fun cA => by rw [ms_fn1]; rfl) n1 n2 (by show mm_un n * 8 ≤ _; omega) r1 r2 hd (fun q1 cA H1 hK1 hP1 hD1 hS1 => ?_)
        have e9 := ms_cA (t := 1) hE.1 rfl hK1 (fun x y => Option.some.inj ((show s.vm.findClass _ = some cA from x).symm.trans y))
        subst e9
        refine ms_new (g := fun q => F0 m (pc + 2) ls (.ref q :: List.map (mm_dn G) r)) (c0 := .inl (1, mm_un n, 0)) hG hZ rfl hP1 hD1 hS1 (fun hW1 => ?_)
        have hk := hk H1 hW1 hS1
        rw [List.map_cons, mm_dn_top] at hk
        exact hk
      · refine va_newa (D := G.2.2.1) (cl := mm_cl) (tys := mm_tys G) (ws := mm_ws G h) (atype := .byte) (ty := .byte) (N' := mm_un n) (a0 := (mm_un n, mm_fn 2 0)) hx hb (hts _ hY.2.2.2.2.2.1.2.2) rfl hE.1 hW.1 (mm_D G h) hS (mm_AA hG) (fun cA => by rw [ms_fn0 2 (Or.inr rfl)]; rfl) n1 n2 (by show mm_un n * 1 ≤ _; omega) r1 r2 hd (fun q1 cA H1 hK1 hP1 hD1 hS1 => ?_)
        have e9 := ms_cA (t := 2) hE.1 rfl hK1 (fun x y => Option.some.inj ((show s.vm.findClass _ = some cA from x).symm.trans y))
        subst e9
        refine ms_new (g := fun q => F0 m (pc + 2) ls (.ref q :: List.map (mm_dn G) r)) (c0 := .inl (2, mm_un n, 0)) hG hZ rfl hP1 hD1 hS1 (fun hW1 => ?_)
        have hk := hk H1 hW1 hS1
        rw [List.map_cons, mm_dn_top] at hk
        exact hk
    · cases hs
  · cases hs
theorem mh_anewarray (hY : mm_Sys) (hF : mm_Fx p s m args c cc own G X) {x : Nat} (hI : mm_okI own mn N cc (pc, .anewarray x, nx, ax) = true) (hG : G.1 ≤ s.heap.size) (hZ : s.heap.size + cells = G.1 + h.length) (hW : mm_W G h H) (hS : va_S (mm_Ar G) s.heap H locs) (hl : mm_LH G ls L) (hs : mm_stp X h L st (pc, .anewarray x, nx, ax) = some (.inl (pc', L', st', op)))
    (hR : ∀ c', op = some (.inr c') → cells + 1 ≤ R.cells ∧ slots + mm_sl c' ≤ R.slots)
    (k : ∀ c', op = some (.inr c') → L' = L → ∀ H', mm_W G (h ++ [c']) H' → va_S (mm_Ar G) s.heap H' locs → W p l e R s m args below meth c H' locs (cells + 1) (slots + mm_sl c') Q (F0 m pc' ls (st'.map (mm_dn G)))) : W p l e R s m args below meth c H locs cells slots Q (F0 m pc ls (st.map (mm_dn G))) := by
  obtain ⟨hd, hn⟩ := mm_okI_dec hI (fun _ _ _ _ q => by cases q)
  subst hn
  have hr := mm_okI_rest hI
  obtain ⟨lw, hnd⟩ := mm_okI_need hI
  have hw := mm_need_wd hF hI hnd
  have hF0 := hF
  obtain ⟨hx, hb, hown, hts, hE, hXf⟩ := hF
  simp only [mm_stp] at hs
  split at hs
  · rename_i n r t ax0
    split at hs
    · rename_i hn
      rw [Nat.ble_eq] at hn
      cases hs
      obtain ⟨r1, r2⟩ := hR _ rfl
      have r9 : slots + (List.replicate (mm_un n) (none : Option Nat)).length ≤ R.slots := r2
      rw [List.length_replicate] at r9
      have hk := k _ rfl rfl
      obtain ⟨n1, n2, n3⟩ := mm_nonneg (x := n) (by omega)
      rw [List.map_cons]
      show W p l e R s m args below meth c H locs cells slots Q (F0 m pc ls (.int n :: List.map (mm_dn G) r))
      have hfun : (fun j => ((List.replicate (mm_un n) (none : Option Nat)).getD j none).bind (mm_ad G)) = fun _ => none := by
        funext j
        rw [List.getD_eq_getElem?_getD, List.getElem?_replicate]
        split <;> rfl
      match ax0, hnd, hr with
      | [ci, p0], hnd, hr =>
        simp only [mm_need] at hnd
        split at hnd
        · rename_i q hq
          cases hnd
          have hcl := hw _ List.mem_cons_self
          have hr := (of_decide_eq_true hr : (t = 3 ∧ ci = 12) ∨ (t = 4 ∧ ci = 8))
          have fin : ∀ (q1 : Nat) (H1 : Heap), va_P G.2.2.1 mm_cl (mm_ws G h ++ [(q1, .inl (G.2.2.2 t, mm_un n, .inr (.inr (.inr (.inr (fun _ => none))))))]) H1 → va_D (mm_Ar G) (mm_ws G h ++ [(q1, .inl (G.2.2.2 t, mm_un n, .inr (.inr (.inr (.inr (fun _ => none))))))]) → va_S (mm_Ar G) s.heap H1 locs → W p l e R s m args below meth c H1 locs (cells + 1) (slots + mm_un n) Q (F0 m (pc + 3) ls (.ref q1 :: List.map (mm_dn G) r)) := by
            intro q1 H1 hP1 hD1 hS1
            refine ms_new (g := fun q => F0 m (pc + 3) ls (.ref q :: List.map (mm_dn G) r)) (c0 := .inr (.inl (t, List.replicate (mm_un n) none))) hG hZ (by show Sum.inl (G.2.2.2 t, ((List.replicate (mm_un n) (none : Option Nat)).length, _)) = _; rw [hfun, List.length_replicate]) hP1 hD1 hS1 (fun hW1 => ?_)
            have hk := hk H1 hW1 hS1
            rw [List.map_cons, mm_dn_top] at hk
            have e8 : slots + mm_sl (.inr (.inl (t, List.replicate (mm_un n) none))) = slots + mm_un n := by show slots + (List.replicate (mm_un n) (none : Option Nat)).length = _; rw [List.length_replicate]
            rw [e8] at hk
            exact hk
          rcases hr with ⟨rfl, rfl⟩ | ⟨rfl, rfl⟩
          · obtain ⟨qc, e1, e2⟩ : ∃ qc, mm_cls[12]? = some qc ∧ qc.1 = "WhoKnows$State" := ⟨_, rfl, rfl⟩
            cases hq.symm.trans e1
            rw [e2] at hcl
            obtain ⟨j9, hj9⟩ := hY.2.2.2.2.2.2.1
            have hao : va_AO "WhoKnows$State" s := va_AO.of (mm_wd hF0 (by rfl) hj9)
            refine va_newq (D := G.2.2.1) (cl := mm_cl) (tys := mm_tys G) (ws := mm_ws G h) hx hb hown hcl hao hE.1 hW.1 (mm_D G h) hS (mm_AA hG) n1 n2 (by omega) r1 r9 hd (fun q1 cA H1 hK1 hP1 hD1 hS1 => ?_)
            have e9 := ms_cA (t := 3) hE.1 rfl hK1 (fun x y => by obtain ⟨_, _, -, -, -, x4⟩ := x; obtain ⟨_, _, -, -, -, y4⟩ := y; exact Option.some.inj (x4.symm.trans y4))
            subst e9
            exact fin q1 H1 hP1 hD1 hS1
          · obtain ⟨qc, e1, e2⟩ : ∃ qc, mm_cls[8]? = some qc ∧ qc.1 = "WhoKnows$Order" := ⟨_, rfl, rfl⟩
            cases hq.symm.trans e1
            rw [e2] at hcl
            obtain ⟨j9, hj9⟩ := hY.2.2.2.2.2.2.2.1
            have hao : va_AO "WhoKnows$Order" s := va_AO.of (mm_wd hF0 (by rfl) hj9)
            refine va_newq (D := G.2.2.1) (cl := mm_cl) (tys := mm_tys G) (ws := mm_ws G h) hx hb hown hcl hao hE.1 hW.1 (mm_D G h) hS (mm_AA hG) n1 n2 (by omega) r1 r9 hd (fun q1 cA H1 hK1 hP1 hD1 hS1 => ?_)
            have e9 := ms_cA (t := 4) hE.1 rfl hK1 (fun x y => by obtain ⟨_, _, -, -, -, x4⟩ := x; obtain ⟨_, _, -, -, -, y4⟩ := y; exact Option.some.inj (x4.symm.trans y4))
            subst e9
            exact fin q1 H1 hP1 hD1 hS1
        · cases hnd
      | [], hnd, _ => cases hnd
      | [_], hnd, _ => cases hnd
      | _ :: _ :: _ :: _, hnd, _ => cases hnd
    · cases hs
  · cases hs
theorem ms_cpy (N M sp dp n t : Nat) (ht : t ≠ 1) : mm_fn t (mm_cpy 32 N sp M dp n) = .inl (va_cpy (fun j => Int32.ofNat (mm_ag 32 N j)) (fun j => Int32.ofNat (mm_ag 32 M j)) sp dp n) := by
  have h1 : ∀ M, mm_fn t M = .inl (fun j => Int32.ofNat (mm_ag 32 M j)) := fun M => by
    unfold mm_fn
    split
    · exact absurd rfl ht
    · rfl
  rw [h1]
  congr 1
  funext j
  rw [mm_cpy_ag _ _ (by decide)]
  unfold va_cpy
  split <;> rfl
theorem mh_copy (hY : mm_Sys) (hF : mm_Fx p s m args c cc own G X) {x p0 : Nat} (hI : mm_okI own mn N cc (pc, .invokestatic x, nx, [10, p0]) = true) (hG : G.1 ≤ s.heap.size) (hZ : s.heap.size + cells = G.1 + h.length) (hW : mm_W G h H) (hS : va_S (mm_Ar G) s.heap H locs) (hl : mm_LH G ls L) (hml : c.maxLocals = L.length) (hRf : 1 ≤ R.frames) (hRl : 200 ≤ R.locals) (hs : mm_copy X h nx L st = some (.inl (pc', L', st', op)))
    (k : ∀ i c', op = some (.inl (i, c')) → L' = L → ∀ H' locs', mm_W G (h.set i c') H' → va_S (mm_Ar G) s.heap H' locs' → W p l e R s m args below meth c H' locs' cells slots Q (F0 m pc' ls (st'.map (mm_dn G)))) : W p l e R s m args below meth c H locs cells slots Q (F0 m pc ls (st.map (mm_dn G))) := by
  obtain ⟨hd, hn⟩ := mm_okI_dec hI (fun _ _ _ _ q => by cases q)
  subst hn
  obtain ⟨lw, hnd⟩ := mm_okI_need hI
  have hw := mm_need_wd hF hI hnd
  cases hnd
  obtain ⟨hx, hb, hown, hts, hE, hXf⟩ := hF
  unfold mm_copy at hs
  split at hs
  · rename_i n dp a sp a0 r
    split at hs
    · rename_i n0 M0 n1 M1 ho0 ho1
      have ho0 := mm_prim_eq ho0
      have ho1 := mm_prim_eq ho1
      split at hs
      · rename_i hc
        simp only [Bool.and_eq_true, Nat.ble_eq] at hc
        obtain ⟨c0, c1, c2, c3, c4, c5, c6⟩ := hc
        rw [mm_fN_eq] at hs
        obtain ⟨ha, hq⟩ := mi_wr hs
        cases hq
        rw [mm_rd_own c4] at ho0
        rw [mm_rd_own ha] at ho1
        obtain ⟨a1, a2, a3⟩ := mm_nonneg (x := n) (by omega)
        obtain ⟨b1, b2, b3⟩ := mm_nonneg (x := dp) (by omega)
        obtain ⟨d1, d2, d3⟩ := mm_nonneg (x := sp) (by omega)
        rw [List.map_cons, List.map_cons, List.map_cons, List.map_cons, List.map_cons, mm_dn_own ha, mm_dn_own c4]
        have hcat : ((st'.map (mm_dn G)).map fun v => v.category).sum ≤ 8 := by rw [mm_map_cat]; exact mm_rest8 st' c0
        have hnw : nativeFrameWords "java/lang/System" "arraycopy" 5 = 7 := by decide +kernel
        refine va_copyi (D := G.2.2.1) (cl := mm_cl) (tys := mm_tys G) (ws := mm_ws G h) (ty := .int) hx hb (hml.trans hl.1.symm) hown (hw _ List.mem_cons_self) (hts _ hY.1) (hts _ hY.2.1) (hts _ hY.2.2.1) hE.1 hW.1 (mm_D G h) hS (a0 - 64) (a - 64) 0 0 (c0 := G.2.2.2 0) (c1 := G.2.2.2 0) (n0 := n0) (n1 := n1) (f := fun j => Int32.ofNat (mm_ag 32 M0 j)) (g := fun j => Int32.ofNat (mm_ag 32 M1 j)) (mm_own_at ho0) (mm_own_at ho1) rfl rfl rfl d1 b1 a1 (by rw [d2, a2]; exact c5) (by rw [b2, a2]; exact c6) (fun _ _ => rfl) hRf (by rw [hnw]; omega) hd (fun H1 locs1 hP1 _ hS1 => ?_)
        rw [d2, b2, a2] at hP1
        refine ms_fin (k := a - 64) (c0 := .inl (0, n1, mm_cpy 32 M0 (mm_un sp) M1 (mm_un dp) (mm_un n))) hG hZ (by show va_P _ _ ((mm_ws G h).set (a - 64) (G.1 + (a - 64), .inl (G.2.2.2 0, (n1, mm_fn 0 _)))) H1; rw [ms_cpy _ _ _ _ _ _ (by decide)]; exact hP1) hS1 (fun hW1 => k _ _ rfl rfl H1 locs1 hW1 hS1)
      · cases hs
    · cases hs
  · cases hs
theorem mh_objinit (hY : mm_Sys) (hF : mm_Fx p s m args c cc own G X) {x p0 : Nat} (hI : mm_okI own mn N cc (pc, .invokespecial x, nx, [9, p0]) = true) (hG : G.1 ≤ s.heap.size) (hZ : s.heap.size + cells = G.1 + h.length) (hW : mm_W G h H) (hS : va_S (mm_Ar G) s.heap H locs) (hl : mm_LH G ls L) (hml : c.maxLocals = L.length) (hRf : 1 ≤ R.frames) (hRl : 200 ≤ R.locals) (hs : mm_stp X h L st (pc, .invokespecial x, nx, [9, p0]) = some (.inl (pc', L', st', op)))
    (k : op = none → ∀ ls', mm_LH G ls' L' → W p l e R s m args below meth c H locs cells slots Q (F0 m pc' ls' (st'.map (mm_dn G)))) : W p l e R s m args below meth c H locs cells slots Q (F0 m pc ls (st.map (mm_dn G))) := by
  obtain ⟨hd, hn⟩ := mm_okI_dec hI (fun _ _ _ _ q => by cases q)
  subst hn
  obtain ⟨lw, hnd⟩ := mm_okI_need hI
  have hw := mm_need_wd hF hI hnd
  cases hnd
  obtain ⟨hx, hb, hown, hts, hE, hXf⟩ := hF
  simp only [mm_stp] at hs
  split at hs
  · rename_i a r
    split at hs
    · rename_i hc
      simp only [Bool.and_eq_true, Nat.ble_eq] at hc
      cases mi_go hs
      rw [List.map_cons, mm_dn_own hc.1]
      have hcat : ((st'.map (mm_dn G)).map fun v => v.category).sum ≤ 8 := by rw [mm_map_cat]; exact mm_rest8 st' hc.2
      have hk := k rfl ls hl
      exact W.objInit hx hb hown (hw _ List.mem_cons_self) (hts _ hY.2.2.2.1) (hts _ hY.2.2.2.2.1) rfl (hl.1.trans hml.symm) rfl hd hRf (by show 0 + _ + 12 ≤ _; omega) hk
    · cases hs
  · cases hs
def mm_mxv (mx : Bool) (x y : Int32) : Int32 := if mx = true then (if x < y then y else x) else (if y < x then y else x)
theorem mi_math {mx : Bool} {a : mm_A} (h0 : mm_math nx L st mx = some a) : ∃ x y r, st = .int y :: .int x :: r ∧ r.length ≤ 4 ∧ a = .inl (nx, L, .int (mm_mxv mx x y) :: r, none) := by
  unfold mm_math at h0
  split at h0
  · rename_i y x r
    split at h0
    · rename_i hb
      refine ⟨x, y, r, rfl, Nat.ble_eq.mp hb, ?_⟩
      unfold mm_mxv
      cases mx with
      | true =>
        rw [if_pos rfl]
        cases hl : mm_lt x y with
        | true =>
          rw [if_pos ((mm_lt_iff x y).mp hl)]
          rw [hl] at h0
          dsimp only at h0
          rw [mm_fI_eq] at h0
          exact mi_go h0
        | false =>
          rw [if_neg (fun z => by rw [(mm_lt_iff x y).mpr z] at hl; cases hl)]
          rw [hl] at h0
          dsimp only at h0
          rw [mm_fI_eq] at h0
          exact mi_go h0
      | false =>
        rw [if_neg (by decide)]
        cases hl : mm_lt y x with
        | true =>
          rw [if_pos ((mm_lt_iff y x).mp hl)]
          rw [hl] at h0
          dsimp only at h0
          rw [mm_fI_eq] at h0
          exact mi_go h0
        | false =>
          rw [if_neg (fun z => by rw [(mm_lt_iff y x).mpr z] at hl; cases hl)]
          rw [hl] at h0
          dsimp only at h0
          rw [mm_fI_eq] at h0
          exact mi_go h0
    · cases h0
  · cases h0
theorem mh_math (hY : mm_Sys) (hF : mm_Fx p s m args c cc own G X) {x p0 kd : Nat} (hk : kd = 11 ∨ kd = 12) (hI : mm_okI own mn N cc (pc, .invokestatic x, nx, [kd, p0]) = true) (hl : mm_LH G ls L) (hml : c.maxLocals = L.length) (hRf : 1 ≤ R.frames) (hRl : 200 ≤ R.locals) (hc : cells ≤ R.cells) (hsl : slots ≤ R.slots) (hs : mm_math nx L st (kd == 11) = some (.inl (pc', L', st', op)))
    (k : op = none → ∀ ls', mm_LH G ls' L' → W p l e R s m args below meth c H locs cells slots Q (F0 m pc' ls' (st'.map (mm_dn G)))) : W p l e R s m args below meth c H locs cells slots Q (F0 m pc ls (st.map (mm_dn G))) := by
  obtain ⟨hd, hn⟩ := mm_okI_dec hI (fun _ _ _ _ q => by cases q)
  subst hn
  obtain ⟨lw, hnd⟩ := mm_okI_need hI
  have hw := mm_need_wd hF hI hnd
  obtain ⟨hx, hb, hown, hts, hE, hXf⟩ := hF
  obtain ⟨a, b, r, rfl, hr, hq⟩ := mi_math hs
  have hcat : ((r.map (mm_dn G)).map fun v => v.category).sum ≤ 8 := by rw [mm_map_cat]; exact mm_rest8 r hr
  rcases hk with rfl | rfl
  · cases hnd
    cases hq
    exact va_mmax hx hb (hml.trans hl.1.symm) hown (hw _ List.mem_cons_self) (hts _ hY.2.2.2.2.2.2.2.2.2.1.1) (hts _ hY.2.2.2.2.2.2.2.2.1) (hts _ hY.2.2.2.2.2.2.2.2.2.1.2) hRf (by omega) hc hsl hd (k rfl ls hl)
  · cases hnd
    cases hq
    exact va_mmin hx hb (hml.trans hl.1.symm) hown (hw _ List.mem_cons_self) (hts _ hY.2.2.2.2.2.2.2.2.2.2.1) (hts _ hY.2.2.2.2.2.2.2.2.1) (hts _ hY.2.2.2.2.2.2.2.2.2.2.2) hRf (by omega) hc hsl hd (k rfl ls hl)
end MS
end
section
/-! ===== calls: the contract of a run, and the walk of a whole body ===== -/
theorem mm_sum_set : ∀ (h : mm_H) (k : Nat) (c0 c : mm_C), h[k]? = some c0 → mm_sl c0 = mm_sl c → mm_sum (h.set k c) = mm_sum h
  | [], k, c0, c, h1, _ => by simp at h1
  | a :: r, 0, c0, c, h1, h2 => by
    cases h1
    show mm_sl c + mm_sum r = mm_sl a + mm_sum r
    rw [h2]
  | a :: r, k + 1, c0, c, h1, h2 => by
    show mm_sl a + mm_sum (r.set k c) = mm_sl a + mm_sum r
    rw [mm_sum_set r k c0 c h1 h2]
theorem mm_sum_push : ∀ (h : mm_H) (c : mm_C), mm_sum (h ++ [c]) = mm_sum h + mm_sl c
  | [], c => by simp [mm_sum]
  | a :: r, c => by
    show mm_sl a + mm_sum (r ++ [c]) = mm_sl a + mm_sum r + mm_sl c
    rw [mm_sum_push r c, Nat.add_assoc]
def mm_le (h h' : mm_H) : Prop := h.length ≤ h'.length ∧ mm_sum h ≤ mm_sum h'
theorem mm_le.rf {h : mm_H} : mm_le h h := ⟨Nat.le_refl _, Nat.le_refl _⟩
theorem mm_le.tr {a b c : mm_H} (h1 : mm_le a b) (h2 : mm_le b c) : mm_le a c := ⟨Nat.le_trans h1.1 h2.1, Nat.le_trans h1.2 h2.2⟩
theorem mm_le.push {h : mm_H} {c : mm_C} : mm_le h (h ++ [c]) := ⟨by rw [List.length_append]; exact Nat.le_add_right _ _, by rw [mm_sum_push]; exact Nat.le_add_right _ _⟩
theorem mm_exe_mono {X : mm_X} {P : Nat → Option mm_M} {callee : Nat → List Value → mm_H → Option (mm_V × mm_H)} {M : mm_M} (hc : ∀ j as h v h', callee j as h = some (v, h') → mm_le h h') : ∀ n pc L st h res h', mm_exe X P callee M n pc L st h = some (res, h') → mm_le h h' := by
  intro n
  induction n with
  | zero => intro pc L st h res h' he; cases he
  | succ n ih =>
    intro pc L st h res h' he
    simp only [mm_exe] at he
    split at he
    · cases he
    · split at he
      · cases he
      · exact ih _ _ _ _ _ _ he
      · split at he
        · rename_i c0 hk0
          split at he
          · rename_i hb
            have h1 := ih _ _ _ _ _ _ he
            rw [Nat.beq_eq] at hb
            refine mm_le.tr ⟨by rw [List.length_set]; exact Nat.le_refl _, by rw [mm_sum_set _ _ _ _ hk0 hb]; exact Nat.le_refl _⟩ h1
          · cases he
        · cases he
      · exact mm_le.push.tr (ih _ _ _ _ _ _ he)
      · split at he
        · cases he
        · rename_i hcal
          exact (hc _ _ _ _ _ hcal).tr (ih _ _ _ _ _ _ he)
        · rename_i hcal
          exact (hc _ _ _ _ _ hcal).tr (ih _ _ _ _ _ _ he)
        · rename_i hcal
          have h1 := hc _ _ _ _ _ hcal
          split at he
          · cases he; exact h1
          · cases he; exact h1
          · cases he
      · cases he; exact mm_le.rf
      · split at he
        · cases he; exact mm_le.push
        · cases he
theorem mm_run_mono {X : mm_X} {P : Nat → Option mm_M} {fuel : Nat} : ∀ d j as h v h', mm_run X P fuel d j as h = some (v, h') → mm_le h h' := by
  intro d
  induction d with
  | zero => intro j as h v h' he; cases he
  | succ d ih =>
    intro j as h v h' he
    simp only [mm_run] at he
    split at he
    · cases he
    · split at he
      · cases he
      · split at he
        · rename_i hx
          have h1 := mm_exe_mono ih _ _ _ _ _ _ _ hx
          split at he
          · cases he; exact h1
          · cases he
        · rename_i hx
          have h1 := mm_exe_mono ih _ _ _ _ _ _ _ hx
          cases he; exact h1
        · cases he
/-- the words of a method: its code, and all good words of the tables -/
def mm_wsY (y : mm_N) (n : Nat) (hh : List (Nat × Nat × Nat × Nat)) : List Jvm.Cond := (match y.2.2.2 with
  | true => .codeWith y.1 y.2.1 n y.2.2.1 hh
  | false => .code y.1 y.2.1 n y.2.2.1) :: mt_g
def mm_rm (d mc ms : Nat) : Room := { frames := d + 8, cells := mc, slots := ms, locals := 100 * d + 200 }
def mm_Pc (G : mm_G) (X : mm_X) (as : List Value) (h : mm_H) : Array Value → State → Prop := va_Pc (as.map (mm_dn G)) (fun U => mm_W G h U.heap ∧ mm_Ev G X U ∧ G.1 ≤ U.heap.size)
def mm_Qc (G : mm_G) (v : mm_V) (h' : mm_H) : Array Value → State → Outcome → State → Prop := fun _ st oc t => (∃ w, v = .inl w ∧ oc = .returned (w.map (mm_dn G))) ∧ mm_W G h' t.heap ∧ va_F (mm_Ar G) st t
def mm_XC (G : mm_G) (v : mm_V) (h' : mm_H) : String → State → State → Prop := fun E st t => (∃ ci q, v = .inr ci ∧ mm_cls[ci]? = some q ∧ E = q.1) ∧ mm_W G h' t.heap ∧ va_F (mm_Ar G) st t
def mm_Ct (l : Launch) (G : mm_G) (X : mm_X) (y : mm_N) (n : Nat) (hh : List (Nat × Nat × Nat × Nat)) (d : Nat) (as : List Value) (h : mm_H) (v : mm_V) (h' : mm_H) : Prop :=
  vx_Met l y.1 (mm_wsY y n hh) (mm_rm d (h'.length - h.length) (mm_sum h' - mm_sum h)) (mm_Pc G X as h) (mm_Qc G v h') (mm_XC G v h') (h'.length - h.length) (mm_sum h' - mm_sum h) (mm_Ar G)
theorem mm_Pc_blind {G : mm_G} {X : mm_X} {as : List Value} {h : mm_H} : FrameBlind (mm_Pc G X as h) := fun a U g mk q => ⟨q.1, q.2.1, q.2.2.1.blind, q.2.2.2⟩
section MC
variable {p : Program} {l : Launch} {e : Env} {R : Room} {s : State} {m : MethodId} {args : Array Value} {below : List Frame} {meth : Method} {c : Code} {H : Heap} {locs : List Loc} {cells slots : Nat} {Q : State → Prop}
variable {cc : ByteArray} {pc : Nat} {ls : Array Slot} {G : mm_G} {X : mm_X} {h h' : mm_H} {L L' : mm_L} {st st' : List Value} {nx pc' : Nat} {ax : List Nat} {own mn : String} {N : Nat → Option mm_N} {mc ms : Nat} {rest st0 : List Value} {a : Array Value}
theorem mc_ret {w : Option Value} (hr : vx_Run p l e R s m args below meth c H locs cells slots mc ms (F0 m pc ls st0) rest (mm_Qc G (.inl w) h' a) (mm_XC G (.inl w) h') (mm_Ar G)) (hS : va_S (mm_Ar G) s.heap H locs)
    (kk : ∀ H1 locs1, mm_W G h' H1 → va_S (mm_Ar G) s.heap H1 locs1 → W p l e R s m args below meth c H1 locs1 (cells + mc) (slots + ms) Q (F0 m (pc + 3) ls ((w.map (mm_dn G)).toList ++ rest))) : W p l e R s m args below meth c H locs cells slots Q (F0 m pc ls st0) := by
  intro T hT X0
  rcases hr T hT X0 with ⟨v, st₀, t, T', L, h0, X', hL, e1, e2, hq, st⟩ | ⟨q, st₀, t, T', L, E, ce, h0, X', hL, e1, e2, hq, -⟩
  · obtain ⟨⟨w', hw, ho⟩, hW, hF⟩ := hq
    cases hw
    cases ho
    obtain ⟨z1, z2, z3⟩ := vx_keep h0 e1 hS (fun q _ h => h) (fun q h => h) hL hF
    obtain ⟨t2, a1, b1⟩ := kk T'.heap (locs ++ L) (by rw [e1]; exact hW) z3 T' rfl X'
    exact ⟨t2, st t2 a1, b1⟩
  · obtain ⟨⟨ci, r, hv, -⟩, -⟩ := hq
    cases hv
theorem mc_thr {ci : Nat} (hr : vx_Run p l e R s m args below meth c H locs cells slots mc ms (F0 m pc ls st0) rest (mm_Qc G (.inr ci) h' a) (mm_XC G (.inr ci) h') (mm_Ar G)) (hS : va_S (mm_Ar G) s.heap H locs)
    (kk : ∀ (q : Addr) (ce : Cell) (r : String × List (String × String × String × Bool)) H1 locs1, mm_cls[ci]? = some r → mm_W G h' H1 → va_S (mm_Ar G) s.heap H1 locs1 → H1[q]? = some ce → ce.vm = .none → s.vm.findClass r.1 = some ce.cls → vx_W p l e R s m args below meth c H1 locs1 (cells + mc) (slots + ms) Q (F0 m pc ls rest) q) : W p l e R s m args below meth c H locs cells slots Q (F0 m pc ls st0) := by
  intro T hT X0
  rcases hr T hT X0 with ⟨v, st₀, t, T', L, h0, X', hL, e1, e2, hq, st⟩ | ⟨q, st₀, t, T', L, E, ce, h0, X', hL, e1, e2, hq, hce, hcv, hcl, st⟩
  · obtain ⟨⟨w', hw, ho⟩, -⟩ := hq
    cases hw
  · obtain ⟨⟨ci', r, hv, hr1, rfl⟩, hW, hF⟩ := hq
    cases hv
    obtain ⟨z1, z2, z3⟩ := vx_keep h0 e1 hS (fun q _ h => h) (fun q h => h) hL hF
    obtain ⟨t2, a1, b1⟩ := kk q ce r T'.heap (locs ++ L) hr1 (by rw [e1]; exact hW) z3 (by rw [e1]; exact hce) hcv hcl T' rfl X'
    exact ⟨t2, st.trans a1, b1⟩
theorem mc_good {l : List Jvm.Cond} (h : ∀ w ∈ l, w ∈ mt_g) : GoodIn mt_g l := fun w hw => ⟨h w hw, good_of_word (List.mem_filter.mp (h w hw)).2⟩
theorem mc_need_g {i : Instr} (hI : mm_okI own mn N cc (pc, i, nx, ax) = true) {l : List (Nat × Jvm.Cond)} (hn : mm_need own N i ax = some l) : ∀ q ∈ l, mm_isN q.2 = false → q.2 ∈ mt_g := by
  intro q hq hf
  unfold mm_okI at hI
  simp only [Bool.and_eq_true] at hI
  obtain ⟨-, h2, -⟩ := hI
  rw [hn] at h2
  have h3 := List.all_eq_true.mp h2 q hq
  rw [Bool.and_eq_true, hf, Bool.or_false] at h3
  exact List.mem_filter.mpr ⟨List.mem_of_getElem? (of_decide_eq_true h3.2), h3.1⟩
/-- the method table is right -/
def mm_Yok (N : Nat → Option mm_N) (P : Nat → Option mm_M) (hh : Nat → List (Nat × Nat × Nat × Nat)) : Prop := ∀ j y, N j = some y → ∃ M, P j = some M ∧ (∀ w ∈ mm_wsY y M.2.1 (hh j), w ∈ mt_g) ∧ plainName y.1.cls = true ∧ (y.1.cls ≠ "java/lang/invoke/MethodHandle" ∧ y.1.cls ≠ "java/lang/invoke/VarHandle") ∧ M.2.1 ≤ 70
/-- the callee's contract -/
def mm_Cc (l : Launch) (G : mm_G) (X : mm_X) (N : Nat → Option mm_N) (P : Nat → Option mm_M) (hh : Nat → List (Nat × Nat × Nat × Nat)) (d : Nat) (callee : Nat → List Value → mm_H → Option (mm_V × mm_H)) : Prop := ∀ j as h v h' y M, callee j as h = some (v, h') → N j = some y → P j = some M → mm_Ct l G X y M.2.1 (hh j) d as h v h'
theorem mc_pre {as : List Value} (hF : mm_Fx p s m args c cc own G X) (hG : G.1 ≤ s.heap.size) (hW : mm_W G h H) (hS : va_S (mm_Ar G) s.heap H locs) : ∀ U : State, U.heap = H → s.WarmedH U.vm → mm_Pc G X as h (as.map (mm_dn G)).toArray U := by
  intro U hU hWm
  exact ⟨rfl, by rw [hU]; exact hW, hF.2.2.2.2.1.to hS hU hWm, by rw [hU]; exact Nat.le_trans hG hS.1⟩
theorem mc_recv (hX : mm_Xok X) (hF : mm_Fx p s m args c cc own G X) (hW : mm_W G h H) (hS : va_S (mm_Ar G) s.heap H locs) {o : Option Value} {ci : Nat} (hr : mm_recv X h o ci = true) {q : String × List (String × String × String × Bool)} (hq : mm_cls[ci]? = some q) : ∃ a b, o = some (.ref a) ∧ mm_ad G a = some b ∧ ∃ cellB : Cell, H[b]? = some cellB ∧ cellB.vm.isStatics = false ∧ s.vm.findClass q.1 = some cellB.cls := by
  unfold mm_recv at hr
  split at hr
  · rename_i a
    split at hr
    · rename_i fs ho
      have ho := mm_obj_eq ho
      by_cases ha : 64 ≤ a
      · rw [mm_rd_own ha] at ho
        refine ⟨a, G.1 + (a - 64), rfl, by unfold mm_ad; rw [if_neg (Nat.not_lt.mpr ha)], ?_⟩
        exact va_recv (tys := mm_tys G) hF.2.2.2.2.1.1 hW.1 (mm_cl_get hq) (mm_own_at ho)
      · rw [mm_rd_ext ha] at ho
        obtain ⟨b, r, e1, e2, e3, -⟩ := hF.2.2.2.2.1.2.2.2.1 a _ (hX.1 _ _ ho) ho
        cases hq.symm.trans e2
        obtain ⟨cell, h1, h2, h3, -⟩ := e3.kept hS.2.1
        exact ⟨a, b, rfl, e1, cell, h1, h2, h3⟩
    · cases hr
  · cases hr
theorem mc_split {n : Nat} {v : Value} (hn : n ≤ st.length) (hv : st[n - 1]? = some v) (h0 : 0 < n) : (st.take n).reverse = v :: (st.take (n - 1)).reverse ∧ st = st.take (n - 1) ++ v :: st.drop n := by
  obtain ⟨k, rfl⟩ : ∃ k, n = k + 1 := ⟨n - 1, by omega⟩
  rw [Nat.add_sub_cancel] at hv ⊢
  have h1 : st.take (k + 1) = st.take k ++ [v] := by
    rw [List.take_add_one, hv]; rfl
  refine ⟨by rw [h1]; simp, ?_⟩
  have h2 := (List.take_append_drop (k + 1) st).symm
  rw [h1, List.append_assoc] at h2
  exact h2
theorem mc_call {as r : List Value} {j : Nat} {nx : Nat} (hs : mm_call X h nx L st ax = some (.inr (.inl (j, as, r)))) : ∃ kd n t, ax = kd :: j :: n :: t ∧ n ≤ st.length ∧ st.length ≤ n + 4 ∧ as = (st.take n).reverse ∧ r = st.drop n ∧
    ((∃ ci t', t = ci :: t' ∧ (kd = 0 ∨ kd = 5 ∨ kd = 3 ∨ kd = 4) ∧ mm_recv X h (st[n - 1]?) ci = true) ∨ ((kd = 2 ∨ kd = 7) ∧ mm_recv0 (st[n - 1]?) = true) ∨ (kd = 1 ∨ kd = 6 ∨ kd = 8)) := by
  unfold mm_call at hs
  split at hs
  · rename_i kd j' n t
    split at hs
    · cases hs
    · rename_i hb
      rw [Bool.and_eq_true, Nat.ble_eq, Nat.ble_eq] at hb
      split at hs
      · cases hs
      all_goals first
        | (split at hs
           · rename_i hr
             cases hs
             exact ⟨_, _, _, rfl, hb.1, hb.2, rfl, rfl, Or.inl ⟨_, _, rfl, by simp, hr⟩⟩
           · cases hs)
        | (split at hs
           · rename_i hr
             cases hs
             exact ⟨_, _, _, rfl, hb.1, hb.2, rfl, rfl, Or.inr (Or.inl ⟨by simp, hr⟩)⟩
           · cases hs)
        | (cases hs
           exact ⟨_, _, _, rfl, hb.1, hb.2, rfl, rfl, Or.inr (Or.inr (by simp))⟩)
        | cases hs
  · cases hs
theorem mc_wsN {y : mm_N} {n : Nat} {hh : List (Nat × Nat × Nat × Nat)} (h : y.2.2.2 = false) : mm_wsY y n hh = .code y.1 y.2.1 n y.2.2.1 :: mt_g := by unfold mm_wsY; rw [h]
theorem mc_wsW {y : mm_N} {n : Nat} {hh : List (Nat × Nat × Nat × Nat)} (h : y.2.2.2 = true) : mm_wsY y n hh = .codeWith y.1 y.2.1 n y.2.2.1 hh :: mt_g := by unfold mm_wsY; rw [h]
theorem need_iv {x : Nat} {lw : List (Nat × Jvm.Cond)} (hn : mm_need own N (.invokevirtual x) ax = some lw) : (∃ j n ci p q r u y c, ax = [0, j, n, ci, p, q, r, u] ∧ N j = some y ∧ mm_cls[ci]? = some c ∧ y.1.cls = c.1 ∧ lw = [(p, .methodLink own x y.1), (q, .instanceMethod y.1), (r, .selects y.1.cls y.1 y.1), (u, .initialized y.1.cls)]) ∨
    (∃ j n ci p q r u hx y c, ax = [5, j, n, ci, p, q, r, u, hx] ∧ N j = some y ∧ mm_cls[ci]? = some c ∧ y.1.cls = c.1 ∧ lw = [(p, .methodLinkNest own x y.1 (mm_str hx)), (q, .instanceMethod y.1), (r, .selects y.1.cls y.1 y.1), (u, .initialized y.1.cls)]) ∨
    (∃ j n p q r u v ox cx y, ax = [3, j, n, 1, p, q, r, u, v, ox, cx] ∧ N j = some y ∧ mm_str ox = y.1.cls ∧ lw = [(p, .methodLink own x ⟨mm_str ox, y.1.name, y.1.desc⟩), (q, .sameMethod (mm_str ox) (mm_str ox) y.1.name y.1.desc), (r, .selects "java/lang/StringBuilder" ⟨mm_str ox, y.1.name, y.1.desc⟩ y.1), (u, .instanceMethod y.1), (v, .initialized y.1.cls)]) := by
  simp only [mm_need] at hn
  split at hn
  · split at hn
    · rename_i hy hc
      split at hn
      · rename_i he
        cases hn
        exact Or.inl ⟨_, _, _, _, _, _, _, _, _, rfl, hy, hc, he, rfl⟩
      · cases hn
    · cases hn
  · split at hn
    · rename_i hy hc
      split at hn
      · rename_i he
        cases hn
        exact Or.inr (Or.inl ⟨_, _, _, _, _, _, _, _, _, _, rfl, hy, hc, he, rfl⟩)
      · cases hn
    · cases hn
  · split at hn
    · rename_i hy
      split at hn
      · cases hn
      · rename_i he
        cases hn
        exact Or.inr (Or.inr ⟨_, _, _, _, _, _, _, _, _, _, rfl, hy, Decidable.not_not.mp he, rfl⟩)
    · cases hn
  · cases hn
theorem need_is {x : Nat} {lw : List (Nat × Jvm.Cond)} (hn : mm_need own N (.invokestatic x) ax = some lw) : (∃ kd j n p q r y, ax = [kd, j, n, p, q, r] ∧ (kd = 1 ∨ kd = 8) ∧ N j = some y ∧ lw = [(p, .methodLink own x y.1), (q, .static y.1), (r, .initialized y.1.cls)]) ∨
    (∃ j n p q r hx y, ax = [6, j, n, p, q, r, hx] ∧ N j = some y ∧ lw = [(p, .methodLinkNest own x y.1 (mm_str hx)), (q, .static y.1), (r, .initialized y.1.cls)]) ∨ ∃ kd p, (kd = 10 ∨ kd = 11 ∨ kd = 12) ∧ ax = [kd, p] := by
  simp only [mm_need] at hn
  split at hn
  · split at hn
    · rename_i hy
      cases hn
      exact Or.inl ⟨_, _, _, _, _, _, _, rfl, Or.inl rfl, hy, rfl⟩
    · cases hn
  · split at hn
    · rename_i hy
      cases hn
      exact Or.inl ⟨_, _, _, _, _, _, _, rfl, Or.inr rfl, hy, rfl⟩
    · cases hn
  · split at hn
    · rename_i hy
      cases hn
      exact Or.inr (Or.inl ⟨_, _, _, _, _, _, _, rfl, hy, rfl⟩)
    · cases hn
  · exact Or.inr (Or.inr ⟨_, _, Or.inl rfl, rfl⟩)
  · exact Or.inr (Or.inr ⟨_, _, Or.inr (Or.inl rfl), rfl⟩)
  · exact Or.inr (Or.inr ⟨_, _, Or.inr (Or.inr rfl), rfl⟩)
  · cases hn
theorem need_ip {x : Nat} {lw : List (Nat × Jvm.Cond)} (hn : mm_need own N (.invokespecial x) ax = some lw) : (∃ j n p q r u v y, ax = [4, j, n, 1, p, q, r, u, v] ∧ N j = some y ∧ y.1.name ≠ "<init>" ∧ lw = [(p, .methodLink own x y.1), (q, .sameMethod y.1.cls y.1.cls y.1.name y.1.desc), (r, .superclass own y.1.cls), (u, .instanceMethod y.1), (v, .initialized y.1.cls)]) ∨
    (∃ j n p q r y, ax = [2, j, n, p, q, r] ∧ N j = some y ∧ (y.1.name = "<init>" ∧ y.2.2.1 = none) ∧ lw = [(p, .methodLink own x y.1), (q, .instanceMethod y.1), (r, .initialized y.1.cls)]) ∨
    (∃ j n p q r hx y, ax = [7, j, n, p, q, r, hx] ∧ N j = some y ∧ (y.1.name = "<init>" ∧ y.2.2.1 = none) ∧ lw = [(p, .methodLinkNest own x y.1 (mm_str hx)), (q, .instanceMethod y.1), (r, .initialized y.1.cls)]) ∨ ∃ p, ax = [9, p] := by
  simp only [mm_need] at hn
  split at hn
  · split at hn
    · rename_i hy
      split at hn
      · cases hn
      · rename_i he
        cases hn
        exact Or.inl ⟨_, _, _, _, _, _, _, _, rfl, hy, he, rfl⟩
    · cases hn
  · split at hn
    · rename_i hy
      split at hn
      · rename_i he
        cases hn
        exact Or.inr (Or.inl ⟨_, _, _, _, _, _, rfl, hy, he, rfl⟩)
      · cases hn
    · cases hn
  · split at hn
    · rename_i hy
      split at hn
      · rename_i he
        cases hn
        exact Or.inr (Or.inr (Or.inl ⟨_, _, _, _, _, _, _, rfl, hy, he, rfl⟩))
      · cases hn
    · cases hn
  · exact Or.inr (Or.inr (Or.inr ⟨_, rfl⟩))
  · cases hn
theorem mc_stack {v : Value} {A B : List Value} (hst : st = A ++ v :: B) : st.map (mm_dn G) = (A.reverse.map (mm_dn G)).reverse ++ mm_dn G v :: B.map (mm_dn G) := by
  rw [hst]; simp
theorem mc_stackS {n : Nat} : st.map (mm_dn G) = ((st.take n).reverse.map (mm_dn G)).reverse ++ (st.drop n).map (mm_dn G) := by
  rw [← List.map_reverse, List.reverse_reverse, ← List.map_append, List.take_append_drop]
theorem mc_par {desc : String} {n : Nat} (h : (parseMethodDescriptor desc).map (fun g => g.parameters.length + 1) = some n) : 0 < n ∧ (parseMethodDescriptor desc).map (fun d => d.parameters.length) = some (n - 1) := by
  cases hs : parseMethodDescriptor desc with
  | none => rw [hs] at h; cases h
  | some sg =>
    rw [hs] at h
    have h : sg.parameters.length + 1 = n := Option.some.inj h
    subst h
    exact ⟨Nat.succ_pos _, rfl⟩
theorem mc_run (hX : mm_Xok X) {P : Nat → Option mm_M} {hh : Nat → List (Nat × Nat × Nat × Nat)} {d : Nat} {callee : Nat → List Value → mm_H → Option (mm_V × mm_H)} (hY : mm_Yok N P hh) (hCc : mm_Cc l G X N P hh d callee) (hF : mm_Fx p s m args c cc own G X) {i : Instr} (hi : (∃ x, i = .invokevirtual x) ∨ (∃ x, i = .invokestatic x) ∨ ∃ x, i = .invokespecial x) (hI : mm_okI own mn N cc (pc, i, nx, ax) = true) (hG : G.1 ≤ s.heap.size) (hW : mm_W G h H) (hS : va_S (mm_Ar G) s.heap H locs) (hl : mm_LH G ls L) (hml : c.maxLocals = L.length) (hRf : d + 9 ≤ R.frames) (hRl : 100 * d + 300 ≤ R.locals)
    {j : Nat} {as r : List Value} (hs : mm_call X h nx L st ax = some (.inr (.inl (j, as, r)))) {v : mm_V} (hv : callee j as h = some (v, h')) (hle : mm_le h h') (hR : cells + (h'.length - h.length) ≤ R.cells ∧ slots + (mm_sum h' - mm_sum h) ≤ R.slots) :
    vx_Run p l e R s m args below meth c H locs cells slots (h'.length - h.length) (mm_sum h' - mm_sum h) (F0 m pc ls (st.map (mm_dn G))) (r.map (mm_dn G)) (mm_Qc G v h' (as.map (mm_dn G)).toArray) (mm_XC G v h') (mm_Ar G) := by
  obtain ⟨hd, hn⟩ := mm_okI_dec hI (fun a b c d q => by rcases hi with ⟨x, rfl⟩ | ⟨x, rfl⟩ | ⟨x, rfl⟩ <;> cases q)
  obtain ⟨lw, hnd⟩ := mm_okI_need hI
  have hw := mm_need_wd hF hI hnd
  have hg := mc_need_g hI hnd
  have hr := mm_okI_rest hI
  obtain ⟨kd, n, t, rfl, c1, c2, rfl, rfl, hk⟩ := mc_call hs
  have hF0 := hF
  obtain ⟨hx, hb, hown, hts, hE, hXf⟩ := hF
  have S : CallFix p m c cc L.length s args mt_g own := ⟨hx, hb, hml, hown, hts⟩
  have hcat : 2 * (F0 m pc ls (st.map (mm_dn G))).monitorRoom + (((st.drop n).map (mm_dn G)).map fun v => v.category).sum ≤ 8 := by
    have h8 : (((st.drop n).map (mm_dn G)).map fun v => v.category).sum ≤ 8 := by
      rw [mm_map_cat]; exact mm_rest8 _ (by rw [List.length_drop]; omega)
    show 0 + _ ≤ 8
    omega
  have hpre := mc_pre (as := (st.take n).reverse) hF0 hG hW hS
  have hroom : ∀ k : Nat, k ≤ 70 → (mm_rm d (h'.length - h.length) (mm_sum h' - mm_sum h)).frames + 1 ≤ R.frames ∧ 8 + (k + 11) + (mm_rm d (h'.length - h.length) (mm_sum h' - mm_sum h)).locals ≤ R.locals := fun k hk => ⟨by show d + 8 + 1 ≤ _; omega, by show 8 + (k + 11) + (100 * d + 200) ≤ _; omega⟩
  have hlen : ((st.take (n - 1)).reverse.map (mm_dn G)).length = n - 1 := by
    rw [List.length_map, List.length_reverse, List.length_take]; omega
  have hlenS : ((st.take n).reverse.map (mm_dn G)).length = n := by
    rw [List.length_map, List.length_reverse, List.length_take]; omega
  rcases hi with ⟨x, rfl⟩ | ⟨x, rfl⟩ | ⟨x, rfl⟩
  · rcases need_iv hnd with ⟨j', n', ci, p0, q0, r0, u0, y, c0, e, hy, hc0, hcls, rfl⟩ | ⟨j', n', ci, p0, q0, r0, u0, hx0, y, c0, e, hy, hc0, hcls, rfl⟩ | ⟨j', n', p0, q0, r0, u0, v0, ox, cx, y, e, hy, hcls, rfl⟩
    · cases e
      simp only [mm_rest, hy, Bool.and_eq_true, decide_eq_true_eq, Bool.not_eq_true'] at hr
      obtain ⟨hp1, hcw⟩ := hr
      obtain ⟨hp0, hp1⟩ := mc_par hp1
      obtain ⟨M, hM, hws, hpn, hmh, h70⟩ := hY j y hy
      have hct := hCc j _ h v h' y M hv hy hM
      rcases hk with ⟨ci', t', e1, -, hrv⟩ | ⟨z | z, -⟩ | z | z | z
      · cases e1
        obtain ⟨a, b, g1, g2, hcell⟩ := mc_recv hX hF0 hW hS hrv hc0
        obtain ⟨s1, s2⟩ := mc_split c1 g1 hp0
        have hargs : (st.take n).reverse.map (mm_dn G) = .ref b :: (st.take (n - 1)).reverse.map (mm_dn G) := by rw [s1, List.map_cons, mm_dn_some g2]
        rw [hargs] at hpre
        have cw := cwV (R := R) (C := y.1.cls) (own := own) (index := x) (rm := mm_rm d (h'.length - h.length) (mm_sum h' - mm_sum h)) (n - 1) hts (mc_good (l := wsV own x y.1.cls y.1 (mm_wsY y M.2.1 (hh j))) (fun w hw9 => by
          rcases List.mem_append.mp hw9 with z | z
          · have z' : w = .methodLink own x y.1 ∨ w = .instanceMethod y.1 ∨ w = .selects y.1.cls y.1 y.1 ∨ w = .initialized y.1.cls := by simpa using z
            rcases z' with rfl | rfl | rfl | rfl
            · exact hg _ List.mem_cons_self rfl
            · exact hg _ (List.mem_cons_of_mem _ List.mem_cons_self) rfl
            · exact hg _ (List.mem_cons_of_mem _ (List.mem_cons_of_mem _ List.mem_cons_self)) rfl
            · exact hg _ (List.mem_cons_of_mem _ (List.mem_cons_of_mem _ (List.mem_cons_of_mem _ List.mem_cons_self))) rfl
          · exact hws w z)) (mc_wsN hcw) rfl rfl ⟨rfl, hmh.1, hmh.2, hp1⟩ (hroom _ h70)
        have st9 := mc_stack (G := G) s2
        rw [mm_dn_some g2] at st9
        exact vx_runV (As := (st.take (n - 1)).reverse.map (mm_dn G)) (b := b) (g := F0 m pc ls (st.map (mm_dn G))) S hct cw ⟨mm_Pc_blind, by rw [hcls]; exact hcell, hpre⟩ rfl hlen hl.1 st9 hcat hd hR
      all_goals cases z
    · cases e
      simp only [mm_rest, hy, Bool.and_eq_true, decide_eq_true_eq, Bool.not_eq_true'] at hr
      obtain ⟨hp1, hcw⟩ := hr
      obtain ⟨hp0, hp1⟩ := mc_par hp1
      obtain ⟨M, hM, hws, hpn, hmh, h70⟩ := hY j y hy
      have hct := hCc j _ h v h' y M hv hy hM
      rcases hk with ⟨ci', t', e1, -, hrv⟩ | ⟨z | z, -⟩ | z | z | z
      · cases e1
        obtain ⟨a, b, g1, g2, hcell⟩ := mc_recv hX hF0 hW hS hrv hc0
        obtain ⟨s1, s2⟩ := mc_split c1 g1 hp0
        have hargs : (st.take n).reverse.map (mm_dn G) = .ref b :: (st.take (n - 1)).reverse.map (mm_dn G) := by rw [s1, List.map_cons, mm_dn_some g2]
        rw [hargs] at hpre
        have w1 := hw _ (List.mem_cons_of_mem _ List.mem_cons_self)
        have w2 := hw _ (List.mem_cons_of_mem _ (List.mem_cons_of_mem _ List.mem_cons_self))
        have w3 := hw _ (List.mem_cons_of_mem _ (List.mem_cons_of_mem _ (List.mem_cons_of_mem _ List.mem_cons_self)))
        have cw := va_cnB (R := R) (own := own) (index := x) (host := mm_str hx0) (rm := mm_rm d (h'.length - h.length) (mm_sum h' - mm_sum h)) (n - 1) hts (mc_good (l := mm_wsY y M.2.1 (hh j)) hws) (mc_wsN hcw) rfl rfl (va_tabs rfl rfl (hw _ List.mem_cons_self)) w3 ⟨hmh.1, hmh.2, hp1⟩ (hroom _ h70)
        have st9 := mc_stack (G := G) s2
        rw [mm_dn_some g2] at st9
        exact vx_runVN (C := y.1.cls) (As := (st.take (n - 1)).reverse.map (mm_dn G)) (b := b) (g := F0 m pc ls (st.map (mm_dn G))) S hct ⟨cw, w1, w2⟩ ⟨mm_Pc_blind, by rw [hcls]; exact hcell, hpre⟩ rfl hlen hl.1 st9 hcat hd hR
      all_goals cases z
    · cases e
      simp only [mm_rest, hy, Bool.and_eq_true, decide_eq_true_eq, Bool.not_eq_true'] at hr
      obtain ⟨hp1, hcw⟩ := hr
      obtain ⟨hp0, hp1⟩ := mc_par hp1
      obtain ⟨M, hM, hws, hpn, hmh, h70⟩ := hY j y hy
      have hct := hCc j _ h v h' y M hv hy hM
      rcases hk with ⟨ci', t', e1, -, hrv⟩ | ⟨z | z, -⟩ | z | z | z
      · cases e1
        obtain ⟨qc, k1, k2⟩ : ∃ qc, mm_cls[1]? = some qc ∧ qc.1 = "java/lang/StringBuilder" := ⟨_, rfl, rfl⟩
        obtain ⟨a, b, g1, g2, hcell⟩ := mc_recv hX hF0 hW hS hrv k1
        rw [k2] at hcell
        obtain ⟨s1, s2⟩ := mc_split c1 g1 hp0
        have hargs : (st.take n).reverse.map (mm_dn G) = .ref b :: (st.take (n - 1)).reverse.map (mm_dn G) := by rw [s1, List.map_cons, mm_dn_some g2]
        rw [hargs] at hpre
        have cw := va_cwU (R := R) (C := "java/lang/StringBuilder") (owner := mm_str ox) (x := ⟨mm_str ox, y.1.name, y.1.desc⟩) (own := own) (index := x) (rm := mm_rm d (h'.length - h.length) (mm_sum h' - mm_sum h)) (n - 1) hts (mc_good (l := va_wsU own x "java/lang/StringBuilder" (mm_str ox) ⟨mm_str ox, y.1.name, y.1.desc⟩ y.1 (mm_wsY y M.2.1 (hh j))) (fun w hw9 => by
          rcases List.mem_append.mp hw9 with z | z
          · have z' : w = .methodLink own x ⟨mm_str ox, y.1.name, y.1.desc⟩ ∨ w = .sameMethod (mm_str ox) (mm_str ox) y.1.name y.1.desc ∨ w = .selects "java/lang/StringBuilder" ⟨mm_str ox, y.1.name, y.1.desc⟩ y.1 ∨ w = .instanceMethod y.1 ∨ w = .initialized y.1.cls := by simpa using z
            rcases z' with rfl | rfl | rfl | rfl | rfl
            · exact hg _ List.mem_cons_self rfl
            · exact hg _ (List.mem_cons_of_mem _ List.mem_cons_self) rfl
            · exact hg _ (List.mem_cons_of_mem _ (List.mem_cons_of_mem _ List.mem_cons_self)) rfl
            · exact hg _ (List.mem_cons_of_mem _ (List.mem_cons_of_mem _ (List.mem_cons_of_mem _ List.mem_cons_self))) rfl
            · exact hg _ (List.mem_cons_of_mem _ (List.mem_cons_of_mem _ (List.mem_cons_of_mem _ (List.mem_cons_of_mem _ List.mem_cons_self)))) rfl
          · exact hws w z)) (mc_wsN hcw) rfl rfl (by rw [hcls]) ⟨by rw [hcls]; exact hmh.1, by rw [hcls]; exact hmh.2, hp1⟩ (hroom _ h70)
        have st9 := mc_stack (G := G) s2
        rw [mm_dn_some g2] at st9
        exact vx_runU (As := (st.take (n - 1)).reverse.map (mm_dn G)) (b := b) (g := F0 m pc ls (st.map (mm_dn G))) S hct cw ⟨mm_Pc_blind, hcell, hpre⟩ rfl hlen hl.1 st9 hcat hd hR
      all_goals cases z
  · rcases need_is hnd with ⟨kd', j', n', p0, q0, r0, y, e, hkd, hy, rfl⟩ | ⟨j', n', p0, q0, r0, hx0, y, e, hy, rfl⟩ | ⟨kd9, p0, -, e⟩
    · cases e
      have hM' := hY j y hy
      obtain ⟨M, hM, hws, hpn, hmh, h70⟩ := hM'
      have hct := hCc j _ h v h' y M hv hy hM
      have hr2 : decide ((parseMethodDescriptor y.1.desc).map (fun g => g.parameters.length) = some n) = true ∧ (y.2.2.2 == (kd == 8)) = true := by
        rcases hkd with rfl | rfl
        · simp only [mm_rest, hy] at hr; exact Bool.and_eq_true_iff.mp hr
        · simp only [mm_rest, hy] at hr; exact Bool.and_eq_true_iff.mp hr
      have hp1 := of_decide_eq_true hr2.1
      have hgood : GoodIn mt_g (va_wsS own x y.1 (mm_wsY y M.2.1 (hh j))) := mc_good (fun w hw9 => by
          rcases List.mem_append.mp hw9 with z | z
          · have z' : w = .methodLink own x y.1 ∨ w = .static y.1 ∨ w = .initialized y.1.cls := by simpa using z
            rcases z' with rfl | rfl | rfl
            · exact hg _ List.mem_cons_self rfl
            · exact hg _ (List.mem_cons_of_mem _ List.mem_cons_self) rfl
            · exact hg _ (List.mem_cons_of_mem _ (List.mem_cons_of_mem _ List.mem_cons_self)) rfl
          · exact hws w z)
      rcases hkd with rfl | rfl
      · have hcw : y.2.2.2 = false := by have := hr2.2; revert this; cases y.2.2.2 <;> decide
        have cw := va_cwS (R := R) (own := own) (index := x) (rm := mm_rm d (h'.length - h.length) (mm_sum h' - mm_sum h)) n hts hgood (mc_wsN hcw) rfl rfl ⟨hmh.1, hmh.2, hp1⟩ (hroom _ h70)
        exact vx_runS (As := (st.take n).reverse.map (mm_dn G)) (g := F0 m pc ls (st.map (mm_dn G))) S hct cw ⟨mm_Pc_blind, hpre⟩ rfl hlenS hl.1 mc_stackS hcat hd hR
      · have hcw : y.2.2.2 = true := by have := hr2.2; revert this; cases y.2.2.2 <;> decide
        have cw := vx_cwSW (R := R) (own := own) (index := x) (rm := mm_rm d (h'.length - h.length) (mm_sum h' - mm_sum h)) n hts hgood (mc_wsW hcw) rfl rfl ⟨hmh.1, hmh.2, hp1⟩ (hroom _ h70)
        exact vx_runSX (As := (st.take n).reverse.map (mm_dn G)) (g := F0 m pc ls (st.map (mm_dn G))) S hct cw ⟨mm_Pc_blind, hpre⟩ rfl hlenS hl.1 mc_stackS hcat hd hR
    · cases e
      obtain ⟨M, hM, hws, hpn, hmh, h70⟩ := hY j y hy
      have hct := hCc j _ h v h' y M hv hy hM
      simp only [mm_rest, hy, Bool.and_eq_true, decide_eq_true_eq] at hr
      have hcw : y.2.2.2 = false := by have := hr.2; revert this; cases y.2.2.2 <;> decide
      have w1 := hw _ (List.mem_cons_of_mem _ List.mem_cons_self)
      have w2 := hw _ (List.mem_cons_of_mem _ (List.mem_cons_of_mem _ List.mem_cons_self))
      have cw := va_cnB (R := R) (own := own) (index := x) (host := mm_str hx0) (rm := mm_rm d (h'.length - h.length) (mm_sum h' - mm_sum h)) n hts (mc_good (l := mm_wsY y M.2.1 (hh j)) hws) (mc_wsN hcw) rfl rfl (va_tabs rfl rfl (hw _ List.mem_cons_self)) w2 ⟨hmh.1, hmh.2, hr.1⟩ (hroom _ h70)
      exact vx_runSN (As := (st.take n).reverse.map (mm_dn G)) (g := F0 m pc ls (st.map (mm_dn G))) S hct ⟨cw, w1, trivial⟩ ⟨mm_Pc_blind, hpre⟩ rfl hlenS hl.1 mc_stackS hcat hd hR
    · cases e
  · rcases need_ip hnd with ⟨j', n', p0, q0, r0, u0, v0, y, e, hy, hni, rfl⟩ | ⟨j', n', p0, q0, r0, y, e, hy, hini, rfl⟩ | ⟨j', n', p0, q0, r0, hx0, y, e, hy, hini, rfl⟩ | ⟨p0, e⟩
    · cases e
      simp only [mm_rest, hy, Bool.and_eq_true, decide_eq_true_eq, Bool.not_eq_true'] at hr
      obtain ⟨hp1, hcw⟩ := hr
      obtain ⟨hp0, hp1⟩ := mc_par hp1
      obtain ⟨M, hM, hws, hpn, hmh, h70⟩ := hY j y hy
      have hct := hCc j _ h v h' y M hv hy hM
      rcases hk with ⟨ci', t', e1, -, hrv⟩ | ⟨z | z, -⟩ | z | z | z
      · cases e1
        obtain ⟨qc, k1, k2⟩ : ∃ qc, mm_cls[1]? = some qc ∧ qc.1 = "java/lang/StringBuilder" := ⟨_, rfl, rfl⟩
        obtain ⟨a, b, g1, g2, hcell⟩ := mc_recv hX hF0 hW hS hrv k1
        have hat := (hE.1.1 1 _ (mm_cl_get k1)).2
        obtain ⟨s1, s2⟩ := mc_split c1 g1 hp0
        have hargs : (st.take n).reverse.map (mm_dn G) = .ref b :: (st.take (n - 1)).reverse.map (mm_dn G) := by rw [s1, List.map_cons, mm_dn_some g2]
        rw [hargs] at hpre
        have cw := va_cwSU (R := R) (own := own) (index := x) (rm := mm_rm d (h'.length - h.length) (mm_sum h' - mm_sum h)) (n - 1) hts (mc_good (l := va_wsSU own x y.1 (mm_wsY y M.2.1 (hh j))) (fun w hw9 => by
          rcases List.mem_append.mp hw9 with z | z
          · have z' : w = .methodLink own x y.1 ∨ w = .sameMethod y.1.cls y.1.cls y.1.name y.1.desc ∨ w = .superclass own y.1.cls ∨ w = .instanceMethod y.1 ∨ w = .initialized y.1.cls := by simpa using z
            rcases z' with rfl | rfl | rfl | rfl | rfl
            · exact hg _ List.mem_cons_self rfl
            · exact hg _ (List.mem_cons_of_mem _ List.mem_cons_self) rfl
            · exact hg _ (List.mem_cons_of_mem _ (List.mem_cons_of_mem _ List.mem_cons_self)) rfl
            · exact hg _ (List.mem_cons_of_mem _ (List.mem_cons_of_mem _ (List.mem_cons_of_mem _ List.mem_cons_self))) rfl
            · exact hg _ (List.mem_cons_of_mem _ (List.mem_cons_of_mem _ (List.mem_cons_of_mem _ (List.mem_cons_of_mem _ List.mem_cons_self)))) rfl
          · exact hws w z)) (mc_wsN hcw) rfl rfl ⟨hni, hp1⟩ (hroom _ h70)
        have st9 := mc_stack (G := G) s2
        rw [mm_dn_some g2] at st9
        exact vx_runSU (As := (st.take (n - 1)).reverse.map (mm_dn G)) (b := b) (g := F0 m pc ls (st.map (mm_dn G))) hat S hct cw ⟨mm_Pc_blind, hcell, hpre⟩ rfl hlen hl.1 st9 hcat hd hR
      all_goals cases z
    · cases e
      simp only [mm_rest, hy, Bool.and_eq_true, decide_eq_true_eq, Bool.not_eq_true'] at hr
      obtain ⟨hp1, hcw⟩ := hr
      obtain ⟨hp0, hp1⟩ := mc_par hp1
      obtain ⟨M, hM, hws, hpn, hmh, h70⟩ := hY j y hy
      have hct := hCc j _ h v h' y M hv hy hM
      rcases hk with ⟨ci', t', e1, z, hrv⟩ | ⟨-, hrv⟩ | z
      · rcases z with z | z | z | z <;> cases z
      · obtain ⟨a, g1, ha⟩ : ∃ a, st[n - 1]? = some (.ref a) ∧ 64 ≤ a := by
          unfold mm_recv0 at hrv
          split at hrv
          · rename_i a hst9
            exact ⟨a, hst9, Nat.ble_eq.mp hrv⟩
          · cases hrv
        obtain ⟨s1, s2⟩ := mc_split c1 g1 hp0
        have hargs : (st.take n).reverse.map (mm_dn G) = .ref (G.1 + (a - 64)) :: (st.take (n - 1)).reverse.map (mm_dn G) := by rw [s1, List.map_cons, mm_dn_own ha]
        rw [hargs] at hpre
        have hw9 : mm_wsY y M.2.1 (hh j) = .code y.1 y.2.1 M.2.1 none :: mt_g := by rw [mc_wsN hcw, hini.2]
        have w0 := hw _ List.mem_cons_self
        have w1 := hw _ (List.mem_cons_of_mem _ List.mem_cons_self)
        have w2 := hw _ (List.mem_cons_of_mem _ (List.mem_cons_of_mem _ List.mem_cons_self))
        have st9 := mc_stack (G := G) s2
        rw [mm_dn_own ha] at st9
        have cw := cwI (R := R) (own := own) (index := x) (rm := mm_rm d (h'.length - h.length) (mm_sum h' - mm_sum h)) (n - 1) hts (mc_good (l := mm_wsY y M.2.1 (hh j)) hws) hw9 rfl rfl w2 w0 w1 hini.1 ⟨hmh.1, hmh.2, hp1⟩ (hroom _ h70)
        exact vx_runI (As := (st.take (n - 1)).reverse.map (mm_dn G)) (b := G.1 + (a - 64)) (g := F0 m pc ls (st.map (mm_dn G))) S hct cw ⟨mm_Pc_blind, hpre⟩ rfl hlen hl.1 st9 hcat hd hR
      · rcases z with z | z | z <;> cases z
    · cases e
      simp only [mm_rest, hy, Bool.and_eq_true, decide_eq_true_eq, Bool.not_eq_true'] at hr
      obtain ⟨hp1, hcw⟩ := hr
      obtain ⟨hp0, hp1⟩ := mc_par hp1
      obtain ⟨M, hM, hws, hpn, hmh, h70⟩ := hY j y hy
      have hct := hCc j _ h v h' y M hv hy hM
      rcases hk with ⟨ci', t', e1, z, hrv⟩ | ⟨-, hrv⟩ | z
      · rcases z with z | z | z | z <;> cases z
      · obtain ⟨a, g1, ha⟩ : ∃ a, st[n - 1]? = some (.ref a) ∧ 64 ≤ a := by
          unfold mm_recv0 at hrv
          split at hrv
          · rename_i a hst9
            exact ⟨a, hst9, Nat.ble_eq.mp hrv⟩
          · cases hrv
        obtain ⟨s1, s2⟩ := mc_split c1 g1 hp0
        have hargs : (st.take n).reverse.map (mm_dn G) = .ref (G.1 + (a - 64)) :: (st.take (n - 1)).reverse.map (mm_dn G) := by rw [s1, List.map_cons, mm_dn_own ha]
        rw [hargs] at hpre
        have hw9 : mm_wsY y M.2.1 (hh j) = .code y.1 y.2.1 M.2.1 none :: mt_g := by rw [mc_wsN hcw, hini.2]
        have w0 := hw _ List.mem_cons_self
        have w1 := hw _ (List.mem_cons_of_mem _ List.mem_cons_self)
        have w2 := hw _ (List.mem_cons_of_mem _ (List.mem_cons_of_mem _ List.mem_cons_self))
        have st9 := mc_stack (G := G) s2
        rw [mm_dn_own ha] at st9
        have cw := va_cnB (R := R) (own := own) (index := x) (host := mm_str hx0) (rm := mm_rm d (h'.length - h.length) (mm_sum h' - mm_sum h)) (n - 1) hts (mc_good (l := mm_wsY y M.2.1 (hh j)) hws) hw9 rfl rfl (va_tabs rfl rfl w0) w2 ⟨hmh.1, hmh.2, hp1⟩ (hroom _ h70)
        exact vx_runIN (As := (st.take (n - 1)).reverse.map (mm_dn G)) (b := G.1 + (a - 64)) (g := F0 m pc ls (st.map (mm_dn G))) S hct ⟨cw, hini.1, w1⟩ ⟨mm_Pc_blind, hpre⟩ rfl hlen hl.1 st9 hcat hd hR
      · rcases z with z | z | z <;> cases z
    · cases e
end MC
end
section
/-! ===== a throw of a new exception, its cell said exactly (follows the kit's vx_throw0); the walk of a whole body ===== -/
section MT
variable {p : Program} {l : Launch} {e : Env} {R : Room} {s : State} {m : MethodId} {args : Array Value} {below : List Frame} {meth : Method} {c : Code} {H : Heap} {locs : List Loc} {cells slots : Nat} {Q : State → Prop}
variable {mc ms : Nat} {free : Addr → Prop} {ls : Array Slot} {st0 rest : List Value}
variable {Qc : Array Value → State → Outcome → State → Prop} {XC : String → State → State → Prop}
theorem mx_throw0 {cc : ByteArray} {pc : Nat} (hexec : p.tables.exec = Jvm.exec) (hb : c.code = cc) (hl : l.stackTraces = false) {own cls : String} {names : List String} {ik ic mc ms : Nat} {A : Nat → Prop}
    (hown : s.vm.findClass own = some m.cls) (hcls : Bundle.fit cls = true) (hnames : ∀ n ∈ names, Bundle.fit n = true)
    (hk : (Cond.classLink own ik cls).before args s = true) (hini : (Cond.initialized cls).before args s = true) (hat : ∀ w ∈ vx_at0 own ic cls names, w.before args s = true)
    (hgood : ∀ w ∈ Cond.classLink own ik cls :: Cond.initialized cls :: vx_at0 own ic cls names, vx_ot w = true)
    (hU : vx_Zq Bundle.tN "UNASSIGNED_STACK" Bundle.steD A s s.heap) (hN : vx_Zq Bundle.tN "SUPPRESSED_SENTINEL" Bundle.listD A s s.heap) (hS : va_S A s.heap H locs) (hsize : ls.size = c.maxLocals)
    (d0 : decode cc pc = .ok (.new ik, 3)) (d3 : decode cc (pc + 3) = .ok (.dup, 1)) (d4 : decode cc (pc + 4) = .ok (.invokespecial ic, 3)) (d7 : decode cc (pc + 7) = .ok (.athrow, 1))
    (hout : ∀ x ∈ c.exceptionTable.toList, covers x (pc + 7) = false)
    (hRframes : names.length + 3 < R.frames) (hRlocals : (rest.map fun v => v.category).sum + (13 * (names.length + 1) + 42) ≤ R.locals) (hRcells : cells + 1 ≤ R.cells) (hRslots : slots + 6 ≤ R.slots) (hlocks : meth.locks = false)
    (hx : ∀ t : State, s.vm.Alike t.vm → t.heap.size = H.size + 1 → (∀ q : Nat, q < H.size → t.heap[q]? = H[q]?) → (∃ ce : Cell, t.heap[H.size]? = some ce ∧ ce.vm = .none ∧ s.vm.findClass cls = some ce.cls) → XC cls s t)
    (hf : ∀ z ∈ locs, free z.base) (hc : cells + 1 ≤ mc) (hs : slots + 6 ≤ ms) :
    W p l e R s m args below meth c H locs cells slots (vx_MQ below Qc XC args s mc ms free) (F0 m pc ls rest) := by
  intro T hT X
  have htr : e.platform.stackTraces = false := (show e.platform.stackTraces = l.stackTraces by rw [X.admits.platform]).trans hl
  have Y := vx_rebase X (R' := { frames := R.frames, locals := R.locals, cells := 1, slots := 6 }) (Nat.le_refl _) (Nat.le_refl _) hRcells hRslots
  obtain ⟨s', hA⟩ : ∃ z, z = (T.setVm s.vm).setFrames (.invoking m args :: below) := ⟨_, rfl⟩
  rw [← hA] at Y
  have hvm : s'.vm = s.vm := by rw [hA]; rfl
  have hhp : s'.heap = H := by rw [hA]; exact hT
  have hW0 : s.WarmedH s'.vm := by rw [hvm]; exact State.WarmedH.refl s
  have hat' : ∀ w ∈ vx_at0 own ic cls names, w.before args s' = true := fun w hw => vx_ot_at hW0 hvm.symm (hgood w (List.mem_cons_of_mem _ (List.mem_cons_of_mem _ hw))) (hat w hw)
  have hk' : (Cond.classLink own ik cls).before args s' = true := vx_ot_at hW0 hvm.symm (hgood _ List.mem_cons_self) hk
  have hini' : (Cond.initialized cls).before args s' = true := vx_ot_at hW0 hvm.symm (hgood _ (List.mem_cons_of_mem _ List.mem_cons_self)) hini
  have hU' : vx_Zq Bundle.tN "UNASSIGNED_STACK" Bundle.steD A s' s'.heap := by rw [hhp]; exact vx_Zq.moved hW0.alike (hU.kept hS.2.1)
  have hN' : vx_Zq Bundle.tN "SUPPRESSED_SENTINEL" Bundle.listD A s' s'.heap := by rw [hhp]; exact vx_Zq.moved hW0.alike (hN.kept hS.2.1)
  have h : ∀ w ∈ Bundle.ownAtoms0 own ic cls names, w.before args s' = true := vx_own hat' (vx_isRefq hU'.1) (vx_isRefq hN'.1) hU'.2.word hN'.2.word
  have hown' : s'.vm.findClass own = some m.cls := by rw [hvm]; exact hown
  have hins : (Cond.instantiable cls 6).before args s' = true := h _ (by simp [Bundle.ownAtoms0])
  obtain ⟨vm₁, cX, kX, hfX, hkX, -, -, X₁, st1⟩ := Y.newCold hexec (own := own) (C := cls) (index := ik) (n := 6) hown' hk' hins hini'
    (g := F0 m pc ls rest) rfl (by rw [hb]; exact d0) (Nat.le_refl _) (Nat.le_refl _)
  generalize hT1 : (T.setVm vm₁).pushCell { cls := cX, slots := kX.instanceTypes.map defaultValue, vm := .none } = T1 at X₁ st1
  have hcat : (Value.ref T.heap.size).category = 1 := rfl
  have hcellA : T1.heap[T.heap.size]? = some (freshCell cX kX) := by rw [← hT1]; exact State.heap_pushCell_size _ _
  have d3' : decode c.code (pc + 3) = .ok (.dup, 1) := by rw [hb]; exact d3
  obtain ⟨U, hsteps, hrun, hend, hW, hsame, ce, hce, hO⟩ := X₁.ctorThrow0 hexec htr (own := own) (cls := cls) (names := names) (ic := ic) hown' hcls hnames h (fun x hx => nomatch hx) hfX hkX hcellA (by rw [hhp, hT]; exact Nat.le_refl _)
    (g := { method := m, pc := pc + 4, locals := ls, stack := .ref T.heap.size :: .ref T.heap.size :: rest, locked := none }) rfl hsize rfl rfl (rest := rest) rfl
    (by rw [hb]; exact d4) (by rw [hb]; exact d7) hout hRframes (by simp only [List.map_cons, List.sum_cons, hcat]; omega) hlocks
  obtain ⟨f1, f2⟩ := vx_frame hsame
  rw [hhp] at f1 f2
  have hWs : s.WarmedH U.vm := State.WarmedH.trans hW0 hW
  have hcl : s.vm.findClass cls = some ce.cls := by
    have h9 := hO.cls
    rw [hvm] at h9
    exact h9
  have hall : s.sameButNew ({ U with vm := s.vm } : State) locs mc ms := by
    subst hA
    obtain ⟨e1, e2⟩ := hsame
    rw [State.setFrames_setFrames] at e1
    have h2 : (T.setVm s.vm).sameButNew ({ U with vm := s.vm } : State) [] (0 + 1) (0 + 6) := ⟨e1, e2⟩
    have h3 := X.same.trans h2
    rw [List.append_nil] at h3
    exact h3.mono hc hs
  have hsz9 : U.heap.size = H.size + 1 := by
    have g1 : U.heap.size ≤ s'.heap.size + 1 := hsame.2.2.1
    have g2 : T.heap.size < U.heap.size := (Array.getElem?_eq_some_iff.mp hce).1
    rw [hhp] at g1
    rw [hT] at g2
    omega
  refine ⟨U, ?_, .threw T.heap.size, hrun, hend, Or.inr ⟨T.heap.size, rfl, cls, ce, locs, hx U hWs.alike hsz9 (fun q hq => f2 q hq (fun z hz => nomatch hz)) ⟨ce, by rw [← hT]; exact hce, hO.vm, hcl⟩, hce, hO.vm, hcl, hWs, hall, hf⟩⟩
  refine st1 _ ?_
  show Steps p.tables e below (T1.setTop { method := m, pc := pc + 3, locals := ls, stack := .ref T.heap.size :: rest, locked := none }) _
  jvm_step X₁.here [X₁.here.top, hexec, d3', Value.category]
  exact hsteps
end MT
section MV
variable {p : Program} {l : Launch} {e : Env} {R : Room} {s : State} {m : MethodId} {args : Array Value} {below : List Frame} {meth : Method} {c : Code} {H : Heap} {locs : List Loc} {cells slots : Nat} {Q : State → Prop}
variable {cc : ByteArray} {pc : Nat} {ls : Array Slot} {G : mm_G} {X : mm_X} {h : mm_H} {L L' : mm_L} {st st' : List Value} {nx pc' : Nat} {ax : List Nat} {op : Option ((Nat × mm_C) ⊕ mm_C)} {own mn : String} {N : Nat → Option mm_N}
theorem mm_call_no {a : Nat × mm_L × List Value × Option ((Nat × mm_C) ⊕ mm_C)} (hs : mm_call X h nx L st ax = some (.inl a)) : False := by
  unfold mm_call at hs
  split at hs
  · split at hs
    · cases hs
    · split at hs
      · cases hs
      all_goals first
        | (split at hs <;> cases hs)
        | cases hs
  · cases hs
/-- every instruction that goes on in its own frame -/
theorem mm_mv (hX : mm_Xok X) (hC : mm_Cok) (hY : mm_Sys) (hF : mm_Fx p s m args c cc own G X) (hmn : meth.name = mn) (hml : c.maxLocals = L.length) (hc9 : cells ≤ R.cells ∧ slots ≤ R.slots) (hRf : 1 ≤ R.frames) (hRl : 200 ≤ R.locals) {i : Instr} (hI : mm_okI own mn N cc (pc, i, nx, ax) = true) (hG : G.1 ≤ s.heap.size) (hZ : s.heap.size + cells = G.1 + h.length) (hW : mm_W G h H) (hS : va_S (mm_Ar G) s.heap H locs) (hl : mm_LH G ls L)
    (hs : mm_stp X h L st (pc, i, nx, ax) = some (.inl (pc', L', st', op)))
    (hR : ∀ c', op = some (.inr c') → cells + 1 ≤ R.cells ∧ slots + mm_sl c' ≤ R.slots)
    (k0 : op = none → ∀ ls', mm_LH G ls' L' → W p l e R s m args below meth c H locs cells slots Q (F0 m pc' ls' (st'.map (mm_dn G))))
    (k1 : ∀ i c', op = some (.inl (i, c')) → L' = L → ∀ H' locs', mm_W G (h.set i c') H' → va_S (mm_Ar G) s.heap H' locs' → W p l e R s m args below meth c H' locs' cells slots Q (F0 m pc' ls (st'.map (mm_dn G))))
    (k2 : ∀ c', op = some (.inr c') → L' = L → ∀ H', mm_W G (h ++ [c']) H' → va_S (mm_Ar G) s.heap H' locs → W p l e R s m args below meth c H' locs (cells + 1) (slots + mm_sl c') Q (F0 m pc' ls (st'.map (mm_dn G)))) :
    W p l e R s m args below meth c H locs cells slots Q (F0 m pc ls (st.map (mm_dn G))) := by
  cases i with
  | aaload => exact mh_aaload hX hF hI hW hS hl hs k0
  | aastore => exact mh_aastore hF hI hG hZ hW hS hl hs k1
  | aconst_null =>
    obtain ⟨hd, hn⟩ := mm_okI_dec hI (fun _ _ _ _ q => by cases q)
    subst hn
    exact mp_null hF.1 hF.2.1 hd hl hs k0
  | aload x0 =>
    obtain ⟨hd, hn⟩ := mm_okI_dec hI (fun _ _ _ _ q => by cases q)
    subst hn
    exact mp_aload hF.1 hF.2.1 hd hl hs k0
  | aload_n x0 =>
    obtain ⟨hd, hn⟩ := mm_okI_dec hI (fun _ _ _ _ q => by cases q)
    subst hn
    exact mp_aload_n hF.1 hF.2.1 hd hl hs k0
  | anewarray x0 => exact mh_anewarray hY hF hI hG hZ hW hS hl hs hR k2
  | areturn => cases hs
  | arraylength => exact mh_alen hX hF hI hW hS hl hs k0
  | astore x0 =>
    obtain ⟨hd, hn⟩ := mm_okI_dec hI (fun _ _ _ _ q => by cases q)
    subst hn
    exact mp_astore hF.1 hF.2.1 hd hl hs k0
  | astore_n x0 =>
    obtain ⟨hd, hn⟩ := mm_okI_dec hI (fun _ _ _ _ q => by cases q)
    subst hn
    exact mp_astore_n hF.1 hF.2.1 hd hl hs k0
  | athrow => cases hs
  | baload => exact mh_baload hX hF hI hW hS hl hs k0
  | bastore => exact mh_bastore hF hI hG hZ hW hS hl hs k1
  | bipush x0 =>
    obtain ⟨hd, hn⟩ := mm_okI_dec hI (fun _ _ _ _ q => by cases q)
    subst hn
    exact mp_bipush hF.1 hF.2.1 hd hl hs k0
  | caload => cases hs
  | castore => cases hs
  | checkcast x0 => cases hs
  | d2f => cases hs
  | d2i => cases hs
  | d2l => cases hs
  | dadd => cases hs
  | daload => cases hs
  | dastore => cases hs
  | dcmp x0 =>
    obtain ⟨hd, hn⟩ := mm_okI_dec hI (fun _ _ _ _ q => by cases q)
    subst hn
    exact mp_dcmp hF.1 hF.2.1 hd hl hs k0
  | dconst x0 =>
    obtain ⟨hd, hn⟩ := mm_okI_dec hI (fun _ _ _ _ q => by cases q)
    subst hn
    match x0, hd, hs with
    | 0, hd, hs => exact mp_dconst0 hF.1 hF.2.1 hd hl hs k0
    | 1, hd, hs => cases hs
  | ddiv =>
    obtain ⟨hd, hn⟩ := mm_okI_dec hI (fun _ _ _ _ q => by cases q)
    subst hn
    exact mp_ddiv hF.1 hF.2.1 hd hl hs k0
  | dload x0 =>
    obtain ⟨hd, hn⟩ := mm_okI_dec hI (fun _ _ _ _ q => by cases q)
    subst hn
    exact mp_dload hF.1 hF.2.1 hd hl hs k0
  | dload_n x0 =>
    obtain ⟨hd, hn⟩ := mm_okI_dec hI (fun _ _ _ _ q => by cases q)
    subst hn
    exact mp_dload_n hF.1 hF.2.1 hd hl hs k0
  | dmul => cases hs
  | dneg => cases hs
  | drem => cases hs
  | dreturn => cases hs
  | dstore x0 =>
    obtain ⟨hd, hn⟩ := mm_okI_dec hI (fun _ _ _ _ q => by cases q)
    subst hn
    exact mp_dstore hF.1 hF.2.1 hd hl hs k0
  | dstore_n x0 => cases hs
  | dsub => cases hs
  | dup =>
    obtain ⟨hd, hn⟩ := mm_okI_dec hI (fun _ _ _ _ q => by cases q)
    subst hn
    exact mp_dup hF.1 hF.2.1 hd hl hs k0
  | dup_x1 =>
    obtain ⟨hd, hn⟩ := mm_okI_dec hI (fun _ _ _ _ q => by cases q)
    subst hn
    exact mp_dup_x1 hF.1 hF.2.1 hd hl hs k0
  | dup_x2 => cases hs
  | dup2 =>
    obtain ⟨hd, hn⟩ := mm_okI_dec hI (fun _ _ _ _ q => by cases q)
    subst hn
    exact mp_dup2 hF.1 hF.2.1 hd hl hs k0
  | dup2_x1 => cases hs
  | dup2_x2 => cases hs
  | f2d =>
    obtain ⟨hd, hn⟩ := mm_okI_dec hI (fun _ _ _ _ q => by cases q)
    subst hn
    exact mp_f2d hF.1 hF.2.1 hd hl hs k0
  | f2i => cases hs
  | f2l => cases hs
  | fadd => cases hs
  | faload => cases hs
  | fastore => cases hs
  | fcmp x0 => cases hs
  | fconst x0 =>
    obtain ⟨hd, hn⟩ := mm_okI_dec hI (fun _ _ _ _ q => by cases q)
    subst hn
    match x0, hd, hs with
    | 0, hd, hs => exact mp_fconst0 hF.1 hF.2.1 hd hl hs k0
    | 1, hd, hs => cases hs
    | 2, hd, hs => cases hs
  | fdiv =>
    obtain ⟨hd, hn⟩ := mm_okI_dec hI (fun _ _ _ _ q => by cases q)
    subst hn
    exact mp_fdiv hF.1 hF.2.1 hd hl hs k0
  | fload x0 => cases hs
  | fload_n x0 => cases hs
  | fmul => cases hs
  | fneg => cases hs
  | frem => cases hs
  | freturn => cases hs
  | fstore x0 => cases hs
  | fstore_n x0 => cases hs
  | fsub => cases hs
  | getfield x0 => exact mh_getfield hC hX hF hI hW hS hl hs k0
  | getstatic x0 => exact mh_getstatic hX hF hI hW hS hl hs k0
  | goto x0 =>
    have hr := mm_okI_rest hI
    obtain ⟨hd, hn⟩ := mm_okI_dec hI (fun _ _ _ _ q => by cases q)
    subst hn
    exact mp_goto hF.1 hF.2.1 hd hl hr hs k0
  | goto_w x0 => cases hs
  | i2b =>
    obtain ⟨hd, hn⟩ := mm_okI_dec hI (fun _ _ _ _ q => by cases q)
    subst hn
    exact mp_i2b hF.1 hF.2.1 hd hl hs k0
  | i2c =>
    obtain ⟨hd, hn⟩ := mm_okI_dec hI (fun _ _ _ _ q => by cases q)
    subst hn
    exact mp_i2c hF.1 hF.2.1 hd hl hs k0
  | i2d =>
    obtain ⟨hd, hn⟩ := mm_okI_dec hI (fun _ _ _ _ q => by cases q)
    subst hn
    exact mp_i2d hF.1 hF.2.1 hd hl hs k0
  | i2f =>
    obtain ⟨hd, hn⟩ := mm_okI_dec hI (fun _ _ _ _ q => by cases q)
    subst hn
    exact mp_i2f hF.1 hF.2.1 hd hl hs k0
  | i2l =>
    obtain ⟨hd, hn⟩ := mm_okI_dec hI (fun _ _ _ _ q => by cases q)
    subst hn
    exact mp_i2l hF.1 hF.2.1 hd hl hs k0
  | i2s => cases hs
  | iadd =>
    obtain ⟨hd, hn⟩ := mm_okI_dec hI (fun _ _ _ _ q => by cases q)
    subst hn
    exact mp_iadd hF.1 hF.2.1 hd hl hs k0
  | iaload => exact mh_iaload hX hF hI hW hS hl hs k0
  | iand =>
    obtain ⟨hd, hn⟩ := mm_okI_dec hI (fun _ _ _ _ q => by cases q)
    subst hn
    exact mp_iand hF.1 hF.2.1 hd hl hs k0
  | iastore => exact mh_iastore hF hI hG hZ hW hS hl hs k1
  | iconst x0 =>
    obtain ⟨hd, hn⟩ := mm_okI_dec hI (fun _ _ _ _ q => by cases q)
    subst hn
    exact mp_iconst hF.1 hF.2.1 hd hl hs k0
  | idiv =>
    obtain ⟨hd, hn⟩ := mm_okI_dec hI (fun _ _ _ _ q => by cases q)
    subst hn
    exact mp_idiv hF.1 hF.2.1 hd hl hs k0
  | if_acmp x0 x1 => cases hs
  | if_icmp x0 x1 =>
    have hr := mm_okI_rest hI
    obtain ⟨hd, hn⟩ := mm_okI_dec hI (fun _ _ _ _ q => by cases q)
    subst hn
    exact mp_if_icmp hF.1 hF.2.1 hd hl hr hs k0
  | ifCond x0 x1 =>
    have hr := mm_okI_rest hI
    obtain ⟨hd, hn⟩ := mm_okI_dec hI (fun _ _ _ _ q => by cases q)
    subst hn
    exact mp_ifCond hF.1 hF.2.1 hd hl hr hs k0
  | ifnonnull x0 => exact mh_ifnonnull hX hF hI hW hS hl hs k0
  | ifnull x0 => exact mh_ifnull hX hF hI hW hS hl hs k0
  | iinc x0 x1 =>
    obtain ⟨hd, hn⟩ := mm_okI_dec hI (fun _ _ _ _ q => by cases q)
    subst hn
    exact mp_iinc hF.1 hF.2.1 hd hl hs k0
  | iload x0 =>
    obtain ⟨hd, hn⟩ := mm_okI_dec hI (fun _ _ _ _ q => by cases q)
    subst hn
    exact mp_iload hF.1 hF.2.1 hd hl hs k0
  | iload_n x0 =>
    obtain ⟨hd, hn⟩ := mm_okI_dec hI (fun _ _ _ _ q => by cases q)
    subst hn
    exact mp_iload_n hF.1 hF.2.1 hd hl hs k0
  | imul =>
    obtain ⟨hd, hn⟩ := mm_okI_dec hI (fun _ _ _ _ q => by cases q)
    subst hn
    exact mp_imul hF.1 hF.2.1 hd hl hs k0
  | ineg =>
    obtain ⟨hd, hn⟩ := mm_okI_dec hI (fun _ _ _ _ q => by cases q)
    subst hn
    exact mp_ineg hF.1 hF.2.1 hd hl hs k0
  | instanceof x0 => cases hs
  | invokedynamic x0 => cases hs
  | invokeinterface x0 x1 => cases hs
  | invokespecial x0 =>
    have hs0 := hs
    simp only [mm_stp] at hs
    split at hs
    · rename_i t
      obtain ⟨lw, hnd⟩ := mm_okI_need hI
      rcases need_ip hnd with ⟨_, _, _, _, _, _, _, _, e, -⟩ | ⟨_, _, _, _, _, _, e, -⟩ | ⟨_, _, _, _, _, _, _, e, -⟩ | ⟨p0, e⟩
      · cases e
      · cases e
      · cases e
      · cases e
        exact mh_objinit hY hF hI hG hZ hW hS hl hml hRf hRl hs0 k0
    · exact (mm_call_no hs).elim
  | invokestatic x0 =>
    simp only [mm_stp] at hs
    split at hs
    · rename_i t
      have hnd := mm_okI_need hI
      obtain ⟨lw, hnd⟩ := hnd
      rcases need_is hnd with ⟨_, _, _, _, _, _, _, e, hk, -⟩ | ⟨_, _, _, _, _, _, _, e, -⟩ | ⟨kd9, p0, -, e⟩
      · cases e; rcases hk with z | z <;> cases z
      · cases e
      · cases e
        exact mh_copy hY hF hI hG hZ hW hS hl hml hRf hRl hs k1
    · rename_i t
      have hnd := mm_okI_need hI
      obtain ⟨lw, hnd⟩ := hnd
      rcases need_is hnd with ⟨_, _, _, _, _, _, _, e, hk, -⟩ | ⟨_, _, _, _, _, _, _, e, -⟩ | ⟨kd9, p0, -, e⟩
      · cases e; rcases hk with z | z <;> cases z
      · cases e
      · cases e
        exact mh_math hY hF (Or.inl rfl) hI hl hml hRf hRl hc9.1 hc9.2 hs k0
    · rename_i t
      have hnd := mm_okI_need hI
      obtain ⟨lw, hnd⟩ := hnd
      rcases need_is hnd with ⟨_, _, _, _, _, _, _, e, hk, -⟩ | ⟨_, _, _, _, _, _, _, e, -⟩ | ⟨kd9, p0, -, e⟩
      · cases e; rcases hk with z | z <;> cases z
      · cases e
      · cases e
        exact mh_math hY hF (Or.inr rfl) hI hl hml hRf hRl hc9.1 hc9.2 hs k0
    · exact (mm_call_no hs).elim
  | invokevirtual x0 => exact (mm_call_no (show mm_call X h nx L st ax = _ from hs)).elim
  | ior =>
    obtain ⟨hd, hn⟩ := mm_okI_dec hI (fun _ _ _ _ q => by cases q)
    subst hn
    exact mp_ior hF.1 hF.2.1 hd hl hs k0
  | irem =>
    obtain ⟨hd, hn⟩ := mm_okI_dec hI (fun _ _ _ _ q => by cases q)
    subst hn
    exact mp_irem hF.1 hF.2.1 hd hl hs k0
  | ireturn => cases hs
  | ishl =>
    obtain ⟨hd, hn⟩ := mm_okI_dec hI (fun _ _ _ _ q => by cases q)
    subst hn
    exact mp_ishl hF.1 hF.2.1 hd hl hs k0
  | ishr =>
    obtain ⟨hd, hn⟩ := mm_okI_dec hI (fun _ _ _ _ q => by cases q)
    subst hn
    exact mp_ishr hF.1 hF.2.1 hd hl hs k0
  | istore x0 =>
    obtain ⟨hd, hn⟩ := mm_okI_dec hI (fun _ _ _ _ q => by cases q)
    subst hn
    exact mp_istore hF.1 hF.2.1 hd hl hs k0
  | istore_n x0 =>
    obtain ⟨hd, hn⟩ := mm_okI_dec hI (fun _ _ _ _ q => by cases q)
    subst hn
    exact mp_istore_n hF.1 hF.2.1 hd hl hs k0
  | isub =>
    obtain ⟨hd, hn⟩ := mm_okI_dec hI (fun _ _ _ _ q => by cases q)
    subst hn
    exact mp_isub hF.1 hF.2.1 hd hl hs k0
  | iushr =>
    obtain ⟨hd, hn⟩ := mm_okI_dec hI (fun _ _ _ _ q => by cases q)
    subst hn
    exact mp_iushr hF.1 hF.2.1 hd hl hs k0
  | ixor =>
    obtain ⟨hd, hn⟩ := mm_okI_dec hI (fun _ _ _ _ q => by cases q)
    subst hn
    exact mp_ixor hF.1 hF.2.1 hd hl hs k0
  | jsr x0 => cases hs
  | jsr_w x0 => cases hs
  | l2d => cases hs
  | l2f => cases hs
  | l2i => cases hs
  | ladd => cases hs
  | laload => exact mh_laload hX hF hI hW hS hl hs k0
  | land => cases hs
  | lastore => exact mh_lastore hF hI hG hZ hW hS hl hs k1
  | lcmp =>
    obtain ⟨hd, hn⟩ := mm_okI_dec hI (fun _ _ _ _ q => by cases q)
    subst hn
    exact mp_lcmp hF.1 hF.2.1 hd hl hs k0
  | lconst x0 =>
    obtain ⟨hd, hn⟩ := mm_okI_dec hI (fun _ _ _ _ q => by cases q)
    subst hn
    exact mp_lconst hF.1 hF.2.1 hd hl hs k0
  | ldc x0 => exact mh_ldc hX hF hI hW hS hl hs k0
  | ldc_w x0 => exact mh_ldc_w hX hF hI hW hS hl hs k0
  | ldc2_w x0 => exact mh_ldc2_w hX hF hI hW hS hl hs k0
  | ldiv => cases hs
  | lload x0 =>
    obtain ⟨hd, hn⟩ := mm_okI_dec hI (fun _ _ _ _ q => by cases q)
    subst hn
    exact mp_lload hF.1 hF.2.1 hd hl hs k0
  | lload_n x0 =>
    obtain ⟨hd, hn⟩ := mm_okI_dec hI (fun _ _ _ _ q => by cases q)
    subst hn
    exact mp_lload_n hF.1 hF.2.1 hd hl hs k0
  | lmul => cases hs
  | lneg => cases hs
  | lookupswitch x0 x1 => cases hs
  | lor => cases hs
  | lrem => cases hs
  | lreturn => cases hs
  | lshl => cases hs
  | lshr => cases hs
  | lstore x0 =>
    obtain ⟨hd, hn⟩ := mm_okI_dec hI (fun _ _ _ _ q => by cases q)
    subst hn
    exact mp_lstore hF.1 hF.2.1 hd hl hs k0
  | lstore_n x0 => cases hs
  | lsub => cases hs
  | lushr => cases hs
  | lxor => cases hs
  | monitorenter => cases hs
  | monitorexit => cases hs
  | multianewarray x0 x1 => cases hs
  | new x0 => exact mh_new hC hF hI hG hZ hW hS hl hs hR k2
  | newarray x0 => exact mh_newarray hY hF hI hG hZ hW hS hl hs hR k2
  | nop => cases hs
  | pop =>
    obtain ⟨hd, hn⟩ := mm_okI_dec hI (fun _ _ _ _ q => by cases q)
    subst hn
    exact mp_pop hF.1 hF.2.1 hd hl hs k0
  | pop2 => cases hs
  | putfield x0 => exact mh_putfield hC hF hmn hI hG hZ hW hS hl hs k1
  | putstatic x0 => cases hs
  | ret x0 => cases hs
  | return_ => cases hs
  | saload => cases hs
  | sastore => cases hs
  | sipush x0 =>
    obtain ⟨hd, hn⟩ := mm_okI_dec hI (fun _ _ _ _ q => by cases q)
    subst hn
    exact mp_sipush hF.1 hF.2.1 hd hl hs k0
  | swap => cases hs
  | tableswitch x0 x1 x2 x3 => exact mh_tsw hX hF hI hW hS hl hs k0
end MV
end
section
/-! ===== the walk of a whole body, and of a whole method ===== -/
def mm_nm3 : List String := ["java/lang/RuntimeException", "java/lang/Exception"]
def mm_Thr : Prop := ∀ own ic ci, (own, ic, ci) ∈ mm_thr → ∃ q, mm_cls[ci]? = some q ∧ q.2 = [] ∧ Bundle.fit q.1 = true ∧ 15 ≤ ci ∧ Jvm.Cond.initialized q.1 ∈ mt_g ∧ ∀ w ∈ vx_at0 own ic q.1 mm_nm3, w ∈ mt_tbl ∧ (goodWord w || mm_isN w) = true ∧ vx_ot w = true
def mm_isR (i : Instr) : Bool := match i with
  | .ireturn => true
  | .areturn => true
  | .freturn => true
  | .dreturn => true
  | .return_ => true
  | _ => false
theorem mm_lk_mem : ∀ (c : List mm_I) (pc : Nat) (mi : mm_I), mm_lk c pc = some mi → mi ∈ c ∧ mi.1 = pc
  | [], pc, mi, h => by cases h
  | a :: r, pc, mi, h => by
    simp only [mm_lk] at h
    split at h
    · rename_i hb
      cases h
      exact ⟨List.mem_cons_self, Nat.beq_eq.mp hb⟩
    · obtain ⟨h1, h2⟩ := mm_lk_mem r pc mi h
      exact ⟨List.mem_cons_of_mem _ h1, h2⟩
theorem mm_len_set1 {L L' : mm_L} {i : Nat} {v : Value} (h : mm_set1 L i v = some L') : L'.length = L.length := (mm_set1_keep h).2.1
section MB
variable {p : Program} {l : Launch} {e : Env} {R : Room} {s : State} {m : MethodId} {args : Array Value} {below : List Frame} {meth : Method} {c : Code} {H : Heap} {locs : List Loc} {cells slots : Nat} {Q : State → Prop}
variable {cc : ByteArray} {pc : Nat} {ls : Array Slot} {G : mm_G} {X : mm_X} {h : mm_H} {L L' : mm_L} {st st' : List Value} {nx pc' : Nat} {ax : List Nat} {op : Option ((Nat × mm_C) ⊕ mm_C)} {own mn : String} {N : Nat → Option mm_N}
/-- a caught throw: the local is set to what was thrown -/
theorem mm_LHk {ls' : Array Slot} {k : Nat} {V : Value} (hk : k < L.length) (h : lv_has ls' L.length ((k, V) :: (mm_al G 0 L).filter (fun q => !(q.1 == k) && !(q.1 + 1 == k && q.2.category == 2)))) : mm_LH G ls' ((mm_kill L k).set k none) := by
  have hs : mm_set1 L k .null = some ((mm_kill L k).set k (some .null)) := by unfold mm_set1; rw [if_pos hk]
  obtain ⟨a, b, c⟩ := mm_set1_keep hs
  have hlen : ((mm_kill L k).set k none).length = L.length := by rw [List.length_set, mm_kill_len]
  refine ⟨by rw [hlen]; exact h.1, h.2.1, fun q hq => ?_⟩
  obtain ⟨j, w, rfl, hw⟩ := (mm_al_mem G _ 0 q).mp hq
  rw [Nat.zero_add]
  rw [List.getElem?_set] at hw
  by_cases e : k = j
  · rw [if_pos e] at hw
    split at hw <;> cases hw
  · rw [if_neg e] at hw
    rcases c j w (by rw [List.getElem?_set, if_neg e]; exact hw) with ⟨rfl, -⟩ | ⟨e1, e2, e3⟩
    · exact absurd rfl e
    · refine h.2.2 (j, mm_dn G w) (List.mem_cons_of_mem _ (List.mem_filter.mpr ⟨(mm_al_mem G L 0 _).mpr ⟨j, w, by rw [Nat.zero_add], e2⟩, ?_⟩))
      rw [mm_cat2_iff] at e3
      simp only [mm_cat]
      simp
      exact ⟨e1, Decidable.not_and_iff_not_or_not.mp e3⟩
/-- the handlers of a method -/
def mm_Hok (s : State) (args : Array Value) (c : Code) (cc : ByteArray) (own : String) (M : mm_M) : Prop := match M.2.2.2 with
  | [] => ∀ x ∈ c.exceptionTable.toList, False
  | [(a, b, t, k, cx)] => ∃ x q, c.exceptionTable.toList = [x] ∧ (∀ pc, a ≤ pc → pc < b → covers x pc = true) ∧ x.catchType ≠ 0 ∧ mm_cls[cx]? = some q ∧ (Jvm.Cond.classLink own x.catchType q.1).before args s = true ∧ (Jvm.Cond.castable q.1 q.1).before args s = true ∧
      ((∃ kf : Fin 4, kf.val = k ∧ decode cc x.handlerPc = .ok (.astore_n kf, 1) ∧ decode cc (x.handlerPc + 1) = .ok (.iconst 1, 1) ∧ t = x.handlerPc + 2) ∨ (decode cc x.handlerPc = .ok (.astore k, 2) ∧ decode cc (x.handlerPc + 2) = .ok (.iconst 1, 1) ∧ t = x.handlerPc + 3)) ∧ k < M.2.1 ∧ ∃ nx ax, (t, Instr.ireturn, nx, ax) ∈ M.1
  | _ => False
def mm_End (p : Program) (l : Launch) (e : Env) (R : Room) (s : State) (m : MethodId) (args : Array Value) (below : List Frame) (meth : Method) (c : Code) (Q : State → Prop) (G : mm_G) (M : mm_M) (n0 s0 : Nat) (res : mm_R) (h' : mm_H) : Prop := match res with
  | .inl (pc', L', st') => ∀ H' locs' ls' i nx ax, mm_W G h' H' → va_S (mm_Ar G) s.heap H' locs' → mm_LH G ls' L' → (pc', i, nx, ax) ∈ M.1 → mm_isR i = true → W p l e R s m args below meth c H' locs' (h'.length - n0) (mm_sum h' - s0) Q (F0 m pc' ls' (st'.map (mm_dn G)))
  | .inr ci => ∃ Qc XC, Q = vx_MQ below Qc XC args s (h'.length - n0) (mm_sum h' - s0) (mm_Ar G) ∧ ∀ q, mm_cls[ci]? = some q → ∀ t : State, s.vm.Alike t.vm → mm_W G h' t.heap → va_F (mm_Ar G) s t → XC q.1 s t
theorem mi_cp {a : mm_A} (h0 : mm_copy X h nx L st = some a) : ∃ q, a = .inl q := by
  unfold mm_copy at h0
  split at h0
  · split at h0
    · split at h0
      · rw [mm_fN_eq] at h0
        obtain ⟨-, hq⟩ := mi_wr h0
        exact ⟨_, hq⟩
      · cases h0
    · cases h0
  · cases h0
theorem mm_inr {i : Instr} {a : (Nat × List Value × List Value) ⊕ (Unit ⊕ Nat)} (hs : mm_stp X h L st (pc, i, nx, ax) = some (.inr a)) :
    (((∃ x, i = .invokevirtual x) ∨ (∃ x, i = .invokestatic x) ∨ ∃ x, i = .invokespecial x) ∧ mm_call X h nx L st ax = some (.inr a)) ∨ (mm_isR i = true ∧ a = .inr (.inl ())) ∨ ∃ x ci t, i = .new x ∧ ax = 1 :: ci :: t ∧ a = .inr (.inr ci) ∧ st.length ≤ 4 := by
  cases i with
  | aaload =>
    simp only [mm_stp, mm_fI_eq, mm_fL_eq, mm_fN_eq] at hs
    repeat' split at hs
    all_goals first
      | (cases hs; done)
      | (cases mi_go hs; done)
      | (obtain ⟨-, hq⟩ := mi_wr hs; cases hq; done)
      | (obtain ⟨_, _, hq⟩ := mi_br hs; rcases hq with ⟨-, hq⟩ | ⟨-, hq⟩ <;> cases hq; done)
      | (obtain ⟨_, _, _, _, hq⟩ := mi_i2 hs; cases hq; done)
  | aastore =>
    simp only [mm_stp, mm_fI_eq, mm_fL_eq, mm_fN_eq] at hs
    repeat' split at hs
    all_goals first
      | (cases hs; done)
      | (cases mi_go hs; done)
      | (obtain ⟨-, hq⟩ := mi_wr hs; cases hq; done)
      | (obtain ⟨_, _, hq⟩ := mi_br hs; rcases hq with ⟨-, hq⟩ | ⟨-, hq⟩ <;> cases hq; done)
      | (obtain ⟨_, _, _, _, hq⟩ := mi_i2 hs; cases hq; done)
  | aconst_null => cases mi_go (show mm_go nx L _ = some _ from hs)
  | aload x0 => obtain ⟨_, _, _, hq⟩ := mi_ld (show mm_ld nx L st (x0) _ = some _ from hs); cases hq
  | aload_n x0 => obtain ⟨_, _, _, hq⟩ := mi_ld (show mm_ld nx L st (x0.val) _ = some _ from hs); cases hq
  | anewarray x0 =>
    simp only [mm_stp, mm_fI_eq, mm_fL_eq, mm_fN_eq] at hs
    repeat' split at hs
    all_goals first
      | (cases hs; done)
      | (cases mi_go hs; done)
      | (obtain ⟨-, hq⟩ := mi_wr hs; cases hq; done)
      | (obtain ⟨_, _, hq⟩ := mi_br hs; rcases hq with ⟨-, hq⟩ | ⟨-, hq⟩ <;> cases hq; done)
      | (obtain ⟨_, _, _, _, hq⟩ := mi_i2 hs; cases hq; done)
  | areturn => cases hs; exact Or.inr (Or.inl ⟨rfl, rfl⟩)
  | arraylength =>
    simp only [mm_stp, mm_fI_eq, mm_fL_eq, mm_fN_eq] at hs
    repeat' split at hs
    all_goals first
      | (cases hs; done)
      | (cases mi_go hs; done)
      | (obtain ⟨-, hq⟩ := mi_wr hs; cases hq; done)
      | (obtain ⟨_, _, hq⟩ := mi_br hs; rcases hq with ⟨-, hq⟩ | ⟨-, hq⟩ <;> cases hq; done)
      | (obtain ⟨_, _, _, _, hq⟩ := mi_i2 hs; cases hq; done)
  | astore x0 => obtain ⟨_, _, _, _, _, _, hq⟩ := mi_s1 (show mm_s1 nx L st (x0) _ = some _ from hs); cases hq
  | astore_n x0 => obtain ⟨_, _, _, _, _, _, hq⟩ := mi_s1 (show mm_s1 nx L st (x0.val) _ = some _ from hs); cases hq
  | athrow => cases hs
  | baload =>
    simp only [mm_stp, mm_fI_eq, mm_fL_eq, mm_fN_eq] at hs
    repeat' split at hs
    all_goals first
      | (cases hs; done)
      | (cases mi_go hs; done)
      | (obtain ⟨-, hq⟩ := mi_wr hs; cases hq; done)
      | (obtain ⟨_, _, hq⟩ := mi_br hs; rcases hq with ⟨-, hq⟩ | ⟨-, hq⟩ <;> cases hq; done)
      | (obtain ⟨_, _, _, _, hq⟩ := mi_i2 hs; cases hq; done)
  | bastore =>
    simp only [mm_stp, mm_fI_eq, mm_fL_eq, mm_fN_eq] at hs
    repeat' split at hs
    all_goals first
      | (cases hs; done)
      | (cases mi_go hs; done)
      | (obtain ⟨-, hq⟩ := mi_wr hs; cases hq; done)
      | (obtain ⟨_, _, hq⟩ := mi_br hs; rcases hq with ⟨-, hq⟩ | ⟨-, hq⟩ <;> cases hq; done)
      | (obtain ⟨_, _, _, _, hq⟩ := mi_i2 hs; cases hq; done)
  | bipush x0 =>
    simp only [mm_stp, mm_fI_eq, mm_fL_eq, mm_fN_eq] at hs
    repeat' split at hs
    all_goals first
      | (cases hs; done)
      | (cases mi_go hs; done)
      | (obtain ⟨-, hq⟩ := mi_wr hs; cases hq; done)
      | (obtain ⟨_, _, hq⟩ := mi_br hs; rcases hq with ⟨-, hq⟩ | ⟨-, hq⟩ <;> cases hq; done)
      | (obtain ⟨_, _, _, _, hq⟩ := mi_i2 hs; cases hq; done)
  | caload => cases hs
  | castore => cases hs
  | checkcast x0 => cases hs
  | d2f => cases hs
  | d2i => cases hs
  | d2l => cases hs
  | dadd => cases hs
  | daload => cases hs
  | dastore => cases hs
  | dcmp x0 =>
    simp only [mm_stp, mm_fI_eq, mm_fL_eq, mm_fN_eq] at hs
    repeat' split at hs
    all_goals first
      | (cases hs; done)
      | (cases mi_go hs; done)
      | (obtain ⟨-, hq⟩ := mi_wr hs; cases hq; done)
      | (obtain ⟨_, _, hq⟩ := mi_br hs; rcases hq with ⟨-, hq⟩ | ⟨-, hq⟩ <;> cases hq; done)
      | (obtain ⟨_, _, _, _, hq⟩ := mi_i2 hs; cases hq; done)
  | dconst x0 =>
    match x0, hs with
    | 0, hs => cases mi_go (show mm_go nx L _ = some _ from hs)
    | 1, hs => cases hs
  | ddiv =>
    simp only [mm_stp, mm_fI_eq, mm_fL_eq, mm_fN_eq] at hs
    repeat' split at hs
    all_goals first
      | (cases hs; done)
      | (cases mi_go hs; done)
      | (obtain ⟨-, hq⟩ := mi_wr hs; cases hq; done)
      | (obtain ⟨_, _, hq⟩ := mi_br hs; rcases hq with ⟨-, hq⟩ | ⟨-, hq⟩ <;> cases hq; done)
      | (obtain ⟨_, _, _, _, hq⟩ := mi_i2 hs; cases hq; done)
  | dload x0 => obtain ⟨_, _, _, hq⟩ := mi_ld (show mm_ld nx L st (x0) _ = some _ from hs); cases hq
  | dload_n x0 => obtain ⟨_, _, _, hq⟩ := mi_ld (show mm_ld nx L st (x0.val) _ = some _ from hs); cases hq
  | dmul => cases hs
  | dneg => cases hs
  | drem => cases hs
  | dreturn => cases hs; exact Or.inr (Or.inl ⟨rfl, rfl⟩)
  | dstore x0 => obtain ⟨_, _, _, _, _, _, hq⟩ := mi_s2 (show mm_s2 nx L st (x0) _ = some _ from hs); cases hq
  | dstore_n x0 => cases hs
  | dsub => cases hs
  | dup =>
    simp only [mm_stp, mm_fI_eq, mm_fL_eq, mm_fN_eq] at hs
    repeat' split at hs
    all_goals first
      | (cases hs; done)
      | (cases mi_go hs; done)
      | (obtain ⟨-, hq⟩ := mi_wr hs; cases hq; done)
      | (obtain ⟨_, _, hq⟩ := mi_br hs; rcases hq with ⟨-, hq⟩ | ⟨-, hq⟩ <;> cases hq; done)
      | (obtain ⟨_, _, _, _, hq⟩ := mi_i2 hs; cases hq; done)
  | dup_x1 =>
    simp only [mm_stp, mm_fI_eq, mm_fL_eq, mm_fN_eq] at hs
    repeat' split at hs
    all_goals first
      | (cases hs; done)
      | (cases mi_go hs; done)
      | (obtain ⟨-, hq⟩ := mi_wr hs; cases hq; done)
      | (obtain ⟨_, _, hq⟩ := mi_br hs; rcases hq with ⟨-, hq⟩ | ⟨-, hq⟩ <;> cases hq; done)
      | (obtain ⟨_, _, _, _, hq⟩ := mi_i2 hs; cases hq; done)
  | dup_x2 => cases hs
  | dup2 =>
    simp only [mm_stp, mm_fI_eq, mm_fL_eq, mm_fN_eq] at hs
    repeat' split at hs
    all_goals first
      | (cases hs; done)
      | (cases mi_go hs; done)
      | (obtain ⟨-, hq⟩ := mi_wr hs; cases hq; done)
      | (obtain ⟨_, _, hq⟩ := mi_br hs; rcases hq with ⟨-, hq⟩ | ⟨-, hq⟩ <;> cases hq; done)
      | (obtain ⟨_, _, _, _, hq⟩ := mi_i2 hs; cases hq; done)
  | dup2_x1 => cases hs
  | dup2_x2 => cases hs
  | f2d =>
    simp only [mm_stp, mm_fI_eq, mm_fL_eq, mm_fN_eq] at hs
    repeat' split at hs
    all_goals first
      | (cases hs; done)
      | (cases mi_go hs; done)
      | (obtain ⟨-, hq⟩ := mi_wr hs; cases hq; done)
      | (obtain ⟨_, _, hq⟩ := mi_br hs; rcases hq with ⟨-, hq⟩ | ⟨-, hq⟩ <;> cases hq; done)
      | (obtain ⟨_, _, _, _, hq⟩ := mi_i2 hs; cases hq; done)
  | f2i => cases hs
  | f2l => cases hs
  | fadd => cases hs
  | faload => cases hs
  | fastore => cases hs
  | fcmp x0 => cases hs
  | fconst x0 =>
    match x0, hs with
    | 0, hs => cases mi_go (show mm_go nx L _ = some _ from hs)
    | 1, hs => cases hs
    | 2, hs => cases hs
  | fdiv =>
    simp only [mm_stp, mm_fI_eq, mm_fL_eq, mm_fN_eq] at hs
    repeat' split at hs
    all_goals first
      | (cases hs; done)
      | (cases mi_go hs; done)
      | (obtain ⟨-, hq⟩ := mi_wr hs; cases hq; done)
      | (obtain ⟨_, _, hq⟩ := mi_br hs; rcases hq with ⟨-, hq⟩ | ⟨-, hq⟩ <;> cases hq; done)
      | (obtain ⟨_, _, _, _, hq⟩ := mi_i2 hs; cases hq; done)
  | fload x0 => cases hs
  | fload_n x0 => cases hs
  | fmul => cases hs
  | fneg => cases hs
  | frem => cases hs
  | freturn => cases hs; exact Or.inr (Or.inl ⟨rfl, rfl⟩)
  | fstore x0 => cases hs
  | fstore_n x0 => cases hs
  | fsub => cases hs
  | getfield x0 =>
    simp only [mm_stp, mm_fI_eq, mm_fL_eq, mm_fN_eq] at hs
    repeat' split at hs
    all_goals first
      | (cases hs; done)
      | (cases mi_go hs; done)
      | (obtain ⟨-, hq⟩ := mi_wr hs; cases hq; done)
      | (obtain ⟨_, _, hq⟩ := mi_br hs; rcases hq with ⟨-, hq⟩ | ⟨-, hq⟩ <;> cases hq; done)
      | (obtain ⟨_, _, _, _, hq⟩ := mi_i2 hs; cases hq; done)
  | getstatic x0 =>
    simp only [mm_stp, mm_fI_eq, mm_fL_eq, mm_fN_eq] at hs
    repeat' split at hs
    all_goals first
      | (cases hs; done)
      | (cases mi_go hs; done)
      | (obtain ⟨-, hq⟩ := mi_wr hs; cases hq; done)
      | (obtain ⟨_, _, hq⟩ := mi_br hs; rcases hq with ⟨-, hq⟩ | ⟨-, hq⟩ <;> cases hq; done)
      | (obtain ⟨_, _, _, _, hq⟩ := mi_i2 hs; cases hq; done)
  | goto x0 =>
    simp only [mm_stp, mm_fI_eq, mm_fL_eq, mm_fN_eq] at hs
    repeat' split at hs
    all_goals first
      | (cases hs; done)
      | (cases mi_go hs; done)
      | (obtain ⟨-, hq⟩ := mi_wr hs; cases hq; done)
      | (obtain ⟨_, _, hq⟩ := mi_br hs; rcases hq with ⟨-, hq⟩ | ⟨-, hq⟩ <;> cases hq; done)
      | (obtain ⟨_, _, _, _, hq⟩ := mi_i2 hs; cases hq; done)
  | goto_w x0 => cases hs
  | i2b => obtain ⟨_, _, _, hq⟩ := mi_i1 (show mm_i1 nx L st _ = some _ from hs); cases hq
  | i2c => obtain ⟨_, _, _, hq⟩ := mi_i1 (show mm_i1 nx L st _ = some _ from hs); cases hq
  | i2d =>
    simp only [mm_stp, mm_fI_eq, mm_fL_eq, mm_fN_eq] at hs
    repeat' split at hs
    all_goals first
      | (cases hs; done)
      | (cases mi_go hs; done)
      | (obtain ⟨-, hq⟩ := mi_wr hs; cases hq; done)
      | (obtain ⟨_, _, hq⟩ := mi_br hs; rcases hq with ⟨-, hq⟩ | ⟨-, hq⟩ <;> cases hq; done)
      | (obtain ⟨_, _, _, _, hq⟩ := mi_i2 hs; cases hq; done)
  | i2f =>
    simp only [mm_stp, mm_fI_eq, mm_fL_eq, mm_fN_eq] at hs
    repeat' split at hs
    all_goals first
      | (cases hs; done)
      | (cases mi_go hs; done)
      | (obtain ⟨-, hq⟩ := mi_wr hs; cases hq; done)
      | (obtain ⟨_, _, hq⟩ := mi_br hs; rcases hq with ⟨-, hq⟩ | ⟨-, hq⟩ <;> cases hq; done)
      | (obtain ⟨_, _, _, _, hq⟩ := mi_i2 hs; cases hq; done)
  | i2l =>
    simp only [mm_stp, mm_fI_eq, mm_fL_eq, mm_fN_eq] at hs
    repeat' split at hs
    all_goals first
      | (cases hs; done)
      | (cases mi_go hs; done)
      | (obtain ⟨-, hq⟩ := mi_wr hs; cases hq; done)
      | (obtain ⟨_, _, hq⟩ := mi_br hs; rcases hq with ⟨-, hq⟩ | ⟨-, hq⟩ <;> cases hq; done)
      | (obtain ⟨_, _, _, _, hq⟩ := mi_i2 hs; cases hq; done)
  | i2s => cases hs
  | iadd => obtain ⟨_, _, _, _, hq⟩ := mi_i2 (show mm_i2 nx L st _ = some _ from hs); cases hq
  | iaload =>
    simp only [mm_stp, mm_fI_eq, mm_fL_eq, mm_fN_eq] at hs
    repeat' split at hs
    all_goals first
      | (cases hs; done)
      | (cases mi_go hs; done)
      | (obtain ⟨-, hq⟩ := mi_wr hs; cases hq; done)
      | (obtain ⟨_, _, hq⟩ := mi_br hs; rcases hq with ⟨-, hq⟩ | ⟨-, hq⟩ <;> cases hq; done)
      | (obtain ⟨_, _, _, _, hq⟩ := mi_i2 hs; cases hq; done)
  | iand => obtain ⟨_, _, _, _, hq⟩ := mi_i2 (show mm_i2 nx L st _ = some _ from hs); cases hq
  | iastore =>
    simp only [mm_stp, mm_fI_eq, mm_fL_eq, mm_fN_eq] at hs
    repeat' split at hs
    all_goals first
      | (cases hs; done)
      | (cases mi_go hs; done)
      | (obtain ⟨-, hq⟩ := mi_wr hs; cases hq; done)
      | (obtain ⟨_, _, hq⟩ := mi_br hs; rcases hq with ⟨-, hq⟩ | ⟨-, hq⟩ <;> cases hq; done)
      | (obtain ⟨_, _, _, _, hq⟩ := mi_i2 hs; cases hq; done)
  | iconst x0 =>
    simp only [mm_stp, mm_fI_eq, mm_fL_eq, mm_fN_eq] at hs
    repeat' split at hs
    all_goals first
      | (cases hs; done)
      | (cases mi_go hs; done)
      | (obtain ⟨-, hq⟩ := mi_wr hs; cases hq; done)
      | (obtain ⟨_, _, hq⟩ := mi_br hs; rcases hq with ⟨-, hq⟩ | ⟨-, hq⟩ <;> cases hq; done)
      | (obtain ⟨_, _, _, _, hq⟩ := mi_i2 hs; cases hq; done)
  | idiv =>
    simp only [mm_stp, mm_fI_eq, mm_fL_eq, mm_fN_eq] at hs
    repeat' split at hs
    all_goals first
      | (cases hs; done)
      | (cases mi_go hs; done)
      | (obtain ⟨-, hq⟩ := mi_wr hs; cases hq; done)
      | (obtain ⟨_, _, hq⟩ := mi_br hs; rcases hq with ⟨-, hq⟩ | ⟨-, hq⟩ <;> cases hq; done)
      | (obtain ⟨_, _, _, _, hq⟩ := mi_i2 hs; cases hq; done)
  | if_acmp x0 x1 => cases hs
  | if_icmp x0 x1 =>
    simp only [mm_stp, mm_fI_eq, mm_fL_eq, mm_fN_eq] at hs
    repeat' split at hs
    all_goals first
      | (cases hs; done)
      | (cases mi_go hs; done)
      | (obtain ⟨-, hq⟩ := mi_wr hs; cases hq; done)
      | (obtain ⟨_, _, hq⟩ := mi_br hs; rcases hq with ⟨-, hq⟩ | ⟨-, hq⟩ <;> cases hq; done)
      | (obtain ⟨_, _, _, _, hq⟩ := mi_i2 hs; cases hq; done)
  | ifCond x0 x1 =>
    simp only [mm_stp, mm_fI_eq, mm_fL_eq, mm_fN_eq] at hs
    repeat' split at hs
    all_goals first
      | (cases hs; done)
      | (cases mi_go hs; done)
      | (obtain ⟨-, hq⟩ := mi_wr hs; cases hq; done)
      | (obtain ⟨_, _, hq⟩ := mi_br hs; rcases hq with ⟨-, hq⟩ | ⟨-, hq⟩ <;> cases hq; done)
      | (obtain ⟨_, _, _, _, hq⟩ := mi_i2 hs; cases hq; done)
  | ifnonnull x0 =>
    simp only [mm_stp, mm_fI_eq, mm_fL_eq, mm_fN_eq] at hs
    repeat' split at hs
    all_goals first
      | (cases hs; done)
      | (cases mi_go hs; done)
      | (obtain ⟨-, hq⟩ := mi_wr hs; cases hq; done)
      | (obtain ⟨_, _, hq⟩ := mi_br hs; rcases hq with ⟨-, hq⟩ | ⟨-, hq⟩ <;> cases hq; done)
      | (obtain ⟨_, _, _, _, hq⟩ := mi_i2 hs; cases hq; done)
  | ifnull x0 =>
    simp only [mm_stp, mm_fI_eq, mm_fL_eq, mm_fN_eq] at hs
    repeat' split at hs
    all_goals first
      | (cases hs; done)
      | (cases mi_go hs; done)
      | (obtain ⟨-, hq⟩ := mi_wr hs; cases hq; done)
      | (obtain ⟨_, _, hq⟩ := mi_br hs; rcases hq with ⟨-, hq⟩ | ⟨-, hq⟩ <;> cases hq; done)
      | (obtain ⟨_, _, _, _, hq⟩ := mi_i2 hs; cases hq; done)
  | iinc x0 x1 =>
    simp only [mm_stp, mm_fI_eq, mm_fL_eq, mm_fN_eq] at hs
    repeat' split at hs
    all_goals first
      | (cases hs; done)
      | (cases mi_go hs; done)
      | (obtain ⟨-, hq⟩ := mi_wr hs; cases hq; done)
      | (obtain ⟨_, _, hq⟩ := mi_br hs; rcases hq with ⟨-, hq⟩ | ⟨-, hq⟩ <;> cases hq; done)
      | (obtain ⟨_, _, _, _, hq⟩ := mi_i2 hs; cases hq; done)
  | iload x0 => obtain ⟨_, _, _, hq⟩ := mi_ld (show mm_ld nx L st (x0) _ = some _ from hs); cases hq
  | iload_n x0 => obtain ⟨_, _, _, hq⟩ := mi_ld (show mm_ld nx L st (x0.val) _ = some _ from hs); cases hq
  | imul => obtain ⟨_, _, _, _, hq⟩ := mi_i2 (show mm_i2 nx L st _ = some _ from hs); cases hq
  | ineg => obtain ⟨_, _, _, hq⟩ := mi_i1 (show mm_i1 nx L st _ = some _ from hs); cases hq
  | instanceof x0 => cases hs
  | invokedynamic x0 => cases hs
  | invokeinterface x0 x1 => cases hs
  | invokespecial x0 =>
    simp only [mm_stp] at hs
    split at hs
    · split at hs
      · split at hs
        · cases mi_go hs
        · cases hs
      · cases hs
    · exact Or.inl ⟨Or.inr (Or.inr ⟨_, rfl⟩), hs⟩
  | invokestatic x0 =>
    simp only [mm_stp] at hs
    split at hs
    · obtain ⟨q, hq⟩ := mi_cp hs; cases hq
    · obtain ⟨_, _, _, _, _, hq⟩ := mi_math hs; cases hq
    · obtain ⟨_, _, _, _, _, hq⟩ := mi_math hs; cases hq
    · exact Or.inl ⟨Or.inr (Or.inl ⟨_, rfl⟩), hs⟩
  | invokevirtual x0 => exact Or.inl ⟨Or.inl ⟨_, rfl⟩, hs⟩
  | ior => obtain ⟨_, _, _, _, hq⟩ := mi_i2 (show mm_i2 nx L st _ = some _ from hs); cases hq
  | irem =>
    simp only [mm_stp, mm_fI_eq, mm_fL_eq, mm_fN_eq] at hs
    repeat' split at hs
    all_goals first
      | (cases hs; done)
      | (cases mi_go hs; done)
      | (obtain ⟨-, hq⟩ := mi_wr hs; cases hq; done)
      | (obtain ⟨_, _, hq⟩ := mi_br hs; rcases hq with ⟨-, hq⟩ | ⟨-, hq⟩ <;> cases hq; done)
      | (obtain ⟨_, _, _, _, hq⟩ := mi_i2 hs; cases hq; done)
  | ireturn => cases hs; exact Or.inr (Or.inl ⟨rfl, rfl⟩)
  | ishl => obtain ⟨_, _, _, _, hq⟩ := mi_i2 (show mm_i2 nx L st _ = some _ from hs); cases hq
  | ishr => obtain ⟨_, _, _, _, hq⟩ := mi_i2 (show mm_i2 nx L st _ = some _ from hs); cases hq
  | istore x0 => obtain ⟨_, _, _, _, _, _, hq⟩ := mi_s1 (show mm_s1 nx L st (x0) _ = some _ from hs); cases hq
  | istore_n x0 => obtain ⟨_, _, _, _, _, _, hq⟩ := mi_s1 (show mm_s1 nx L st (x0.val) _ = some _ from hs); cases hq
  | isub => obtain ⟨_, _, _, _, hq⟩ := mi_i2 (show mm_i2 nx L st _ = some _ from hs); cases hq
  | iushr => obtain ⟨_, _, _, _, hq⟩ := mi_i2 (show mm_i2 nx L st _ = some _ from hs); cases hq
  | ixor => obtain ⟨_, _, _, _, hq⟩ := mi_i2 (show mm_i2 nx L st _ = some _ from hs); cases hq
  | jsr x0 => cases hs
  | jsr_w x0 => cases hs
  | l2d => cases hs
  | l2f => cases hs
  | l2i => cases hs
  | ladd => cases hs
  | laload =>
    simp only [mm_stp, mm_fI_eq, mm_fL_eq, mm_fN_eq] at hs
    repeat' split at hs
    all_goals first
      | (cases hs; done)
      | (cases mi_go hs; done)
      | (obtain ⟨-, hq⟩ := mi_wr hs; cases hq; done)
      | (obtain ⟨_, _, hq⟩ := mi_br hs; rcases hq with ⟨-, hq⟩ | ⟨-, hq⟩ <;> cases hq; done)
      | (obtain ⟨_, _, _, _, hq⟩ := mi_i2 hs; cases hq; done)
  | land => cases hs
  | lastore =>
    simp only [mm_stp, mm_fI_eq, mm_fL_eq, mm_fN_eq] at hs
    repeat' split at hs
    all_goals first
      | (cases hs; done)
      | (cases mi_go hs; done)
      | (obtain ⟨-, hq⟩ := mi_wr hs; cases hq; done)
      | (obtain ⟨_, _, hq⟩ := mi_br hs; rcases hq with ⟨-, hq⟩ | ⟨-, hq⟩ <;> cases hq; done)
      | (obtain ⟨_, _, _, _, hq⟩ := mi_i2 hs; cases hq; done)
  | lcmp =>
    simp only [mm_stp, mm_fI_eq, mm_fL_eq, mm_fN_eq] at hs
    repeat' split at hs
    all_goals first
      | (cases hs; done)
      | (cases mi_go hs; done)
      | (obtain ⟨-, hq⟩ := mi_wr hs; cases hq; done)
      | (obtain ⟨_, _, hq⟩ := mi_br hs; rcases hq with ⟨-, hq⟩ | ⟨-, hq⟩ <;> cases hq; done)
      | (obtain ⟨_, _, _, _, hq⟩ := mi_i2 hs; cases hq; done)
  | lconst x0 => cases mi_go (show mm_go nx L _ = some _ from hs)
  | ldc x0 =>
    simp only [mm_stp, mm_fI_eq, mm_fL_eq, mm_fN_eq] at hs
    repeat' split at hs
    all_goals first
      | (cases hs; done)
      | (cases mi_go hs; done)
      | (obtain ⟨-, hq⟩ := mi_wr hs; cases hq; done)
      | (obtain ⟨_, _, hq⟩ := mi_br hs; rcases hq with ⟨-, hq⟩ | ⟨-, hq⟩ <;> cases hq; done)
      | (obtain ⟨_, _, _, _, hq⟩ := mi_i2 hs; cases hq; done)
  | ldc_w x0 =>
    simp only [mm_stp, mm_fI_eq, mm_fL_eq, mm_fN_eq] at hs
    repeat' split at hs
    all_goals first
      | (cases hs; done)
      | (cases mi_go hs; done)
      | (obtain ⟨-, hq⟩ := mi_wr hs; cases hq; done)
      | (obtain ⟨_, _, hq⟩ := mi_br hs; rcases hq with ⟨-, hq⟩ | ⟨-, hq⟩ <;> cases hq; done)
      | (obtain ⟨_, _, _, _, hq⟩ := mi_i2 hs; cases hq; done)
  | ldc2_w x0 =>
    simp only [mm_stp, mm_fI_eq, mm_fL_eq, mm_fN_eq] at hs
    repeat' split at hs
    all_goals first
      | (cases hs; done)
      | (cases mi_go hs; done)
      | (obtain ⟨-, hq⟩ := mi_wr hs; cases hq; done)
      | (obtain ⟨_, _, hq⟩ := mi_br hs; rcases hq with ⟨-, hq⟩ | ⟨-, hq⟩ <;> cases hq; done)
      | (obtain ⟨_, _, _, _, hq⟩ := mi_i2 hs; cases hq; done)
  | ldiv => cases hs
  | lload x0 => obtain ⟨_, _, _, hq⟩ := mi_ld (show mm_ld nx L st (x0) _ = some _ from hs); cases hq
  | lload_n x0 => obtain ⟨_, _, _, hq⟩ := mi_ld (show mm_ld nx L st (x0.val) _ = some _ from hs); cases hq
  | lmul => cases hs
  | lneg => cases hs
  | lookupswitch x0 x1 => cases hs
  | lor => cases hs
  | lrem => cases hs
  | lreturn => cases hs
  | lshl => cases hs
  | lshr => cases hs
  | lstore x0 => obtain ⟨_, _, _, _, _, _, hq⟩ := mi_s2 (show mm_s2 nx L st (x0) _ = some _ from hs); cases hq
  | lstore_n x0 => cases hs
  | lsub => cases hs
  | lushr => cases hs
  | lxor => cases hs
  | monitorenter => cases hs
  | monitorexit => cases hs
  | multianewarray x0 x1 => cases hs
  | new x0 =>
    simp only [mm_stp] at hs
    split at hs
    · cases hs
    · split at hs
      · rename_i hb
        cases hs
        exact Or.inr (Or.inr ⟨_, _, _, rfl, rfl, rfl, Nat.ble_eq.mp hb⟩)
      · cases hs
    · cases hs
  | newarray x0 =>
    simp only [mm_stp, mm_fI_eq, mm_fL_eq, mm_fN_eq] at hs
    repeat' split at hs
    all_goals first
      | (cases hs; done)
      | (cases mi_go hs; done)
      | (obtain ⟨-, hq⟩ := mi_wr hs; cases hq; done)
      | (obtain ⟨_, _, hq⟩ := mi_br hs; rcases hq with ⟨-, hq⟩ | ⟨-, hq⟩ <;> cases hq; done)
      | (obtain ⟨_, _, _, _, hq⟩ := mi_i2 hs; cases hq; done)
  | nop => cases hs
  | pop =>
    simp only [mm_stp, mm_fI_eq, mm_fL_eq, mm_fN_eq] at hs
    repeat' split at hs
    all_goals first
      | (cases hs; done)
      | (cases mi_go hs; done)
      | (obtain ⟨-, hq⟩ := mi_wr hs; cases hq; done)
      | (obtain ⟨_, _, hq⟩ := mi_br hs; rcases hq with ⟨-, hq⟩ | ⟨-, hq⟩ <;> cases hq; done)
      | (obtain ⟨_, _, _, _, hq⟩ := mi_i2 hs; cases hq; done)
  | pop2 => cases hs
  | putfield x0 =>
    simp only [mm_stp, mm_fI_eq, mm_fL_eq, mm_fN_eq] at hs
    repeat' split at hs
    all_goals first
      | (cases hs; done)
      | (cases mi_go hs; done)
      | (obtain ⟨-, hq⟩ := mi_wr hs; cases hq; done)
      | (obtain ⟨_, _, hq⟩ := mi_br hs; rcases hq with ⟨-, hq⟩ | ⟨-, hq⟩ <;> cases hq; done)
      | (obtain ⟨_, _, _, _, hq⟩ := mi_i2 hs; cases hq; done)
  | putstatic x0 => cases hs
  | ret x0 => cases hs
  | return_ => cases hs; exact Or.inr (Or.inl ⟨rfl, rfl⟩)
  | saload => cases hs
  | sastore => cases hs
  | sipush x0 =>
    simp only [mm_stp, mm_fI_eq, mm_fL_eq, mm_fN_eq] at hs
    repeat' split at hs
    all_goals first
      | (cases hs; done)
      | (cases mi_go hs; done)
      | (obtain ⟨-, hq⟩ := mi_wr hs; cases hq; done)
      | (obtain ⟨_, _, hq⟩ := mi_br hs; rcases hq with ⟨-, hq⟩ | ⟨-, hq⟩ <;> cases hq; done)
      | (obtain ⟨_, _, _, _, hq⟩ := mi_i2 hs; cases hq; done)
  | swap => cases hs
  | tableswitch x0 x1 x2 x3 =>
    simp only [mm_stp, mm_fI_eq, mm_fL_eq, mm_fN_eq] at hs
    repeat' split at hs
    all_goals first
      | (cases hs; done)
      | (cases mi_go hs; done)
      | (obtain ⟨-, hq⟩ := mi_wr hs; cases hq; done)
      | (obtain ⟨_, _, hq⟩ := mi_br hs; rcases hq with ⟨-, hq⟩ | ⟨-, hq⟩ <;> cases hq; done)
      | (obtain ⟨_, _, _, _, hq⟩ := mi_i2 hs; cases hq; done)
-- BODY
theorem mi_cpL (h0 : mm_copy X h nx L st = some (.inl (pc', L', st', op))) : L' = L := by
  unfold mm_copy at h0
  split at h0
  · split at h0
    · split at h0
      · rw [mm_fN_eq] at h0
        obtain ⟨-, hq⟩ := mi_wr h0
        cases hq
        rfl
      · cases h0
    · cases h0
  · cases h0
theorem mm_slen {i : Instr} (hs : mm_stp X h L st (pc, i, nx, ax) = some (.inl (pc', L', st', op))) : L'.length = L.length := by
  cases i with
  | aaload =>
    simp only [mm_stp, mm_fI_eq, mm_fL_eq, mm_fN_eq] at hs
    repeat' split at hs
    all_goals first
      | (cases hs; done)
      | (cases hs; rfl)
      | (cases mi_go hs; rfl)
      | (obtain ⟨-, hq⟩ := mi_wr hs; cases hq; rfl)
      | (obtain ⟨_, _, hq⟩ := mi_br hs; rcases hq with ⟨-, hq⟩ | ⟨-, hq⟩ <;> cases hq <;> rfl)
      | (obtain ⟨_, _, _, _, hq⟩ := mi_i2 hs; cases hq; rfl)
  | aastore =>
    simp only [mm_stp, mm_fI_eq, mm_fL_eq, mm_fN_eq] at hs
    repeat' split at hs
    all_goals first
      | (cases hs; done)
      | (cases hs; rfl)
      | (cases mi_go hs; rfl)
      | (obtain ⟨-, hq⟩ := mi_wr hs; cases hq; rfl)
      | (obtain ⟨_, _, hq⟩ := mi_br hs; rcases hq with ⟨-, hq⟩ | ⟨-, hq⟩ <;> cases hq <;> rfl)
      | (obtain ⟨_, _, _, _, hq⟩ := mi_i2 hs; cases hq; rfl)
  | aconst_null => cases mi_go (show mm_go nx L _ = some _ from hs); rfl
  | aload x0 => obtain ⟨_, _, _, hq⟩ := mi_ld (show mm_ld nx L st (x0) _ = some _ from hs); cases hq; rfl
  | aload_n x0 => obtain ⟨_, _, _, hq⟩ := mi_ld (show mm_ld nx L st (x0.val) _ = some _ from hs); cases hq; rfl
  | anewarray x0 =>
    simp only [mm_stp, mm_fI_eq, mm_fL_eq, mm_fN_eq] at hs
    repeat' split at hs
    all_goals first
      | (cases hs; done)
      | (cases hs; rfl)
      | (cases mi_go hs; rfl)
      | (obtain ⟨-, hq⟩ := mi_wr hs; cases hq; rfl)
      | (obtain ⟨_, _, hq⟩ := mi_br hs; rcases hq with ⟨-, hq⟩ | ⟨-, hq⟩ <;> cases hq <;> rfl)
      | (obtain ⟨_, _, _, _, hq⟩ := mi_i2 hs; cases hq; rfl)
  | areturn => cases hs
  | arraylength =>
    simp only [mm_stp, mm_fI_eq, mm_fL_eq, mm_fN_eq] at hs
    repeat' split at hs
    all_goals first
      | (cases hs; done)
      | (cases hs; rfl)
      | (cases mi_go hs; rfl)
      | (obtain ⟨-, hq⟩ := mi_wr hs; cases hq; rfl)
      | (obtain ⟨_, _, hq⟩ := mi_br hs; rcases hq with ⟨-, hq⟩ | ⟨-, hq⟩ <;> cases hq <;> rfl)
      | (obtain ⟨_, _, _, _, hq⟩ := mi_i2 hs; cases hq; rfl)
  | astore x0 => obtain ⟨_, _, _, _, _, hS, hq⟩ := mi_s1 (show mm_s1 nx L st (x0) _ = some _ from hs); cases hq; exact (mm_set1_keep hS).2.1
  | astore_n x0 => obtain ⟨_, _, _, _, _, hS, hq⟩ := mi_s1 (show mm_s1 nx L st (x0.val) _ = some _ from hs); cases hq; exact (mm_set1_keep hS).2.1
  | athrow => cases hs
  | baload =>
    simp only [mm_stp, mm_fI_eq, mm_fL_eq, mm_fN_eq] at hs
    repeat' split at hs
    all_goals first
      | (cases hs; done)
      | (cases hs; rfl)
      | (cases mi_go hs; rfl)
      | (obtain ⟨-, hq⟩ := mi_wr hs; cases hq; rfl)
      | (obtain ⟨_, _, hq⟩ := mi_br hs; rcases hq with ⟨-, hq⟩ | ⟨-, hq⟩ <;> cases hq <;> rfl)
      | (obtain ⟨_, _, _, _, hq⟩ := mi_i2 hs; cases hq; rfl)
  | bastore =>
    simp only [mm_stp, mm_fI_eq, mm_fL_eq, mm_fN_eq] at hs
    repeat' split at hs
    all_goals first
      | (cases hs; done)
      | (cases hs; rfl)
      | (cases mi_go hs; rfl)
      | (obtain ⟨-, hq⟩ := mi_wr hs; cases hq; rfl)
      | (obtain ⟨_, _, hq⟩ := mi_br hs; rcases hq with ⟨-, hq⟩ | ⟨-, hq⟩ <;> cases hq <;> rfl)
      | (obtain ⟨_, _, _, _, hq⟩ := mi_i2 hs; cases hq; rfl)
  | bipush x0 =>
    simp only [mm_stp, mm_fI_eq, mm_fL_eq, mm_fN_eq] at hs
    repeat' split at hs
    all_goals first
      | (cases hs; done)
      | (cases hs; rfl)
      | (cases mi_go hs; rfl)
      | (obtain ⟨-, hq⟩ := mi_wr hs; cases hq; rfl)
      | (obtain ⟨_, _, hq⟩ := mi_br hs; rcases hq with ⟨-, hq⟩ | ⟨-, hq⟩ <;> cases hq <;> rfl)
      | (obtain ⟨_, _, _, _, hq⟩ := mi_i2 hs; cases hq; rfl)
  | caload => cases hs
  | castore => cases hs
  | checkcast x0 => cases hs
  | d2f => cases hs
  | d2i => cases hs
  | d2l => cases hs
  | dadd => cases hs
  | daload => cases hs
  | dastore => cases hs
  | dcmp x0 =>
    simp only [mm_stp, mm_fI_eq, mm_fL_eq, mm_fN_eq] at hs
    repeat' split at hs
    all_goals first
      | (cases hs; done)
      | (cases hs; rfl)
      | (cases mi_go hs; rfl)
      | (obtain ⟨-, hq⟩ := mi_wr hs; cases hq; rfl)
      | (obtain ⟨_, _, hq⟩ := mi_br hs; rcases hq with ⟨-, hq⟩ | ⟨-, hq⟩ <;> cases hq <;> rfl)
      | (obtain ⟨_, _, _, _, hq⟩ := mi_i2 hs; cases hq; rfl)
  | dconst x0 =>
    match x0, hs with
    | 0, hs => cases mi_go (show mm_go nx L _ = some _ from hs); rfl
    | 1, hs => cases hs
  | ddiv =>
    simp only [mm_stp, mm_fI_eq, mm_fL_eq, mm_fN_eq] at hs
    repeat' split at hs
    all_goals first
      | (cases hs; done)
      | (cases hs; rfl)
      | (cases mi_go hs; rfl)
      | (obtain ⟨-, hq⟩ := mi_wr hs; cases hq; rfl)
      | (obtain ⟨_, _, hq⟩ := mi_br hs; rcases hq with ⟨-, hq⟩ | ⟨-, hq⟩ <;> cases hq <;> rfl)
      | (obtain ⟨_, _, _, _, hq⟩ := mi_i2 hs; cases hq; rfl)
  | dload x0 => obtain ⟨_, _, _, hq⟩ := mi_ld (show mm_ld nx L st (x0) _ = some _ from hs); cases hq; rfl
  | dload_n x0 => obtain ⟨_, _, _, hq⟩ := mi_ld (show mm_ld nx L st (x0.val) _ = some _ from hs); cases hq; rfl
  | dmul => cases hs
  | dneg => cases hs
  | drem => cases hs
  | dreturn => cases hs
  | dstore x0 => obtain ⟨_, _, _, _, _, hS, hq⟩ := mi_s2 (show mm_s2 nx L st (x0) _ = some _ from hs); cases hq; exact (mm_set2_keep hS).2.1
  | dstore_n x0 => cases hs
  | dsub => cases hs
  | dup =>
    simp only [mm_stp, mm_fI_eq, mm_fL_eq, mm_fN_eq] at hs
    repeat' split at hs
    all_goals first
      | (cases hs; done)
      | (cases hs; rfl)
      | (cases mi_go hs; rfl)
      | (obtain ⟨-, hq⟩ := mi_wr hs; cases hq; rfl)
      | (obtain ⟨_, _, hq⟩ := mi_br hs; rcases hq with ⟨-, hq⟩ | ⟨-, hq⟩ <;> cases hq <;> rfl)
      | (obtain ⟨_, _, _, _, hq⟩ := mi_i2 hs; cases hq; rfl)
  | dup_x1 =>
    simp only [mm_stp, mm_fI_eq, mm_fL_eq, mm_fN_eq] at hs
    repeat' split at hs
    all_goals first
      | (cases hs; done)
      | (cases hs; rfl)
      | (cases mi_go hs; rfl)
      | (obtain ⟨-, hq⟩ := mi_wr hs; cases hq; rfl)
      | (obtain ⟨_, _, hq⟩ := mi_br hs; rcases hq with ⟨-, hq⟩ | ⟨-, hq⟩ <;> cases hq <;> rfl)
      | (obtain ⟨_, _, _, _, hq⟩ := mi_i2 hs; cases hq; rfl)
  | dup_x2 => cases hs
  | dup2 =>
    simp only [mm_stp, mm_fI_eq, mm_fL_eq, mm_fN_eq] at hs
    repeat' split at hs
    all_goals first
      | (cases hs; done)
      | (cases hs; rfl)
      | (cases mi_go hs; rfl)
      | (obtain ⟨-, hq⟩ := mi_wr hs; cases hq; rfl)
      | (obtain ⟨_, _, hq⟩ := mi_br hs; rcases hq with ⟨-, hq⟩ | ⟨-, hq⟩ <;> cases hq <;> rfl)
      | (obtain ⟨_, _, _, _, hq⟩ := mi_i2 hs; cases hq; rfl)
  | dup2_x1 => cases hs
  | dup2_x2 => cases hs
  | f2d =>
    simp only [mm_stp, mm_fI_eq, mm_fL_eq, mm_fN_eq] at hs
    repeat' split at hs
    all_goals first
      | (cases hs; done)
      | (cases hs; rfl)
      | (cases mi_go hs; rfl)
      | (obtain ⟨-, hq⟩ := mi_wr hs; cases hq; rfl)
      | (obtain ⟨_, _, hq⟩ := mi_br hs; rcases hq with ⟨-, hq⟩ | ⟨-, hq⟩ <;> cases hq <;> rfl)
      | (obtain ⟨_, _, _, _, hq⟩ := mi_i2 hs; cases hq; rfl)
  | f2i => cases hs
  | f2l => cases hs
  | fadd => cases hs
  | faload => cases hs
  | fastore => cases hs
  | fcmp x0 => cases hs
  | fconst x0 =>
    match x0, hs with
    | 0, hs => cases mi_go (show mm_go nx L _ = some _ from hs); rfl
    | 1, hs => cases hs
    | 2, hs => cases hs
  | fdiv =>
    simp only [mm_stp, mm_fI_eq, mm_fL_eq, mm_fN_eq] at hs
    repeat' split at hs
    all_goals first
      | (cases hs; done)
      | (cases hs; rfl)
      | (cases mi_go hs; rfl)
      | (obtain ⟨-, hq⟩ := mi_wr hs; cases hq; rfl)
      | (obtain ⟨_, _, hq⟩ := mi_br hs; rcases hq with ⟨-, hq⟩ | ⟨-, hq⟩ <;> cases hq <;> rfl)
      | (obtain ⟨_, _, _, _, hq⟩ := mi_i2 hs; cases hq; rfl)
  | fload x0 => cases hs
  | fload_n x0 => cases hs
  | fmul => cases hs
  | fneg => cases hs
  | frem => cases hs
  | freturn => cases hs
  | fstore x0 => cases hs
  | fstore_n x0 => cases hs
  | fsub => cases hs
  | getfield x0 =>
    simp only [mm_stp, mm_fI_eq, mm_fL_eq, mm_fN_eq] at hs
    repeat' split at hs
    all_goals first
      | (cases hs; done)
      | (cases hs; rfl)
      | (cases mi_go hs; rfl)
      | (obtain ⟨-, hq⟩ := mi_wr hs; cases hq; rfl)
      | (obtain ⟨_, _, hq⟩ := mi_br hs; rcases hq with ⟨-, hq⟩ | ⟨-, hq⟩ <;> cases hq <;> rfl)
      | (obtain ⟨_, _, _, _, hq⟩ := mi_i2 hs; cases hq; rfl)
  | getstatic x0 =>
    simp only [mm_stp, mm_fI_eq, mm_fL_eq, mm_fN_eq] at hs
    repeat' split at hs
    all_goals first
      | (cases hs; done)
      | (cases hs; rfl)
      | (cases mi_go hs; rfl)
      | (obtain ⟨-, hq⟩ := mi_wr hs; cases hq; rfl)
      | (obtain ⟨_, _, hq⟩ := mi_br hs; rcases hq with ⟨-, hq⟩ | ⟨-, hq⟩ <;> cases hq <;> rfl)
      | (obtain ⟨_, _, _, _, hq⟩ := mi_i2 hs; cases hq; rfl)
  | goto x0 =>
    simp only [mm_stp, mm_fI_eq, mm_fL_eq, mm_fN_eq] at hs
    repeat' split at hs
    all_goals first
      | (cases hs; done)
      | (cases hs; rfl)
      | (cases mi_go hs; rfl)
      | (obtain ⟨-, hq⟩ := mi_wr hs; cases hq; rfl)
      | (obtain ⟨_, _, hq⟩ := mi_br hs; rcases hq with ⟨-, hq⟩ | ⟨-, hq⟩ <;> cases hq <;> rfl)
      | (obtain ⟨_, _, _, _, hq⟩ := mi_i2 hs; cases hq; rfl)
  | goto_w x0 => cases hs
  | i2b => obtain ⟨_, _, _, hq⟩ := mi_i1 (show mm_i1 nx L st _ = some _ from hs); cases hq; rfl
  | i2c => obtain ⟨_, _, _, hq⟩ := mi_i1 (show mm_i1 nx L st _ = some _ from hs); cases hq; rfl
  | i2d =>
    simp only [mm_stp, mm_fI_eq, mm_fL_eq, mm_fN_eq] at hs
    repeat' split at hs
    all_goals first
      | (cases hs; done)
      | (cases hs; rfl)
      | (cases mi_go hs; rfl)
      | (obtain ⟨-, hq⟩ := mi_wr hs; cases hq; rfl)
      | (obtain ⟨_, _, hq⟩ := mi_br hs; rcases hq with ⟨-, hq⟩ | ⟨-, hq⟩ <;> cases hq <;> rfl)
      | (obtain ⟨_, _, _, _, hq⟩ := mi_i2 hs; cases hq; rfl)
  | i2f =>
    simp only [mm_stp, mm_fI_eq, mm_fL_eq, mm_fN_eq] at hs
    repeat' split at hs
    all_goals first
      | (cases hs; done)
      | (cases hs; rfl)
      | (cases mi_go hs; rfl)
      | (obtain ⟨-, hq⟩ := mi_wr hs; cases hq; rfl)
      | (obtain ⟨_, _, hq⟩ := mi_br hs; rcases hq with ⟨-, hq⟩ | ⟨-, hq⟩ <;> cases hq <;> rfl)
      | (obtain ⟨_, _, _, _, hq⟩ := mi_i2 hs; cases hq; rfl)
  | i2l =>
    simp only [mm_stp, mm_fI_eq, mm_fL_eq, mm_fN_eq] at hs
    repeat' split at hs
    all_goals first
      | (cases hs; done)
      | (cases hs; rfl)
      | (cases mi_go hs; rfl)
      | (obtain ⟨-, hq⟩ := mi_wr hs; cases hq; rfl)
      | (obtain ⟨_, _, hq⟩ := mi_br hs; rcases hq with ⟨-, hq⟩ | ⟨-, hq⟩ <;> cases hq <;> rfl)
      | (obtain ⟨_, _, _, _, hq⟩ := mi_i2 hs; cases hq; rfl)
  | i2s => cases hs
  | iadd => obtain ⟨_, _, _, _, hq⟩ := mi_i2 (show mm_i2 nx L st _ = some _ from hs); cases hq; rfl
  | iaload =>
    simp only [mm_stp, mm_fI_eq, mm_fL_eq, mm_fN_eq] at hs
    repeat' split at hs
    all_goals first
      | (cases hs; done)
      | (cases hs; rfl)
      | (cases mi_go hs; rfl)
      | (obtain ⟨-, hq⟩ := mi_wr hs; cases hq; rfl)
      | (obtain ⟨_, _, hq⟩ := mi_br hs; rcases hq with ⟨-, hq⟩ | ⟨-, hq⟩ <;> cases hq <;> rfl)
      | (obtain ⟨_, _, _, _, hq⟩ := mi_i2 hs; cases hq; rfl)
  | iand => obtain ⟨_, _, _, _, hq⟩ := mi_i2 (show mm_i2 nx L st _ = some _ from hs); cases hq; rfl
  | iastore =>
    simp only [mm_stp, mm_fI_eq, mm_fL_eq, mm_fN_eq] at hs
    repeat' split at hs
    all_goals first
      | (cases hs; done)
      | (cases hs; rfl)
      | (cases mi_go hs; rfl)
      | (obtain ⟨-, hq⟩ := mi_wr hs; cases hq; rfl)
      | (obtain ⟨_, _, hq⟩ := mi_br hs; rcases hq with ⟨-, hq⟩ | ⟨-, hq⟩ <;> cases hq <;> rfl)
      | (obtain ⟨_, _, _, _, hq⟩ := mi_i2 hs; cases hq; rfl)
  | iconst x0 =>
    simp only [mm_stp, mm_fI_eq, mm_fL_eq, mm_fN_eq] at hs
    repeat' split at hs
    all_goals first
      | (cases hs; done)
      | (cases hs; rfl)
      | (cases mi_go hs; rfl)
      | (obtain ⟨-, hq⟩ := mi_wr hs; cases hq; rfl)
      | (obtain ⟨_, _, hq⟩ := mi_br hs; rcases hq with ⟨-, hq⟩ | ⟨-, hq⟩ <;> cases hq <;> rfl)
      | (obtain ⟨_, _, _, _, hq⟩ := mi_i2 hs; cases hq; rfl)
  | idiv =>
    simp only [mm_stp, mm_fI_eq, mm_fL_eq, mm_fN_eq] at hs
    repeat' split at hs
    all_goals first
      | (cases hs; done)
      | (cases hs; rfl)
      | (cases mi_go hs; rfl)
      | (obtain ⟨-, hq⟩ := mi_wr hs; cases hq; rfl)
      | (obtain ⟨_, _, hq⟩ := mi_br hs; rcases hq with ⟨-, hq⟩ | ⟨-, hq⟩ <;> cases hq <;> rfl)
      | (obtain ⟨_, _, _, _, hq⟩ := mi_i2 hs; cases hq; rfl)
  | if_acmp x0 x1 => cases hs
  | if_icmp x0 x1 =>
    simp only [mm_stp, mm_fI_eq, mm_fL_eq, mm_fN_eq] at hs
    repeat' split at hs
    all_goals first
      | (cases hs; done)
      | (cases hs; rfl)
      | (cases mi_go hs; rfl)
      | (obtain ⟨-, hq⟩ := mi_wr hs; cases hq; rfl)
      | (obtain ⟨_, _, hq⟩ := mi_br hs; rcases hq with ⟨-, hq⟩ | ⟨-, hq⟩ <;> cases hq <;> rfl)
      | (obtain ⟨_, _, _, _, hq⟩ := mi_i2 hs; cases hq; rfl)
  | ifCond x0 x1 =>
    simp only [mm_stp, mm_fI_eq, mm_fL_eq, mm_fN_eq] at hs
    repeat' split at hs
    all_goals first
      | (cases hs; done)
      | (cases hs; rfl)
      | (cases mi_go hs; rfl)
      | (obtain ⟨-, hq⟩ := mi_wr hs; cases hq; rfl)
      | (obtain ⟨_, _, hq⟩ := mi_br hs; rcases hq with ⟨-, hq⟩ | ⟨-, hq⟩ <;> cases hq <;> rfl)
      | (obtain ⟨_, _, _, _, hq⟩ := mi_i2 hs; cases hq; rfl)
  | ifnonnull x0 =>
    simp only [mm_stp, mm_fI_eq, mm_fL_eq, mm_fN_eq] at hs
    repeat' split at hs
    all_goals first
      | (cases hs; done)
      | (cases hs; rfl)
      | (cases mi_go hs; rfl)
      | (obtain ⟨-, hq⟩ := mi_wr hs; cases hq; rfl)
      | (obtain ⟨_, _, hq⟩ := mi_br hs; rcases hq with ⟨-, hq⟩ | ⟨-, hq⟩ <;> cases hq <;> rfl)
      | (obtain ⟨_, _, _, _, hq⟩ := mi_i2 hs; cases hq; rfl)
  | ifnull x0 =>
    simp only [mm_stp, mm_fI_eq, mm_fL_eq, mm_fN_eq] at hs
    repeat' split at hs
    all_goals first
      | (cases hs; done)
      | (cases hs; rfl)
      | (cases mi_go hs; rfl)
      | (obtain ⟨-, hq⟩ := mi_wr hs; cases hq; rfl)
      | (obtain ⟨_, _, hq⟩ := mi_br hs; rcases hq with ⟨-, hq⟩ | ⟨-, hq⟩ <;> cases hq <;> rfl)
      | (obtain ⟨_, _, _, _, hq⟩ := mi_i2 hs; cases hq; rfl)
  | iinc x0 x1 =>
    simp only [mm_stp, mm_fI_eq] at hs
    split at hs
    · split at hs
      · rename_i hS
        cases mi_go hs
        exact (mm_set1_keep hS).2.1
      · cases hs
    · cases hs
  | iload x0 => obtain ⟨_, _, _, hq⟩ := mi_ld (show mm_ld nx L st (x0) _ = some _ from hs); cases hq; rfl
  | iload_n x0 => obtain ⟨_, _, _, hq⟩ := mi_ld (show mm_ld nx L st (x0.val) _ = some _ from hs); cases hq; rfl
  | imul => obtain ⟨_, _, _, _, hq⟩ := mi_i2 (show mm_i2 nx L st _ = some _ from hs); cases hq; rfl
  | ineg => obtain ⟨_, _, _, hq⟩ := mi_i1 (show mm_i1 nx L st _ = some _ from hs); cases hq; rfl
  | instanceof x0 => cases hs
  | invokedynamic x0 => cases hs
  | invokeinterface x0 x1 => cases hs
  | invokespecial x0 =>
    simp only [mm_stp] at hs
    split at hs
    · split at hs
      · split at hs
        · cases mi_go hs; rfl
        · cases hs
      · cases hs
    · exact (mm_call_no hs).elim
  | invokestatic x0 =>
    simp only [mm_stp] at hs
    split at hs
    · rw [mi_cpL hs]
    · obtain ⟨_, _, _, _, _, hq⟩ := mi_math hs; cases hq; rfl
    · obtain ⟨_, _, _, _, _, hq⟩ := mi_math hs; cases hq; rfl
    · exact (mm_call_no hs).elim
  | invokevirtual x0 => exact (mm_call_no (show mm_call X h nx L st ax = _ from hs)).elim
  | ior => obtain ⟨_, _, _, _, hq⟩ := mi_i2 (show mm_i2 nx L st _ = some _ from hs); cases hq; rfl
  | irem =>
    simp only [mm_stp, mm_fI_eq, mm_fL_eq, mm_fN_eq] at hs
    repeat' split at hs
    all_goals first
      | (cases hs; done)
      | (cases hs; rfl)
      | (cases mi_go hs; rfl)
      | (obtain ⟨-, hq⟩ := mi_wr hs; cases hq; rfl)
      | (obtain ⟨_, _, hq⟩ := mi_br hs; rcases hq with ⟨-, hq⟩ | ⟨-, hq⟩ <;> cases hq <;> rfl)
      | (obtain ⟨_, _, _, _, hq⟩ := mi_i2 hs; cases hq; rfl)
  | ireturn => cases hs
  | ishl => obtain ⟨_, _, _, _, hq⟩ := mi_i2 (show mm_i2 nx L st _ = some _ from hs); cases hq; rfl
  | ishr => obtain ⟨_, _, _, _, hq⟩ := mi_i2 (show mm_i2 nx L st _ = some _ from hs); cases hq; rfl
  | istore x0 => obtain ⟨_, _, _, _, _, hS, hq⟩ := mi_s1 (show mm_s1 nx L st (x0) _ = some _ from hs); cases hq; exact (mm_set1_keep hS).2.1
  | istore_n x0 => obtain ⟨_, _, _, _, _, hS, hq⟩ := mi_s1 (show mm_s1 nx L st (x0.val) _ = some _ from hs); cases hq; exact (mm_set1_keep hS).2.1
  | isub => obtain ⟨_, _, _, _, hq⟩ := mi_i2 (show mm_i2 nx L st _ = some _ from hs); cases hq; rfl
  | iushr => obtain ⟨_, _, _, _, hq⟩ := mi_i2 (show mm_i2 nx L st _ = some _ from hs); cases hq; rfl
  | ixor => obtain ⟨_, _, _, _, hq⟩ := mi_i2 (show mm_i2 nx L st _ = some _ from hs); cases hq; rfl
  | jsr x0 => cases hs
  | jsr_w x0 => cases hs
  | l2d => cases hs
  | l2f => cases hs
  | l2i => cases hs
  | ladd => cases hs
  | laload =>
    simp only [mm_stp, mm_fI_eq, mm_fL_eq, mm_fN_eq] at hs
    repeat' split at hs
    all_goals first
      | (cases hs; done)
      | (cases hs; rfl)
      | (cases mi_go hs; rfl)
      | (obtain ⟨-, hq⟩ := mi_wr hs; cases hq; rfl)
      | (obtain ⟨_, _, hq⟩ := mi_br hs; rcases hq with ⟨-, hq⟩ | ⟨-, hq⟩ <;> cases hq <;> rfl)
      | (obtain ⟨_, _, _, _, hq⟩ := mi_i2 hs; cases hq; rfl)
  | land => cases hs
  | lastore =>
    simp only [mm_stp, mm_fI_eq, mm_fL_eq, mm_fN_eq] at hs
    repeat' split at hs
    all_goals first
      | (cases hs; done)
      | (cases hs; rfl)
      | (cases mi_go hs; rfl)
      | (obtain ⟨-, hq⟩ := mi_wr hs; cases hq; rfl)
      | (obtain ⟨_, _, hq⟩ := mi_br hs; rcases hq with ⟨-, hq⟩ | ⟨-, hq⟩ <;> cases hq <;> rfl)
      | (obtain ⟨_, _, _, _, hq⟩ := mi_i2 hs; cases hq; rfl)
  | lcmp =>
    simp only [mm_stp, mm_fI_eq, mm_fL_eq, mm_fN_eq] at hs
    repeat' split at hs
    all_goals first
      | (cases hs; done)
      | (cases hs; rfl)
      | (cases mi_go hs; rfl)
      | (obtain ⟨-, hq⟩ := mi_wr hs; cases hq; rfl)
      | (obtain ⟨_, _, hq⟩ := mi_br hs; rcases hq with ⟨-, hq⟩ | ⟨-, hq⟩ <;> cases hq <;> rfl)
      | (obtain ⟨_, _, _, _, hq⟩ := mi_i2 hs; cases hq; rfl)
  | lconst x0 => cases mi_go (show mm_go nx L _ = some _ from hs); rfl
  | ldc x0 =>
    simp only [mm_stp, mm_fI_eq, mm_fL_eq, mm_fN_eq] at hs
    repeat' split at hs
    all_goals first
      | (cases hs; done)
      | (cases hs; rfl)
      | (cases mi_go hs; rfl)
      | (obtain ⟨-, hq⟩ := mi_wr hs; cases hq; rfl)
      | (obtain ⟨_, _, hq⟩ := mi_br hs; rcases hq with ⟨-, hq⟩ | ⟨-, hq⟩ <;> cases hq <;> rfl)
      | (obtain ⟨_, _, _, _, hq⟩ := mi_i2 hs; cases hq; rfl)
  | ldc_w x0 =>
    simp only [mm_stp, mm_fI_eq, mm_fL_eq, mm_fN_eq] at hs
    repeat' split at hs
    all_goals first
      | (cases hs; done)
      | (cases hs; rfl)
      | (cases mi_go hs; rfl)
      | (obtain ⟨-, hq⟩ := mi_wr hs; cases hq; rfl)
      | (obtain ⟨_, _, hq⟩ := mi_br hs; rcases hq with ⟨-, hq⟩ | ⟨-, hq⟩ <;> cases hq <;> rfl)
      | (obtain ⟨_, _, _, _, hq⟩ := mi_i2 hs; cases hq; rfl)
  | ldc2_w x0 =>
    simp only [mm_stp, mm_fI_eq, mm_fL_eq, mm_fN_eq] at hs
    repeat' split at hs
    all_goals first
      | (cases hs; done)
      | (cases hs; rfl)
      | (cases mi_go hs; rfl)
      | (obtain ⟨-, hq⟩ := mi_wr hs; cases hq; rfl)
      | (obtain ⟨_, _, hq⟩ := mi_br hs; rcases hq with ⟨-, hq⟩ | ⟨-, hq⟩ <;> cases hq <;> rfl)
      | (obtain ⟨_, _, _, _, hq⟩ := mi_i2 hs; cases hq; rfl)
  | ldiv => cases hs
  | lload x0 => obtain ⟨_, _, _, hq⟩ := mi_ld (show mm_ld nx L st (x0) _ = some _ from hs); cases hq; rfl
  | lload_n x0 => obtain ⟨_, _, _, hq⟩ := mi_ld (show mm_ld nx L st (x0.val) _ = some _ from hs); cases hq; rfl
  | lmul => cases hs
  | lneg => cases hs
  | lookupswitch x0 x1 => cases hs
  | lor => cases hs
  | lrem => cases hs
  | lreturn => cases hs
  | lshl => cases hs
  | lshr => cases hs
  | lstore x0 => obtain ⟨_, _, _, _, _, hS, hq⟩ := mi_s2 (show mm_s2 nx L st (x0) _ = some _ from hs); cases hq; exact (mm_set2_keep hS).2.1
  | lstore_n x0 => cases hs
  | lsub => cases hs
  | lushr => cases hs
  | lxor => cases hs
  | monitorenter => cases hs
  | monitorexit => cases hs
  | multianewarray x0 x1 => cases hs
  | new x0 =>
    simp only [mm_stp, mm_fI_eq, mm_fL_eq, mm_fN_eq] at hs
    repeat' split at hs
    all_goals first
      | (cases hs; done)
      | (cases hs; rfl)
      | (cases mi_go hs; rfl)
      | (obtain ⟨-, hq⟩ := mi_wr hs; cases hq; rfl)
      | (obtain ⟨_, _, hq⟩ := mi_br hs; rcases hq with ⟨-, hq⟩ | ⟨-, hq⟩ <;> cases hq <;> rfl)
      | (obtain ⟨_, _, _, _, hq⟩ := mi_i2 hs; cases hq; rfl)
  | newarray x0 =>
    simp only [mm_stp, mm_fI_eq, mm_fL_eq, mm_fN_eq] at hs
    repeat' split at hs
    all_goals first
      | (cases hs; done)
      | (cases hs; rfl)
      | (cases mi_go hs; rfl)
      | (obtain ⟨-, hq⟩ := mi_wr hs; cases hq; rfl)
      | (obtain ⟨_, _, hq⟩ := mi_br hs; rcases hq with ⟨-, hq⟩ | ⟨-, hq⟩ <;> cases hq <;> rfl)
      | (obtain ⟨_, _, _, _, hq⟩ := mi_i2 hs; cases hq; rfl)
  | nop => cases hs
  | pop =>
    simp only [mm_stp, mm_fI_eq, mm_fL_eq, mm_fN_eq] at hs
    repeat' split at hs
    all_goals first
      | (cases hs; done)
      | (cases hs; rfl)
      | (cases mi_go hs; rfl)
      | (obtain ⟨-, hq⟩ := mi_wr hs; cases hq; rfl)
      | (obtain ⟨_, _, hq⟩ := mi_br hs; rcases hq with ⟨-, hq⟩ | ⟨-, hq⟩ <;> cases hq <;> rfl)
      | (obtain ⟨_, _, _, _, hq⟩ := mi_i2 hs; cases hq; rfl)
  | pop2 => cases hs
  | putfield x0 =>
    simp only [mm_stp, mm_fI_eq, mm_fL_eq, mm_fN_eq] at hs
    repeat' split at hs
    all_goals first
      | (cases hs; done)
      | (cases hs; rfl)
      | (cases mi_go hs; rfl)
      | (obtain ⟨-, hq⟩ := mi_wr hs; cases hq; rfl)
      | (obtain ⟨_, _, hq⟩ := mi_br hs; rcases hq with ⟨-, hq⟩ | ⟨-, hq⟩ <;> cases hq <;> rfl)
      | (obtain ⟨_, _, _, _, hq⟩ := mi_i2 hs; cases hq; rfl)
  | putstatic x0 => cases hs
  | ret x0 => cases hs
  | return_ => cases hs
  | saload => cases hs
  | sastore => cases hs
  | sipush x0 =>
    simp only [mm_stp, mm_fI_eq, mm_fL_eq, mm_fN_eq] at hs
    repeat' split at hs
    all_goals first
      | (cases hs; done)
      | (cases hs; rfl)
      | (cases mi_go hs; rfl)
      | (obtain ⟨-, hq⟩ := mi_wr hs; cases hq; rfl)
      | (obtain ⟨_, _, hq⟩ := mi_br hs; rcases hq with ⟨-, hq⟩ | ⟨-, hq⟩ <;> cases hq <;> rfl)
      | (obtain ⟨_, _, _, _, hq⟩ := mi_i2 hs; cases hq; rfl)
  | swap => cases hs
  | tableswitch x0 x1 x2 x3 =>
    simp only [mm_stp, mm_fI_eq, mm_fL_eq, mm_fN_eq] at hs
    repeat' split at hs
    all_goals first
      | (cases hs; done)
      | (cases hs; rfl)
      | (cases mi_go hs; rfl)
      | (obtain ⟨-, hq⟩ := mi_wr hs; cases hq; rfl)
      | (obtain ⟨_, _, hq⟩ := mi_br hs; rcases hq with ⟨-, hq⟩ | ⟨-, hq⟩ <;> cases hq <;> rfl)
      | (obtain ⟨_, _, _, _, hq⟩ := mi_i2 hs; cases hq; rfl)
theorem mm_exe_ok (hX : mm_Xok X) (hC : mm_Cok) (hYs : mm_Sys) (hTh : mm_Thr) {P : Nat → Option mm_M} {hh : Nat → List (Nat × Nat × Nat × Nat)} {d : Nat} {callee : Nat → List Value → mm_H → Option (mm_V × mm_H)} (hY : mm_Yok N P hh) (hCc : mm_Cc l G X N P hh d callee) (hmo : ∀ j as h v h', callee j as h = some (v, h') → mm_le h h')
    (hF : mm_Fx p s m args c cc own G X) (hmn : meth.name = mn) {M : mm_M} (hcode : ∀ mi ∈ M.1, mm_okI own mn N cc mi = true) (hN : ∀ j as h v h', callee j as h = some (v, h') → ∃ y, N j = some y) (hml : c.maxLocals = M.2.1) (hlocks : meth.locks = false) (hst : l.stackTraces = false) (hH : mm_Hok s args c cc own M) (hG : G.1 ≤ s.heap.size) (hRf : d + 9 ≤ R.frames) (hRl : 100 * d + 300 ≤ R.locals) {n0 s0 : Nat} (h0 : s.heap.size = G.1 + n0) {res : mm_R} {h' : mm_H} (hE : mm_End p l e R s m args below meth c Q G M n0 s0 res h') (hR : h'.length - n0 ≤ R.cells ∧ mm_sum h' - s0 ≤ R.slots) :
    ∀ n pc L st h, mm_exe X P callee M n pc L st h = some (res, h') → ∀ H locs ls, mm_W G h H → va_S (mm_Ar G) s.heap H locs → mm_LH G ls L → L.length = M.2.1 → n0 ≤ h.length → s0 ≤ mm_sum h → W p l e R s m args below meth c H locs (h.length - n0) (mm_sum h - s0) Q (F0 m pc ls (st.map (mm_dn G))) := by
  intro n
  induction n with
  | zero => intro pc L st h he; cases he
  | succ n ih =>
    intro pc L st h he H locs ls hW hS hl hLl hn0 hs0
    have hmono := mm_exe_mono hmo _ _ _ _ _ _ _ he
    simp only [mm_exe] at he
    split at he
    · cases he
    · rename_i mi hmi
      obtain ⟨hmem, hpc⟩ := mm_lk_mem _ _ _ hmi
      obtain ⟨pc0, i, nx, ax⟩ := mi
      have hpc : pc0 = pc := hpc
      subst hpc
      have hI := hcode _ hmem
      have hZ : s.heap.size + (h.length - n0) = G.1 + h.length := by omega
      have hmlL : c.maxLocals = L.length := hml.trans hLl.symm
      split at he
      · cases he
      · -- on, heap as it is
        rename_i pc' L' st' hstp
        refine mm_mv hX hC hYs hF hmn hmlL ⟨by have := hmono.1; omega, by have := hmono.2; omega⟩ (by omega) (by omega) hI hG hZ hW hS hl hstp (fun c' q => by cases q) (fun _ ls' hl' => ?_) (fun _ _ q => by cases q) (fun _ q => by cases q)
        exact ih _ _ _ _ he H locs ls' hW hS hl' ((mm_slen hstp).trans hLl) hn0 hs0
      · -- a store
        rename_i pc' L' st' k1 c1 hstp
        split at he
        · rename_i c0 hc0
          split at he
          · rename_i hb
            rw [Nat.beq_eq] at hb
            have e1 : (h.set k1 c1).length = h.length := List.length_set
            have e2 : mm_sum (h.set k1 c1) = mm_sum h := mm_sum_set _ _ _ _ hc0 hb
            refine mm_mv hX hC hYs hF hmn hmlL ⟨by have := hmono.1; omega, by have := hmono.2; omega⟩ (by omega) (by omega) hI hG hZ hW hS hl hstp (fun c' q => by cases q) (fun q => by cases q) (fun i9 c9 q hL H1 locs1 hW1 hS1 => ?_) (fun _ q => by cases q)
            cases q
            subst hL
            have := ih _ _ _ _ he H1 locs1 ls hW1 hS1 hl hLl (by omega) (by omega)
            rw [e1, e2] at this
            exact this
          · cases he
        · cases he
      · -- a new cell
        rename_i pc' L' st' c1 hstp
        have hm2 := mm_exe_mono hmo _ _ _ _ _ _ _ he
        have e1 : (h ++ [c1]).length = h.length + 1 := by rw [List.length_append, List.length_singleton]
        have e2 : mm_sum (h ++ [c1]) = mm_sum h + mm_sl c1 := mm_sum_push _ _
        have g1 := hm2.1
        have g2 := hm2.2
        rw [e1] at g1
        rw [e2] at g2
        refine mm_mv hX hC hYs hF hmn hmlL ⟨by have := hmono.1; omega, by have := hmono.2; omega⟩ (by omega) (by omega) hI hG hZ hW hS hl hstp (fun c' q => by cases q; exact ⟨by omega, by omega⟩) (fun q => by cases q) (fun _ _ q => by cases q) (fun c9 q hL H1 hW1 hS1 => ?_)
        cases q
        subst hL
        have := ih _ _ _ _ he H1 locs ls hW1 hS1 hl hLl (by omega) (by omega)
        rw [e1, e2, show h.length + 1 - n0 = h.length - n0 + 1 by omega, show mm_sum h + mm_sl c1 - s0 = mm_sum h - s0 + mm_sl c1 by omega] at this
        exact this
      · -- a call
        rename_i j as r hstp
        have hcl : ((∃ x, i = .invokevirtual x) ∨ (∃ x, i = .invokestatic x) ∨ ∃ x, i = .invokespecial x) ∧ mm_call X h nx L st ax = some (.inr (.inl (j, as, r))) := by
          rcases mm_inr hstp with q | ⟨-, q⟩ | ⟨_, _, _, -, -, q, -⟩
          · exact q
          · cases q
          · cases q
        have hdn : nx = pc0 + 3 := by
          obtain ⟨hd, hn⟩ := mm_okI_dec hI (fun a b c d q => by rcases hcl.1 with ⟨x, rfl⟩ | ⟨x, rfl⟩ | ⟨x, rfl⟩ <;> cases q)
          rcases hcl.1 with ⟨x, rfl⟩ | ⟨x, rfl⟩ | ⟨x, rfl⟩ <;> exact hn
        split at he
        · cases he
        · rename_i h1 hcal
          have hle := hmo _ _ _ _ _ hcal
          have hm2 := mm_exe_mono hmo _ _ _ _ _ _ _ he
          obtain ⟨g1, g2⟩ := hle
          obtain ⟨g3, g4⟩ := hm2
          have hrun := mc_run (meth := meth) (below := below) (e := e) (cells := h.length - n0) (slots := mm_sum h - s0) hX hY hCc hF hcl.1 hI hG hW hS hl hmlL hRf hRl hcl.2 hcal ⟨g1, g2⟩ ⟨by omega, by omega⟩
          refine mc_ret hrun hS (fun H1 locs1 hW1 hS1 => ?_)
          have := ih _ _ _ _ he H1 locs1 ls hW1 hS1 hl hLl (by omega) (by omega)
          rw [show h.length - n0 + (h1.length - h.length) = h1.length - n0 by omega, show mm_sum h - s0 + (mm_sum h1 - mm_sum h) = mm_sum h1 - s0 by omega]
          rw [hdn] at this
          exact this
        · rename_i v h1 hcal
          have hle := hmo _ _ _ _ _ hcal
          have hm2 := mm_exe_mono hmo _ _ _ _ _ _ _ he
          obtain ⟨g1, g2⟩ := hle
          obtain ⟨g3, g4⟩ := hm2
          have hrun := mc_run (meth := meth) (below := below) (e := e) (cells := h.length - n0) (slots := mm_sum h - s0) hX hY hCc hF hcl.1 hI hG hW hS hl hmlL hRf hRl hcl.2 hcal ⟨g1, g2⟩ ⟨by omega, by omega⟩
          refine mc_ret hrun hS (fun H1 locs1 hW1 hS1 => ?_)
          have := ih _ _ _ _ he H1 locs1 ls hW1 hS1 hl hLl (by omega) (by omega)
          rw [show h.length - n0 + (h1.length - h.length) = h1.length - n0 by omega, show mm_sum h - s0 + (mm_sum h1 - mm_sum h) = mm_sum h1 - s0 by omega]
          rw [hdn] at this
          exact this
        · rename_i ci h1 hcal
          have hle := hmo _ _ _ _ _ hcal
          obtain ⟨g1, g2⟩ := hle
          split at he
          · rename_i t k hhd
            cases he
            have hrun := mc_run (meth := meth) (below := below) (e := e) (cells := h.length - n0) (slots := mm_sum h - s0) hX hY hCc hF hcl.1 hI hG hW hS hl hmlL hRf hRl hcl.2 hcal ⟨g1, g2⟩ ⟨by omega, by omega⟩
            refine mc_thr hrun hS (fun q ce rr H1 locs1 hrr hW1 hS1 hce hcv hcl1 => ?_)
            rw [show h.length - n0 + (h'.length - h.length) = h'.length - n0 by omega, show mm_sum h - s0 + (mm_sum h' - mm_sum h) = mm_sum h' - s0 by omega]
            unfold mm_Hok at hH
            unfold mm_hd at hhd
            split at hhd
            · cases hhd
            · rename_i a b t9 k9 cx hM4
              rw [hM4] at hH
              obtain ⟨x, qx, x1, x2, x3, x4, x5, x6, x7, x8, nx9, ax9, x9⟩ := hH
              split at hhd
              · rename_i hb
                cases hhd
                simp only [Bool.and_eq_true, Nat.ble_eq, Nat.beq_eq] at hb
                obtain ⟨b1, b2, b3⟩ := hb
                subst b3
                cases hrr.symm.trans x4
                refine vx_catch (own := own) hF.2.2.1 [] x [] (by rw [x1]; rfl) (fun z hz => by cases hz) (x2 _ b1 (by omega)) x3 x5 x6 hce hcv hcl1 ?_
                rcases x7 with ⟨kf, k1, k2, k3, k4⟩ | ⟨k2, k3, k4⟩
                · refine lv_astore_n hF.1 hF.2.1 k2 k1 hl (by omega) rfl (fun ls1 hl1 => ?_)
                  refine lv_iconst (v := 1) hF.1 hF.2.1 k3 (by decide) ?_
                  have := hE H1 locs1 ls1 _ _ _ hW1 hS1 (mm_LHk (by omega) hl1) x9 rfl
                  rw [k4] at this
                  exact this
                · refine lv_astore hF.1 hF.2.1 k2 hl (by omega) rfl (fun ls1 hl1 => ?_)
                  refine lv_iconst (v := 1) hF.1 hF.2.1 k3 (by decide) ?_
                  have := hE H1 locs1 ls1 _ _ _ hW1 hS1 (mm_LHk (by omega) hl1) x9 rfl
                  rw [k4] at this
                  exact this
              · cases hhd
            · cases hhd
          · rename_i hhd
            cases he
            have hM4 : M.2.2.2 = [] := by
              unfold mm_hd at hhd
              split at hhd
              · assumption
              · split at hhd <;> cases hhd
              · cases hhd
            have hrun := mc_run (meth := meth) (below := below) (e := e) (cells := h.length - n0) (slots := mm_sum h - s0) hX hY hCc hF hcl.1 hI hG hW hS hl hmlL hRf hRl hcl.2 hcal ⟨g1, g2⟩ ⟨by omega, by omega⟩
            refine mc_thr hrun hS (fun q ce rr H1 locs1 hrr hW1 hS1 hce hcv hcl1 => ?_)
            rw [show h.length - n0 + (h'.length - h.length) = h'.length - n0 by omega, show mm_sum h - s0 + (mm_sum h' - mm_sum h) = mm_sum h' - s0 by omega]
            unfold mm_Hok at hH
            rw [hM4] at hH
            obtain ⟨Qc, XC, hQ, hXC⟩ := hE
            rw [hQ]
            exact vx_out (fun x hx => (hH x hx).elim) hlocks hce hcv hcl1 (fun t ht hal => hXC rr hrr t hal (by rw [ht]; exact hW1) (hS1.F ht)) hS1.2.2 (Nat.le_refl _) (Nat.le_refl _)
          · cases he
      · -- a return
        rename_i hstp
        cases he
        have hri : mm_isR i = true := by
          rcases mm_inr hstp with ⟨-, q⟩ | ⟨q, -⟩ | ⟨_, _, _, -, -, q, -⟩
          · exfalso
            unfold mm_call at q
            split at q
            · split at q
              · cases q
              · split at q
                · cases q
                all_goals first
                  | (split at q <;> cases q)
                  | cases q
            · cases q
          · exact q
          · cases q
        exact hE H locs ls i nx ax hW hS hl hmem hri
      · -- a throw
        rename_i ci hstp
        split at he
        · rename_i hM4
          cases he
          obtain ⟨x, ci9, t9, rfl, rfl, e9, hst4⟩ : ∃ x ci9 t9, i = .new x ∧ ax = 1 :: ci9 :: t9 ∧ ci9 = ci ∧ st.length ≤ 4 := by
            rcases mm_inr hstp with ⟨-, q⟩ | ⟨-, q⟩ | ⟨x, ci9, t9, e1, e2, q, e3⟩
            · exfalso
              unfold mm_call at q
              split at q
              · split at q
                · cases q
                · split at q
                  · cases q
                  all_goals first
                    | (split at q <;> cases q)
                    | cases q
              · cases q
            · cases q
            · cases q; exact ⟨x, _, t9, e1, e2, rfl, e3⟩
          subst e9
          obtain ⟨hd, hn⟩ := mm_okI_dec hI (fun _ _ _ _ q => by cases q)
          obtain ⟨lw, hnd⟩ := mm_okI_need hI
          have hw := mm_need_wd hF hI hnd
          have hr := mm_okI_rest hI
          match t9, hnd, hr with
          | [], hnd, hr => cases hnd
          | [p0], hnd, hr => cases hr
          | [p0, ic], hnd, hr =>
            simp only [mm_rest, Bool.and_eq_true, decide_eq_true_eq] at hr
            obtain ⟨r1, r2, r3, r4⟩ := hr
            obtain ⟨q, t1, t2, t3, t4, t5, t6⟩ := hTh _ _ _ r1
            simp only [mm_need, t1] at hnd
            cases hnd
            obtain ⟨hx, hb, hown, hts, hEv, hXf⟩ := hF
            unfold mm_Hok at hH
            rw [hM4] at hH
            obtain ⟨Qc, XC, hQ, hXC⟩ := hE
            rw [hQ]
            have hgood : ∀ w ∈ Jvm.Cond.classLink own x q.1 :: Jvm.Cond.initialized q.1 :: vx_at0 own ic q.1 mm_nm3, vx_ot w = true := by
              intro w hw9
              rcases List.mem_cons.mp hw9 with rfl | hw9
              · rfl
              · rcases List.mem_cons.mp hw9 with rfl | hw9
                · rfl
                · exact (t6 w hw9).2.2
            have hat : ∀ w ∈ vx_at0 own ic q.1 mm_nm3, w.before args s = true := fun w hw9 => by
              obtain ⟨i9, hi9⟩ := List.getElem?_of_mem (t6 w hw9).1
              exact mm_wd ⟨hx, hb, hown, hts, hEv, hXf⟩ (t6 w hw9).2.1 hi9
            have e1 : (h ++ [(.inr (.inr (ci9, [])) : mm_C)]).length = h.length + 1 := by rw [List.length_append, List.length_singleton]
            have e2 : mm_sum (h ++ [(.inr (.inr (ci9, [])) : mm_C)]) = mm_sum h + 6 := by
              rw [mm_sum_push]
              congr 1
              show (match Nat.ble 15 ci9 with | true => 6 | false => ([] : List Value).length) = 6
              rw [Nat.ble_eq.mpr t4]
            have hcat : ((st.map (mm_dn G)).map fun v => v.category).sum ≤ 8 := by rw [mm_map_cat]; exact mm_rest8 st hst4
            refine mx_throw0 (ls := ls) (names := mm_nm3) (A := mm_Ar G) hx hb hst hown t3 (by decide +kernel) (hw _ List.mem_cons_self) (hts _ t5) hat hgood hEv.2.2.2.2.2.1.1 hEv.2.2.2.2.2.1.2 hS (hl.1.trans hmlL.symm) hd r2 r3 r4 (fun x9 hx9 => (hH x9 hx9).elim) (by show 2 + 3 < _; omega) (by show _ + (13 * (2 + 1) + 42) ≤ _; omega) (by omega) (by omega) hlocks (fun t hal hsz hpr hce => ?_) hS.2.2 (by rw [e1]; omega) (by rw [e2]; omega)
            have hwsz := hW.2
            refine hXC q t1 t hal ?_ ⟨by have := hS.1; omega, fun q9 h1 h2 => by rw [hpr q9 (Nat.lt_of_lt_of_le h1 hS.1)]; exact hS.2.1 q9 h1 h2⟩
            refine ⟨?_, by rw [e1, hsz, hwsz]; omega⟩
            rw [mm_ws_push]
            refine va_P.app (hW.1.kept (fun k9 q9 hk9 => hpr _ (hW.1 k9 q9 hk9).lt)) (fun k9 q9 hk9 => ?_)
            have hk0 : k9 = 0 := by
              have := (List.getElem?_eq_some_iff.mp hk9).1
              simpa using this
            subst hk0
            cases hk9
            obtain ⟨ce, c1, c2, c3⟩ := hce
            have hcl := mm_cl_get t1
            refine ⟨_, hcl, ce, by rw [← hwsz]; exact c1, ?_, c2, fun k9 hk9 => by rw [t2] at hk9; cases hk9⟩
            exact Option.some.inj (c3.symm.trans (hEv.1.1 ci9 _ hcl).2.1)
          | _ :: _ :: _ :: _, hnd, hr => cases hr
        · cases he
end MB
end
section
/-! ===== a method of the table meets the contract of its run ===== -/
/-- which returning instruction, which type, for a kind of answer -/
def mm_rkI (t : Nat) (i : Instr) : Bool := match t, i with
  | 0, .return_ => true
  | 1, .ireturn => true
  | 2, .ireturn => true
  | 3, .ireturn => true
  | 4, .ireturn => true
  | 5, .areturn => true
  | 6, .freturn => true
  | 7, .dreturn => true
  | _, _ => false
def mm_rkT (t : Nat) (r : Option FieldType) : Bool := match t, r with
  | 0, none => true
  | 1, some .int => true
  | 2, some .boolean => true
  | 3, some .char => true
  | 4, some .byte => true
  | 5, some (.object _) => true
  | 5, some (.array _) => true
  | 6, some .float => true
  | 7, some .double => true
  | _, _ => false
def mm_hck (own : String) (b : ByteArray) (M : mm_M) (hh : List (Nat × Nat × Nat × Nat)) : Bool := match M.2.2.2, hh with
  | [], [] => true
  | [(a, z, t, k, cx)], [(a', z', hp, ct)] => decide (a = a' ∧ z = z' ∧ ct ≠ 0) && ((match mm_cls[cx]? with
    | some q => decide (Jvm.Cond.classLink own ct q.1 ∈ mt_g) && decide (Jvm.Cond.castable q.1 q.1 ∈ mt_tbl)
    | none => false) && (((Nat.ble k 3 && (decide (decode b hp = .ok (.astore_n (Fin.ofNat 4 k), 1)) && (decide (decode b (hp + 1) = .ok (.iconst 1, 1)) && decide (t = hp + 2)))) || (decide (decode b hp = .ok (.astore k, 2)) && (decide (decode b (hp + 2) = .ok (.iconst 1, 1)) && decide (t = hp + 3)))) && (decide (k < M.2.1) && M.1.any (fun mi => decide (mi = (t, Instr.ireturn, t + 1, []))))))
  | _, _ => false
/-- the whole table of methods -/
def mm_Zok (N : Nat → Option mm_N) (P : Nat → Option mm_M) (hh : Nat → List (Nat × Nat × Nat × Nat)) : Prop := ∀ j y M, N j = some y → P j = some M → (∀ mi ∈ M.1, mm_okI y.1.cls y.1.name N y.2.1 mi = true ∧ (mm_isR mi.2.1 = true → mm_rkI M.2.2.1 mi.2.1 = true)) ∧ mm_rkT M.2.2.1 y.2.2.1 = true ∧ mm_hck y.1.cls y.2.1 M (hh j) = true ∧ (y.2.2.2 = false → hh j = [])
theorem mm_entry_len : ∀ (n : Nat) (as : List Value), mm_cats as ≤ n → (mm_entry n as).length = n
  | n, [], _ => by simp [mm_entry]
  | n, v :: r, h => by
    unfold mm_cats at h
    unfold mm_entry
    split at h
    · rename_i hc
      rw [if_pos hc, List.length_cons, List.length_cons, mm_entry_len (n - 2) r (by omega)]
      omega
    · rename_i hc
      rw [if_neg (by rw [hc]; decide), List.length_cons, mm_entry_len (n - 1) r (by omega)]
      omega
theorem mm_entry_al {G : mm_G} : ∀ (as : List Value) (n k : Nat) (q : Nat × Value), q ∈ mm_al G k (mm_entry n as) → q ∈ lv_args k (as.map (mm_dn G))
  | [], n, k, q, h => by
    have : ∀ (n k : Nat), mm_al G k (List.replicate n (none : Option Value)) = [] := by
      intro n
      induction n with
      | zero => intro k; rfl
      | succ n ih => intro k; exact ih (k + 1)
    rw [mm_entry, this] at h
    cases h
  | v :: r, n, k, q, h => by
    unfold mm_entry at h
    rw [List.map_cons, lv_args]
    split at h
    · rename_i hc
      rw [if_pos (by rw [mm_cat]; exact (mm_cat2_iff v).mp hc)]
      rcases List.mem_cons.mp (show q ∈ (k, mm_dn G v) :: mm_al G (k + 1 + 1) (mm_entry (n - 2) r) from h) with rfl | h
      · exact List.mem_cons_self
      · exact List.mem_cons_of_mem _ (mm_entry_al r _ _ q h)
    · rename_i hc
      rw [if_neg (by rw [mm_cat]; exact fun z => hc ((mm_cat2_iff v).mpr z))]
      rcases List.mem_cons.mp (show q ∈ (k, mm_dn G v) :: mm_al G (k + 1) (mm_entry (n - 1) r) from h) with rfl | h
      · exact List.mem_cons_self
      · exact List.mem_cons_of_mem _ (mm_entry_al r _ _ q h)
theorem mm_sl_len {G : mm_G} : ∀ as : List Value, (lg_sl (as.map (mm_dn G))).length = mm_cats as
  | [] => rfl
  | v :: r => by
    have h1 : lg_sl ((v :: r).map (mm_dn G)) = (if (mm_dn G v).category = 2 then [.val (mm_dn G v), .second] else [.val (mm_dn G v)]) ++ lg_sl (r.map (mm_dn G)) := rfl
    rw [h1, List.length_append, mm_sl_len r, mm_cats, mm_cat]
    by_cases c : mm_cat2 v = true
    · rw [if_pos ((mm_cat2_iff v).mp c), c]; rfl
    · rw [if_neg (fun z => c ((mm_cat2_iff v).mpr z))]
      rw [Bool.not_eq_true] at c
      rw [c]; rfl
theorem mm_entry_LH {G : mm_G} {as : List Value} {n : Nat} (h : mm_cats as ≤ n) : mm_LH G ((lg_sl (as.map (mm_dn G)) ++ List.replicate (n - (lg_sl (as.map (mm_dn G))).length) Slot.unset).toArray) (mm_entry n as) := by
  have h1 := lv_entry (as.map (mm_dn G)) (n := n) (by rw [mm_sl_len]; exact h)
  refine ⟨by rw [mm_entry_len n as h]; exact h1.1, h1.2.1, fun q hq => h1.2.2 q (mm_entry_al as n 0 q hq)⟩
theorem mm_narC {x : Int32} (h : mm_un x ≤ 65535) : narrow .char (.int x) = .int x := by
  have h1 : (nI (mm_un x)) = x := by
    apply Int32.toBitVec_inj.mp
    show BitVec.ofNat 32 (x.toBitVec.toNat) = x.toBitVec
    simp
  have h2 := (pk_charN (q := mm_un x) (by omega)).1
  rw [h1] at h2
  exact h2
section MM
variable {p : Program} {l : Launch} {e : Env} {R : Room} {s : State} {m : MethodId} {args : Array Value} {below : List Frame} {meth : Method} {c : Code} {H : Heap} {locs : List Loc} {cells slots : Nat}
variable {cc : ByteArray} {pc : Nat} {ls : Array Slot} {G : mm_G} {X : mm_X}
/-- a returning instruction, by the kind of the answer -/
theorem mm_retW {t : Nat} {i : Instr} {st : List Value} {v : mm_V} {ret : Option FieldType} {Qc : Array Value → State → Outcome → State → Prop} (hx : p.tables.exec = Jvm.exec) (hb : c.code = cc) (hr : meth.sig.returnType = ret) (hT : mm_rkT t ret = true) (hI : mm_rkI t i = true) (hd : decode cc pc = .ok (i, 1)) (hlocks : meth.locks = false) (ha : mm_ans t st = some v)
    (hq : ∀ w, v = .inl w → ∀ t : State, t.heap = H → s.WarmedH t.vm → Qc args s (.returned (w.map (mm_dn G))) t) (hf : ∀ q ∈ locs, mm_Ar G q.base) : W p l e R s m args below meth c H locs cells slots (MQ below Qc args s cells slots (mm_Ar G)) (F0 m pc ls (st.map (mm_dn G))) := by
  unfold mm_rkI at hI
  split at hI
  · -- void
    simp only [mm_ans] at ha
    split at ha
    · cases ha
      have hr2 : ret = none := by cases ret with
        | none => rfl
        | some ty => cases ty <;> cases hT
      rw [hr2] at hr
      exact W.vret hx hb hr (fun t h1 h2 => hq none rfl t h1 h2) hf hd hlocks
    · cases ha
  · simp only [mm_ans] at ha
    split at ha
    · rename_i v0
      split at ha
      · rename_i hok
        cases ha
        obtain ⟨x, rfl⟩ : ∃ x, v0 = .int x := by cases v0 <;> first | exact ⟨_, rfl⟩ | cases hok
        have hr2 : ret = some .int := by cases ret with
          | none => cases hT
          | some ty => cases ty <;> first | rfl | cases hT
        have hn : narrow .int (.int x) = .int x := rfl
        exact W.zret (v := x) (ty := .int) hx hb (hr.trans hr2) hn (fun t h1 h2 => hq _ rfl t h1 h2) hf hd hlocks
      · cases ha
    · cases ha
  · simp only [mm_ans] at ha
    split at ha
    · rename_i v0
      split at ha
      · rename_i hok
        cases ha
        obtain ⟨x, rfl⟩ : ∃ x, v0 = .int x := by cases v0 <;> first | exact ⟨_, rfl⟩ | cases hok
        have hr2 : ret = some .boolean := by cases ret with
          | none => cases hT
          | some ty => cases ty <;> first | rfl | cases hT
        have hn : narrow .boolean (.int x) = .int x := (mm_fit_ok (G := G) (ty := .boolean) (v := .int x) hok).1
        exact W.zret (v := x) (ty := .boolean) hx hb (hr.trans hr2) hn (fun t h1 h2 => hq _ rfl t h1 h2) hf hd hlocks
      · cases ha
    · cases ha
  · simp only [mm_ans] at ha
    split at ha
    · rename_i v0
      split at ha
      · rename_i hok
        cases ha
        obtain ⟨x, rfl⟩ : ∃ x, v0 = .int x := by cases v0 <;> first | exact ⟨_, rfl⟩ | cases hok
        have hr2 : ret = some .char := by cases ret with
          | none => cases hT
          | some ty => cases ty <;> first | rfl | cases hT
        have hn : narrow .char (.int x) = .int x := mm_narC (Nat.ble_eq.mp hok)
        exact W.zret (v := x) (ty := .char) hx hb (hr.trans hr2) hn (fun t h1 h2 => hq _ rfl t h1 h2) hf hd hlocks
      · cases ha
    · cases ha
  · simp only [mm_ans] at ha
    split at ha
    · rename_i v0
      split at ha
      · rename_i hok
        cases ha
        obtain ⟨x, rfl⟩ : ∃ x, v0 = .int x := by cases v0 <;> first | exact ⟨_, rfl⟩ | cases hok
        have hr2 : ret = some .byte := by cases ret with
          | none => cases hT
          | some ty => cases ty <;> first | rfl | cases hT
        have hn : narrow .byte (.int x) = .int x := (mm_fit_ok (G := G) (ty := .byte) (v := .int x) hok).1
        exact W.zret (v := x) (ty := .byte) hx hb (hr.trans hr2) hn (fun t h1 h2 => hq _ rfl t h1 h2) hf hd hlocks
      · cases ha
    · cases ha
  · simp only [mm_ans] at ha
    split at ha
    · rename_i v0
      split at ha
      · rename_i hok
        cases ha
        obtain ⟨o, ho⟩ : ∃ o, mm_dn G v0 = va_rf o := mi_isA (by cases v0 <;> first | rfl | cases hok)
        have hr2 : ∃ rt, ret = some rt ∧ ((∃ n, rt = .object n) ∨ ∃ t, rt = .array t) := by cases ret with
          | none => cases hT
          | some ty => cases ty <;> first | exact ⟨_, rfl, Or.inl ⟨_, rfl⟩⟩ | exact ⟨_, rfl, Or.inr ⟨_, rfl⟩⟩ | cases hT
        obtain ⟨rt, e1, e2⟩ := hr2
        have hq9 := hq (some v0) rfl
        rw [Option.map_some, ho] at hq9
        rw [List.map_cons, List.map_nil, ho]
        exact W.aret hx hb (hr.trans e1) e2 (by cases o with | none => exact Or.inl rfl | some q => exact Or.inr ⟨q, rfl⟩) hq9 hf hd hlocks
      · cases ha
    · cases ha
  · simp only [mm_ans] at ha
    split at ha
    · rename_i v0
      split at ha
      · rename_i hok
        cases ha
        obtain ⟨x, rfl⟩ : ∃ x, v0 = .float x := by cases v0 <;> first | exact ⟨_, rfl⟩ | cases hok
        have hr2 : ret = some .float := by cases ret with
          | none => cases hT
          | some ty => cases ty <;> first | rfl | cases hT
        exact W.fret hx hb (hr.trans hr2) (fun t h1 h2 => hq _ rfl t h1 h2) hf hd hlocks
      · cases ha
    · cases ha
  · simp only [mm_ans] at ha
    split at ha
    · rename_i v0
      split at ha
      · rename_i hok
        cases ha
        obtain ⟨x, rfl⟩ : ∃ x, v0 = .double x := by cases v0 <;> first | exact ⟨_, rfl⟩ | cases hok
        have hr2 : ret = some .double := by cases ret with
          | none => cases hT
          | some ty => cases ty <;> first | rfl | cases hT
        exact W.dret hx hb (hr.trans hr2) (fun t h1 h2 => hq _ rfl t h1 h2) hf hd hlocks
      · cases ha
    · cases ha
  · cases hI
theorem mm_isR_ln {i : Instr} (h : mm_isR i = true) : mm_ln i = 1 ∧ ∀ a b c d, i ≠ .tableswitch a b c d := by
  cases i <;> first | (cases h; done) | exact ⟨rfl, fun _ _ _ _ q => by cases q⟩
/-- the induction: every run of depth d meets its contract -/
theorem mm_sound (l : Launch) (hst : l.stackTraces = false) (hX : mm_Xok X) (hXf : X.2.2.2 = mm_fty) (hC : mm_Cok) (hYs : mm_Sys) (hTh : mm_Thr) {N : Nat → Option mm_N} {P : Nat → Option mm_M} {hh : Nat → List (Nat × Nat × Nat × Nat)} (hY : mm_Yok N P hh) (hZ : mm_Zok N P hh) (hNP : ∀ j M, P j = some M → ∃ y, N j = some y) (fuel : Nat) : ∀ d, mm_Cc l G X N P hh d (mm_run X P fuel d) := by
  intro d
  induction d with
  | zero => intro j as h v h' y M he; cases he
  | succ d ih =>
    intro j as h v h' y M he hy hM
    have hmono := mm_run_mono _ _ _ _ _ _ he
    simp only [mm_run] at he
    rw [hM] at he
    dsimp only at he
    split at he
    · cases he
    · rename_i hcats
      rw [Nat.ble_eq] at hcats
      obtain ⟨M', hM', hws, hpn, hmh, h70⟩ := hY j y hy
      cases hM.symm.trans hM'
      obtain ⟨z1, z2, z3, z4⟩ := hZ j y M hy hM
      have hcode : ∀ mi ∈ M.1, mm_okI y.1.cls y.1.name N y.2.1 mi = true := fun mi hmi => (z1 mi hmi).1
      -- the body, for both kinds of tables
      have body : ∀ (p : Program) (e : Env) (s : State) (m : MethodId) (args : Array Value) (below : List Frame) (meth : Method) (c : Code) (s₁ : State), BodyLoose p l y.1 (headSpec (mm_wsY y M.2.1 (hh j)) (mm_rm (d + 1) (h'.length - h.length) (mm_sum h' - mm_sum h))) y.2.1 M.2.1 y.2.2.1 e s m args below meth c s₁ → c.maxLocals = M.2.1 → mm_Hok s args c y.2.1 y.1.cls M → mm_Pc G X as h args s →
          W p l e (mm_rm (d + 1) (h'.length - h.length) (mm_sum h' - mm_sum h)) s m args below meth c s.heap [] 0 0 (vx_MQ below (mm_Qc G v h') (mm_XC G v h') args s (h'.length - h.length) (mm_sum h' - mm_sum h) (mm_Ar G)) (entryFrame m args M.2.1) := by
        intro p e s m args below meth c s₁ B hml hH hv
        obtain ⟨rfl, hW, hEv, hG⟩ := hv
        have hts := atoms_spec (ws := mm_wsY y M.2.1 (hh j)) B.pre
        have hF : mm_Fx p s m (as.map (mm_dn G)).toArray c y.2.1 y.1.cls G X := ⟨B.exec, B.bytes, findClass_of_methodNamed B.named, fun w hw => hts w (List.mem_cons_of_mem _ hw), hEv, hXf⟩
        have hmn : meth.name = y.1.name := (name_of_methodNamed B.named B.method).1
        rw [lg_entry_eq]
        have hl := mm_entry_LH (G := G) hcats
        generalize (lg_sl (as.map (mm_dn G)) ++ List.replicate (M.2.1 - (lg_sl (as.map (mm_dn G))).length) Slot.unset).toArray = ls at hl ⊢
        have hE : ∀ res hr9, (mm_exe X P (mm_run X P fuel d) M fuel 0 (mm_entry M.2.1 as) [] h = some (res, h')) → hr9 = h' → mm_End p l e (mm_rm (d + 1) (h'.length - h.length) (mm_sum h' - mm_sum h)) s m (as.map (mm_dn G)).toArray below meth c (vx_MQ below (mm_Qc G v h') (mm_XC G v h') (as.map (mm_dn G)).toArray s (h'.length - h.length) (mm_sum h' - mm_sum h) (mm_Ar G)) G M h.length (mm_sum h) res h' := by
          intro res hr9 hx9 _
          match res, hx9 with
          | .inl (pc', L', st'), hx9 =>
            intro H' locs' ls' i nx ax hW' hS' hl' hmem hri
            rw [hx9] at he
            dsimp only at he
            split at he
            · rename_i v9 ha
              cases he
              obtain ⟨i1, i2⟩ := mm_isR_ln hri
              obtain ⟨hd, -⟩ := mm_okI_dec (hcode _ hmem) i2
              rw [i1] at hd
              refine vx_ret ?_
              exact mm_retW B.exec B.bytes B.returns z2 ((z1 _ hmem).2 hri) hd B.notSynchronized ha (fun w hw t ht hal => ⟨⟨w, hw, rfl⟩, by rw [ht]; exact hW', hS'.F ht⟩) hS'.2.2
            · cases he
          | .inr ci, hx9 =>
            rw [hx9] at he
            cases he
            exact ⟨_, _, rfl, fun q hq t hal hW' hF' => ⟨⟨ci, q, rfl, hq, rfl⟩, hW', hF'⟩⟩
        cases hx9 : mm_exe X P (mm_run X P fuel d) M fuel 0 (mm_entry M.2.1 as) [] h with
        | none => rw [hx9] at he; cases he
        | some r9 =>
          obtain ⟨res, h9⟩ := r9
          have h9e : h9 = h' := by
            rw [hx9] at he
            match res, he with
            | .inl (a, b, st'), he =>
              dsimp only at he
              split at he
              · cases he; rfl
              · cases he
            | .inr ci, he => cases he; rfl
          subst h9e
          have := mm_exe_ok hX hC hYs hTh hY ih (fun j as h v h' => mm_run_mono d j as h v h') hF hmn hcode (fun j9 as9 h8 v8 h8' hc8 => by
            cases d with
            | zero => cases hc8
            | succ d9 =>
              simp only [mm_run] at hc8
              split at hc8
              · cases hc8
              · rename_i M9 hM9
                exact hNP j9 M9 hM9) hml B.notSynchronized hst hH hG (R := mm_rm (d + 1) (h9.length - h.length) (mm_sum h9 - mm_sum h)) (by show d + 9 ≤ d + 1 + 8; omega) (by show 100 * d + 300 ≤ 100 * (d + 1) + 200; omega) (n0 := h.length) (s0 := mm_sum h) hW.2 (hE res h9 hx9 rfl) ⟨Nat.le_refl _, Nat.le_refl _⟩ fuel 0 (mm_entry M.2.1 as) [] h hx9 s.heap [] ls hW va_S.rf hl (mm_entry_len _ _ hcats) (Nat.le_refl _) (Nat.le_refl _)
          rw [Nat.sub_self, Nat.sub_self] at this
          exact this
      have hhd : ∀ (s : State) (args : Array Value) (c : Code), (∀ w ∈ mm_wsY y M.2.1 (hh j), w.before args s = true) → mm_Ev G X s → c.exceptionTable.toList = tableOf (hh j) → mm_Hok s args c y.2.1 y.1.cls M := by
        intro s args c hts hEv htab
        unfold mm_Hok
        unfold mm_hck at z3
        split at z3
        · rename_i e1 e2
          rw [e1]
          dsimp only
          intro x hx
          rw [htab, e2] at hx
          cases hx
        · rename_i a z t k cx a' z' hp ct e1 e2
          rw [e1]
          dsimp only
          simp only [Bool.and_eq_true, Bool.or_eq_true, decide_eq_true_eq, Nat.ble_eq] at z3
          obtain ⟨⟨rfl, rfl, q3⟩, q4, q5, q6, q7⟩ := z3
          split at q4
          · rename_i qx hqx
            rw [Bool.and_eq_true, decide_eq_true_eq, decide_eq_true_eq] at q4
            obtain ⟨q8, q9⟩ := q4
            obtain ⟨mi9, hm9, hm8⟩ := List.any_eq_true.mp q7
            have hm8 := of_decide_eq_true hm8
            subst hm8
            refine ⟨⟨a, z, hp, ct⟩, qx, by rw [htab, e2]; rfl, fun pc h1 h2 => ?_, q3, hqx, hts _ (List.mem_cons_of_mem _ q8), va_tabs rfl rfl (hEv.2.2.2.2.2.2.1 _ q9 rfl), ?_, q6, _, _, hm9⟩
            · simp [covers, h1, h2]
            · rcases q5 with ⟨g1, g2, g3, g4⟩ | ⟨g2, g3, g4⟩
              · refine Or.inl ⟨Fin.ofNat 4 k, ?_, g2, g3, g4⟩
                show k % 4 = k
                omega
              · exact Or.inr ⟨g2, g3, g4⟩
          · cases q4
        · cases z3
      show vx_Met l y.1 (mm_wsY y M.2.1 (hh j)) (mm_rm (d + 1) (h'.length - h.length) (mm_sum h' - mm_sum h)) (mm_Pc G X as h) (mm_Qc G v h') (mm_XC G v h') (h'.length - h.length) (mm_sum h' - mm_sum h) (mm_Ar G)
      cases hw4 : y.2.2.2 with
      | false =>
        refine vx_ofW hpn (mc_wsN hw4) ?_
        intro p e s m args below meth c s₁ B hml htab hv
        refine body p e s m args below meth c s₁ B hml (hhd s args c (atoms_spec (ws := mm_wsY y M.2.1 (hh j)) B.pre) hv.2.2.1 ?_) hv
        rw [z4 hw4]
        cases hc9 : c.exceptionTable.toList with
        | nil => rfl
        | cons a r => exact (htab a (by rw [hc9]; exact List.mem_cons_self)).elim
      | true =>
        refine vx_ofWH hpn (mc_wsW hw4) ?_
        intro p e s m args below meth c s₁ B hml hv
        have hts := atoms_spec (ws := mm_wsY y M.2.1 (hh j)) B.pre
        exact body p e s m args below meth c s₁ B hml (hhd s args c hts hv.2.2.1 (vx_table (x := y.1) B (hts _ (by rw [mc_wsW hw4]; exact List.mem_cons_self)))) hv
end MM
end
section
/-! ===== the tables are right (decided) ===== -/
def mm_fpos : List (List Nat) := [[1315, 1317], [383, 385, 387, 389], [300, 302, 304, 306], [256, 258, 260, 262], [277, 279, 281, 283, 285, 287], [238, 240, 242], [791, 793, 795, 797, 799], [476, 478], [335, 337, 339, 341, 343], [351, 353, 355, 357], [507, 509, 511, 513, 515, 517], [199, 201, 203, 205, 207, 209, 211, 213, 215, 217, 219, 221], [810, 812, 814, 816], [855, 857, 859, 861, 863, 865, 867, 869, 871, 873, 875, 877, 879, 881], [1855, 1857, 1859, 1861, 1863, 1865, 1867, 1869, 1871, 1873, 1875, 1877, 1879, 1881, 1883, 1885, 1887, 1889, 1891, 1893, 1895, 1897, 1899, 1901, 1903, 1905, 1907], [], [], []]
set_option maxRecDepth 100000 in
theorem mx_C1 : (List.zip mm_cls mm_fpos).all (fun q => decide (u_ws q.1.1 (mm_T q.1.2) q.1.2.length = q.2.filterMap (fun i => mt_tbl[i]?)) && (u_ws q.1.1 (mm_T q.1.2) q.1.2.length).all goodWord) = true := by decide +kernel
set_option maxRecDepth 100000 in
theorem mx_C2 : (List.range mm_cls.length).all (fun ci => match mm_cls[ci]? with
  | some q => decide ((q.2.map (fun f => f.2.1)).Nodup) && (decide ((mm_fty ci).length = q.2.length) && decide ((mm_fty ci).map some = q.2.map (fun f => parseFieldDescriptor f.2.2.1)))
  | none => false) = true := by decide +kernel

def mm_hhs : List (Nat × List (Nat × Nat × Nat × Nat)) := [(314, [(0, 16, 19, 13)]), (315, [(0, 9, 12, 19)]), (316, [(0, 8, 11, 19)]), (317, [(0, 8, 11, 19)]), (318, [(0, 8, 11, 19)]), (319, [(0, 9, 12, 19)]), (320, [(0, 12, 15, 38)]), (321, [(0, 9, 12, 38)]), (322, [(0, 10, 13, 38)]), (323, [(0, 9, 12, 38)]), (324, [(0, 9, 12, 38)]), (325, [(0, 9, 12, 38)]), (326, [(0, 10, 13, 38)]), (327, [(0, 16, 19, 38)]), (328, [(0, 10, 13, 38)]), (329, [(0, 9, 12, 38)]), (330, [(0, 9, 12, 19)]), (331, [(0, 9, 12, 38)]), (332, [(0, 9, 12, 38)]), (333, [(0, 10, 13, 19)]), (334, [(0, 9, 12, 19)]), (335, [(0, 9, 12, 38)]), (336, [(0, 9, 12, 19)]), (337, [(0, 10, 13, 38)]), (338, [(0, 9, 12, 38)]), (339, [(0, 9, 12, 38)]), (340, [(0, 9, 12, 38)]), (341, [(0, 8, 11, 13)])]
def mm_hh (j : Nat) : List (Nat × Nat × Nat × Nat) := match mm_hhs.find? (fun q => q.1 == j) with
  | some q => q.2
  | none => []
def mm_cpos : List Nat := [294, 454, 619, 573, 629, 740, 754, 249, 639, 678, 1028, 701, 1590, 1377, 1413, 1381, 269, 635, 644, 648, 687, 696, 662, 653, 691, 229, 826, 1017, 980, 720, 1649, 993, 735, 731, 1675, 713, 727, 709, 912, 920, 1557, 1566, 782, 838, 1033, 1047, 1740, 1050, 465, 602, 606, 598, 1394, 1390, 320, 313, 1527, 1506, 1512, 1531, 1535, 459, 176, 397, 1471, 523, 767, 527, 543, 562, 557, 535, 531, 539, 566, 586, 612, 582, 594, 578, 623, 759, 590, 673, 669, 745, 772, 822, 1013, 903, 953, 958, 1038, 1562, 1550, 1546, 1043, 168, 1446, 1479, 1491, 1502, 1575, 887, 891, 1586, 1599, 1622, 895, 1633, 1645, 1657, 1664, 1671, 1682, 899, 908, 916, 925, 931, 936, 1689, 941, 945, 1700, 1707, 1721, 970, 1729, 1736, 1747, 975, 985, 989, 997, 1754, 1761, 1769, 1776, 1784, 1795, 1057, 1420, 1434, 1438, 1807, 1626, 1693, 1637, 1711, 1005, 1495, 1009, 949, 1001, 1799, 569, 450, 1020, 716, 723, 615, 762, 830, 658, 683, 665, 546, 1515, 1812, 1913, 1932, 1827, 2096, 1820, 2149, 1921, 1947, 2005, 1824, 2253, 2249, 2269, 2361, 2093, 2104, 2108, 1817, 2100, 2112, 2116, 2128, 2124, 2120, 2090, 2086, 2297, 2240, 1925, 1917, 1929, 1972, 1968, 1984, 1980, 1964, 1960, 2030, 1993, 2017, 2009, 1988, 2078, 2013, 1951, 2146, 1936, 1940, 2062, 2066, 2070, 2074, 2058, 2054, 2082, 2050, 2046, 2042, 2038, 1955, 2034, 2137, 2133, 2142, 2021, 2026, 1944, 2194, 2198, 2190, 2186, 2203, 2215, 2211, 2207, 2219, 2227, 2223, 2161, 2174, 2170, 2157, 2182, 2178, 2153, 2231, 2235, 2245, 2257, 2261, 2265, 2277, 2273, 2281, 2285, 2289, 2293, 2301, 2305, 2309, 2313, 2317, 2321, 2325, 2333, 2329, 2341, 2345, 2337, 2349, 2357, 2353, 2369, 2365, 2373, 2381, 2377, 2385, 2390, 2394, 2398, 2402, 2410, 2414, 2406, 2418, 2422, 2426, 2430, 2443, 2439, 2447, 2459, 2434, 2455, 2451, 2477, 2472, 2467, 2463, 2486, 2490, 2494, 2498, 1441, 1474, 1487, 1498, 1571, 1582, 1594, 1618, 1629, 1641, 1653, 1660, 1667, 1678, 1685, 1696, 1703, 1717, 1725, 1732, 1743, 1750, 1757, 1765, 1772, 1780, 1791, 1803, 367, 1218, 1087, 1091, 1146, 1064, 1427, 1079, 1083, 1402, 1174, 1210, 1117, 1141, 1137, 1360, 1180, 1177, 963, 1201, 401, 413, 1165, 1204, 405, 417, 423, 1158, 1126, 364, 1076, 1399, 1171, 1196, 1424, 1061, 1216, 1069, 420, 1405, 1337, 1149, 373, 376, 1132, 441, 437, 1312, 1305, 1308, 1372, 1408, 1187, 1120, 431, 1152, 1190, 434, 1123, 1155, 1343, 1340, 1103, 1228, 1222, 1225, 1094, 1099, 428, 1129, 1161]
def mm_yck (j : Nat) : Bool := match mm_nm j, mm_P j, mm_cpos[j]? with
  | some y, some M, some k => decide (mt_tbl[k]? = (mm_wsY y M.2.1 (mm_hh j)).head?) && (((mm_wsY y M.2.1 (mm_hh j)).head?.any goodWord) && (plainName y.1.cls && (decide (y.1.cls ≠ "java/lang/invoke/MethodHandle" ∧ y.1.cls ≠ "java/lang/invoke/VarHandle") && Nat.ble M.2.1 70)))
  | _, _, _ => false
def mm_zck (j : Nat) : Bool := match mm_nm j, mm_P j with
  | some y, some M => M.1.all (fun mi => mm_okI y.1.cls y.1.name mm_nm y.2.1 mi && (!(mm_isR mi.2.1) || mm_rkI M.2.2.1 mi.2.1)) && (mm_rkT M.2.2.1 y.2.2.1 && (mm_hck y.1.cls y.2.1 M (mm_hh j) && (y.2.2.2 || (mm_hh j).isEmpty)))
  | _, _ => false
set_option maxRecDepth 100000 in
theorem mx_len : mm_ns.length = 413 ∧ mm_ms.length = 413 := by decide +kernel
end
section
set_option maxRecDepth 100000 in
theorem mx_Y0 : (List.range' 0 20).all mm_yck = true := by decide +kernel
set_option maxRecDepth 100000 in
theorem mx_Y1 : (List.range' 20 20).all mm_yck = true := by decide +kernel
set_option maxRecDepth 100000 in
theorem mx_Y2 : (List.range' 40 20).all mm_yck = true := by decide +kernel
set_option maxRecDepth 100000 in
theorem mx_Y3 : (List.range' 60 20).all mm_yck = true := by decide +kernel
set_option maxRecDepth 100000 in
theorem mx_Y4 : (List.range' 80 20).all mm_yck = true := by decide +kernel
set_option maxRecDepth 100000 in
theorem mx_Y5 : (List.range' 100 20).all mm_yck = true := by decide +kernel
end
section
set_option maxRecDepth 100000 in
theorem mx_Y6 : (List.range' 120 20).all mm_yck = true := by decide +kernel
set_option maxRecDepth 100000 in
theorem mx_Y7 : (List.range' 140 20).all mm_yck = true := by decide +kernel
set_option maxRecDepth 100000 in
theorem mx_Y8 : (List.range' 160 20).all mm_yck = true := by decide +kernel
set_option maxRecDepth 100000 in
theorem mx_Y9 : (List.range' 180 20).all mm_yck = true := by decide +kernel
set_option maxRecDepth 100000 in
theorem mx_Y10 : (List.range' 200 20).all mm_yck = true := by decide +kernel
set_option maxRecDepth 100000 in
theorem mx_Y11 : (List.range' 220 20).all mm_yck = true := by decide +kernel
end
section
set_option maxRecDepth 100000 in
theorem mx_Y12 : (List.range' 240 20).all mm_yck = true := by decide +kernel
set_option maxRecDepth 100000 in
theorem mx_Y13 : (List.range' 260 20).all mm_yck = true := by decide +kernel
set_option maxRecDepth 100000 in
theorem mx_Y14 : (List.range' 280 20).all mm_yck = true := by decide +kernel
set_option maxRecDepth 100000 in
theorem mx_Y15 : (List.range' 300 20).all mm_yck = true := by decide +kernel
set_option maxRecDepth 100000 in
theorem mx_Y16 : (List.range' 320 20).all mm_yck = true := by decide +kernel
set_option maxRecDepth 100000 in
theorem mx_Y17 : (List.range' 340 20).all mm_yck = true := by decide +kernel
end
section
set_option maxRecDepth 100000 in
theorem mx_Y18 : (List.range' 360 20).all mm_yck = true := by decide +kernel
set_option maxRecDepth 100000 in
theorem mx_Y19 : (List.range' 380 20).all mm_yck = true := by decide +kernel
set_option maxRecDepth 100000 in
theorem mx_Y20 : (List.range' 400 13).all mm_yck = true := by decide +kernel
end
section
set_option maxRecDepth 100000 in
theorem mx_Z0 : (List.range' 0 15).all mm_zck = true := by decide +kernel
set_option maxRecDepth 100000 in
theorem mx_Z1 : (List.range' 15 15).all mm_zck = true := by decide +kernel
set_option maxRecDepth 100000 in
theorem mx_Z2 : (List.range' 30 15).all mm_zck = true := by decide +kernel
set_option maxRecDepth 100000 in
theorem mx_Z3 : (List.range' 45 15).all mm_zck = true := by decide +kernel
set_option maxRecDepth 100000 in
theorem mx_Z4 : (List.range' 60 15).all mm_zck = true := by decide +kernel
set_option maxRecDepth 100000 in
theorem mx_Z5 : (List.range' 75 15).all mm_zck = true := by decide +kernel
set_option maxRecDepth 100000 in
theorem mx_Z6 : (List.range' 90 15).all mm_zck = true := by decide +kernel
end
section
set_option maxRecDepth 100000 in
theorem mx_Z7 : (List.range' 105 15).all mm_zck = true := by decide +kernel
set_option maxRecDepth 100000 in
theorem mx_Z8 : (List.range' 120 15).all mm_zck = true := by decide +kernel
set_option maxRecDepth 100000 in
theorem mx_Z9 : (List.range' 135 15).all mm_zck = true := by decide +kernel
set_option maxRecDepth 100000 in
theorem mx_Z10 : (List.range' 150 15).all mm_zck = true := by decide +kernel
set_option maxRecDepth 100000 in
theorem mx_Z11 : (List.range' 165 15).all mm_zck = true := by decide +kernel
set_option maxRecDepth 100000 in
theorem mx_Z12 : (List.range' 180 15).all mm_zck = true := by decide +kernel
set_option maxRecDepth 100000 in
theorem mx_Z13 : (List.range' 195 15).all mm_zck = true := by decide +kernel
end
section
set_option maxRecDepth 100000 in
theorem mx_Z14 : (List.range' 210 15).all mm_zck = true := by decide +kernel
set_option maxRecDepth 100000 in
theorem mx_Z15 : (List.range' 225 15).all mm_zck = true := by decide +kernel
set_option maxRecDepth 100000 in
theorem mx_Z16 : (List.range' 240 15).all mm_zck = true := by decide +kernel
set_option maxRecDepth 100000 in
theorem mx_Z17 : (List.range' 255 15).all mm_zck = true := by decide +kernel
set_option maxRecDepth 100000 in
theorem mx_Z18 : (List.range' 270 15).all mm_zck = true := by decide +kernel
set_option maxRecDepth 100000 in
theorem mx_Z19 : (List.range' 285 15).all mm_zck = true := by decide +kernel
set_option maxRecDepth 100000 in
theorem mx_Z20 : (List.range' 300 15).all mm_zck = true := by decide +kernel
end
section
set_option maxRecDepth 100000 in
theorem mx_Z21 : (List.range' 315 15).all mm_zck = true := by decide +kernel
set_option maxRecDepth 100000 in
theorem mx_Z22 : (List.range' 330 15).all mm_zck = true := by decide +kernel
set_option maxRecDepth 100000 in
theorem mx_Z23 : (List.range' 345 15).all mm_zck = true := by decide +kernel
set_option maxRecDepth 100000 in
theorem mx_Z24 : (List.range' 360 15).all mm_zck = true := by decide +kernel
set_option maxRecDepth 100000 in
theorem mx_Z25 : (List.range' 375 15).all mm_zck = true := by decide +kernel
set_option maxRecDepth 100000 in
theorem mx_Z26 : (List.range' 390 15).all mm_zck = true := by decide +kernel
set_option maxRecDepth 100000 in
theorem mx_Z27 : (List.range' 405 8).all mm_zck = true := by decide +kernel
end
section
theorem mx_Yall : ∀ j, j < 413 → mm_yck j = true := by
  intro j hj
  by_cases h0 : j < 20
  · exact List.all_eq_true.mp mx_Y0 j (List.mem_range'_1.mpr ⟨by omega, by omega⟩)
  by_cases h1 : j < 40
  · exact List.all_eq_true.mp mx_Y1 j (List.mem_range'_1.mpr ⟨by omega, by omega⟩)
  by_cases h2 : j < 60
  · exact List.all_eq_true.mp mx_Y2 j (List.mem_range'_1.mpr ⟨by omega, by omega⟩)
  by_cases h3 : j < 80
  · exact List.all_eq_true.mp mx_Y3 j (List.mem_range'_1.mpr ⟨by omega, by omega⟩)
  by_cases h4 : j < 100
  · exact List.all_eq_true.mp mx_Y4 j (List.mem_range'_1.mpr ⟨by omega, by omega⟩)
  by_cases h5 : j < 120
  · exact List.all_eq_true.mp mx_Y5 j (List.mem_range'_1.mpr ⟨by omega, by omega⟩)
  by_cases h6 : j < 140
  · exact List.all_eq_true.mp mx_Y6 j (List.mem_range'_1.mpr ⟨by omega, by omega⟩)
  by_cases h7 : j < 160
  · exact List.all_eq_true.mp mx_Y7 j (List.mem_range'_1.mpr ⟨by omega, by omega⟩)
  by_cases h8 : j < 180
  · exact List.all_eq_true.mp mx_Y8 j (List.mem_range'_1.mpr ⟨by omega, by omega⟩)
  by_cases h9 : j < 200
  · exact List.all_eq_true.mp mx_Y9 j (List.mem_range'_1.mpr ⟨by omega, by omega⟩)
  by_cases h10 : j < 220
  · exact List.all_eq_true.mp mx_Y10 j (List.mem_range'_1.mpr ⟨by omega, by omega⟩)
  by_cases h11 : j < 240
  · exact List.all_eq_true.mp mx_Y11 j (List.mem_range'_1.mpr ⟨by omega, by omega⟩)
  by_cases h12 : j < 260
  · exact List.all_eq_true.mp mx_Y12 j (List.mem_range'_1.mpr ⟨by omega, by omega⟩)
  by_cases h13 : j < 280
  · exact List.all_eq_true.mp mx_Y13 j (List.mem_range'_1.mpr ⟨by omega, by omega⟩)
  by_cases h14 : j < 300
  · exact List.all_eq_true.mp mx_Y14 j (List.mem_range'_1.mpr ⟨by omega, by omega⟩)
  by_cases h15 : j < 320
  · exact List.all_eq_true.mp mx_Y15 j (List.mem_range'_1.mpr ⟨by omega, by omega⟩)
  by_cases h16 : j < 340
  · exact List.all_eq_true.mp mx_Y16 j (List.mem_range'_1.mpr ⟨by omega, by omega⟩)
  by_cases h17 : j < 360
  · exact List.all_eq_true.mp mx_Y17 j (List.mem_range'_1.mpr ⟨by omega, by omega⟩)
  by_cases h18 : j < 380
  · exact List.all_eq_true.mp mx_Y18 j (List.mem_range'_1.mpr ⟨by omega, by omega⟩)
  by_cases h19 : j < 400
  · exact List.all_eq_true.mp mx_Y19 j (List.mem_range'_1.mpr ⟨by omega, by omega⟩)
  by_cases h20 : j < 413
  · exact List.all_eq_true.mp mx_Y20 j (List.mem_range'_1.mpr ⟨by omega, by omega⟩)
  omega
theorem mx_Zall : ∀ j, j < 413 → mm_zck j = true := by
  intro j hj
  by_cases h0 : j < 15
  · exact List.all_eq_true.mp mx_Z0 j (List.mem_range'_1.mpr ⟨by omega, by omega⟩)
  by_cases h1 : j < 30
  · exact List.all_eq_true.mp mx_Z1 j (List.mem_range'_1.mpr ⟨by omega, by omega⟩)
  by_cases h2 : j < 45
  · exact List.all_eq_true.mp mx_Z2 j (List.mem_range'_1.mpr ⟨by omega, by omega⟩)
  by_cases h3 : j < 60
  · exact List.all_eq_true.mp mx_Z3 j (List.mem_range'_1.mpr ⟨by omega, by omega⟩)
  by_cases h4 : j < 75
  · exact List.all_eq_true.mp mx_Z4 j (List.mem_range'_1.mpr ⟨by omega, by omega⟩)
  by_cases h5 : j < 90
  · exact List.all_eq_true.mp mx_Z5 j (List.mem_range'_1.mpr ⟨by omega, by omega⟩)
  by_cases h6 : j < 105
  · exact List.all_eq_true.mp mx_Z6 j (List.mem_range'_1.mpr ⟨by omega, by omega⟩)
  by_cases h7 : j < 120
  · exact List.all_eq_true.mp mx_Z7 j (List.mem_range'_1.mpr ⟨by omega, by omega⟩)
  by_cases h8 : j < 135
  · exact List.all_eq_true.mp mx_Z8 j (List.mem_range'_1.mpr ⟨by omega, by omega⟩)
  by_cases h9 : j < 150
  · exact List.all_eq_true.mp mx_Z9 j (List.mem_range'_1.mpr ⟨by omega, by omega⟩)
  by_cases h10 : j < 165
  · exact List.all_eq_true.mp mx_Z10 j (List.mem_range'_1.mpr ⟨by omega, by omega⟩)
  by_cases h11 : j < 180
  · exact List.all_eq_true.mp mx_Z11 j (List.mem_range'_1.mpr ⟨by omega, by omega⟩)
  by_cases h12 : j < 195
  · exact List.all_eq_true.mp mx_Z12 j (List.mem_range'_1.mpr ⟨by omega, by omega⟩)
  by_cases h13 : j < 210
  · exact List.all_eq_true.mp mx_Z13 j (List.mem_range'_1.mpr ⟨by omega, by omega⟩)
  by_cases h14 : j < 225
  · exact List.all_eq_true.mp mx_Z14 j (List.mem_range'_1.mpr ⟨by omega, by omega⟩)
  by_cases h15 : j < 240
  · exact List.all_eq_true.mp mx_Z15 j (List.mem_range'_1.mpr ⟨by omega, by omega⟩)
  by_cases h16 : j < 255
  · exact List.all_eq_true.mp mx_Z16 j (List.mem_range'_1.mpr ⟨by omega, by omega⟩)
  by_cases h17 : j < 270
  · exact List.all_eq_true.mp mx_Z17 j (List.mem_range'_1.mpr ⟨by omega, by omega⟩)
  by_cases h18 : j < 285
  · exact List.all_eq_true.mp mx_Z18 j (List.mem_range'_1.mpr ⟨by omega, by omega⟩)
  by_cases h19 : j < 300
  · exact List.all_eq_true.mp mx_Z19 j (List.mem_range'_1.mpr ⟨by omega, by omega⟩)
  by_cases h20 : j < 315
  · exact List.all_eq_true.mp mx_Z20 j (List.mem_range'_1.mpr ⟨by omega, by omega⟩)
  by_cases h21 : j < 330
  · exact List.all_eq_true.mp mx_Z21 j (List.mem_range'_1.mpr ⟨by omega, by omega⟩)
  by_cases h22 : j < 345
  · exact List.all_eq_true.mp mx_Z22 j (List.mem_range'_1.mpr ⟨by omega, by omega⟩)
  by_cases h23 : j < 360
  · exact List.all_eq_true.mp mx_Z23 j (List.mem_range'_1.mpr ⟨by omega, by omega⟩)
  by_cases h24 : j < 375
  · exact List.all_eq_true.mp mx_Z24 j (List.mem_range'_1.mpr ⟨by omega, by omega⟩)
  by_cases h25 : j < 390
  · exact List.all_eq_true.mp mx_Z25 j (List.mem_range'_1.mpr ⟨by omega, by omega⟩)
  by_cases h26 : j < 405
  · exact List.all_eq_true.mp mx_Z26 j (List.mem_range'_1.mpr ⟨by omega, by omega⟩)
  by_cases h27 : j < 413
  · exact List.all_eq_true.mp mx_Z27 j (List.mem_range'_1.mpr ⟨by omega, by omega⟩)
  omega
theorem mx_Yok : mm_Yok mm_nm mm_P mm_hh := by
  intro j y hy
  have hj : j < 413 := by
    have := (List.getElem?_eq_some_iff.mp hy).1
    rw [mx_len.1] at this
    exact this
  have h1 := mx_Yall j hj
  unfold mm_yck at h1
  rw [hy] at h1
  split at h1
  · rename_i y' M k e1 e2 e3
    cases e1
    simp only [Bool.and_eq_true, decide_eq_true_eq, Nat.ble_eq] at h1
    obtain ⟨g1, g2, g3, g4, g5⟩ := h1
    refine ⟨M, e2, fun w hw => ?_, g3, g4, g5⟩
    obtain ⟨w0, hw0⟩ : ∃ w0, mm_wsY y M.2.1 (mm_hh j) = w0 :: mt_g := ⟨_, rfl⟩
    rw [hw0] at hw g1 g2
    rcases List.mem_cons.mp hw with rfl | hw
    · exact List.mem_filter.mpr ⟨List.mem_of_getElem? g1, g2⟩
    · exact hw
  · cases h1
theorem mx_Zok : mm_Zok mm_nm mm_P mm_hh := by
  intro j y M hy hM
  have hj : j < 413 := by
    have := (List.getElem?_eq_some_iff.mp hy).1
    rw [mx_len.1] at this
    exact this
  have h1 := mx_Zall j hj
  unfold mm_zck at h1
  rw [hy, hM] at h1
  simp only [Bool.and_eq_true, Bool.or_eq_true, Bool.not_eq_true', List.isEmpty_iff] at h1
  obtain ⟨g1, g2, g3, g4⟩ := h1
  refine ⟨fun mi hmi => ?_, g2, g3, fun z => ?_⟩
  · have h2 := List.all_eq_true.mp g1 mi hmi
    simp only [Bool.and_eq_true, Bool.or_eq_true, Bool.not_eq_true'] at h2
    refine ⟨h2.1, fun z => ?_⟩
    rcases h2.2 with q | q
    · rw [z] at q; cases q
    · exact q
  · rcases g4 with q | q
    · rw [z] at q; cases q
    · exact q
theorem mx_NP : ∀ j M, mm_P j = some M → ∃ y, mm_nm j = some y := by
  intro j M hM
  have hj : j < 413 := by
    have := (List.getElem?_eq_some_iff.mp hM).1
    rw [mx_len.2] at this
    exact this
  exact ⟨_, List.getElem?_eq_getElem (by rw [mx_len.1]; exact hj)⟩
theorem mx_Cok : mm_Cok := by
  intro ci q hq
  have hl := (List.getElem?_eq_some_iff.mp hq).1
  have h2 := List.all_eq_true.mp mx_C2 ci (List.mem_range.mpr hl)
  rw [hq] at h2
  simp only [Bool.and_eq_true, decide_eq_true_eq] at h2
  obtain ⟨g1, g2, g3⟩ := h2
  obtain ⟨ps, hps⟩ : ∃ ps, mm_fpos[ci]? = some ps := by
    have hfl : mm_fpos.length = mm_cls.length := by decide
    exact ⟨_, List.getElem?_eq_getElem (by rw [hfl]; exact hl)⟩
  have hz : (List.zip mm_cls mm_fpos)[ci]? = some (q, ps) := by rw [List.getElem?_zip_eq_some]; exact ⟨hq, hps⟩
  have h1 := List.all_eq_true.mp mx_C1 _ (List.mem_of_getElem? hz)
  rw [Bool.and_eq_true, decide_eq_true_eq] at h1
  refine ⟨fun w hw => List.mem_filter.mpr ⟨?_, List.all_eq_true.mp h1.2 w hw⟩, fun a ha b hb hne he => ?_, g2, fun k ty hk => ?_⟩
  · rw [h1.1] at hw
    obtain ⟨i, -, hi⟩ := List.mem_filterMap.mp hw
    exact List.mem_of_getElem? hi
  · have e1 : ∀ x (hx : x < q.2.length), (mm_T q.2 x).2.1 = (q.2.map (fun f => f.2.1))[x]'(by rw [List.length_map]; exact hx) := fun x hx => by
      rw [List.getElem_map, mm_T_get (List.getElem?_eq_getElem hx)]
    rw [e1 a ha, e1 b hb] at he
    have hp := List.pairwise_iff_getElem.mp g1
    rcases Nat.lt_or_gt_of_ne hne with z | z
    · exact hp a b _ _ z he
    · exact hp b a _ _ z he.symm
  · have hkl : k < q.2.length := by rw [← g2]; exact (List.getElem?_eq_some_iff.mp hk).1
    have h5 : ((mm_fty ci).map some)[k]? = some (some ty) := by rw [List.getElem?_map, hk]; rfl
    rw [g3, List.getElem?_map, List.getElem?_eq_getElem hkl] at h5
    rw [mm_T_get (List.getElem?_eq_getElem hkl)]
    exact Option.some.inj h5
set_option maxRecDepth 100000 in
theorem mx_Sys : mm_Sys := by
  refine ⟨by decide +kernel, by decide +kernel, by decide +kernel, by decide +kernel, by decide +kernel, ⟨by decide +kernel, by decide +kernel, by decide +kernel⟩, ⟨840, by decide +kernel⟩, ⟨316, by decide +kernel⟩, by decide +kernel, ⟨by decide +kernel, by decide +kernel⟩, by decide +kernel, by decide +kernel⟩
def mm_thck (q : String × Nat × Nat) : Bool := match mm_cls[q.2.2]? with
  | some c => decide (c.2 = []) && (Bundle.fit c.1 && (Nat.ble 15 q.2.2 && (decide (Jvm.Cond.initialized c.1 ∈ mt_g) && (vx_at0 q.1 q.2.1 c.1 mm_nm3).all (fun w => decide (w ∈ mt_tbl) && ((goodWord w || mm_isN w) && vx_ot w)))))
  | none => false
set_option maxRecDepth 100000 in
theorem mx_Th0 : mm_thr.all mm_thck = true := by decide +kernel
theorem mx_Thr : mm_Thr := by
  intro own ic ci hm
  have h1 := List.all_eq_true.mp mx_Th0 _ hm
  unfold mm_thck at h1
  split at h1
  · rename_i c hc
    simp only [Bool.and_eq_true, decide_eq_true_eq, Nat.ble_eq, List.all_eq_true] at h1
    obtain ⟨g1, g2, g3, g4, g5⟩ := h1
    exact ⟨c, hc, g1, g2, g3, g4, fun w hw => ⟨(g5 w hw).1, (g5 w hw).2.1, (g5 w hw).2.2⟩⟩
  · cases h1
end
section
set_option maxRecDepth 100000 in
theorem mx_law0 : mm_law_0.all (mm_okI "WhoKnowsLaw" "law" mm_nm code) = true := by decide +kernel
set_option maxRecDepth 100000 in
theorem mx_law1 : mm_law_1.all (mm_okI "WhoKnowsLaw" "law" mm_nm code) = true := by decide +kernel
set_option maxRecDepth 100000 in
theorem mx_law2 : mm_law_2.all (mm_okI "WhoKnowsLaw" "law" mm_nm code) = true := by decide +kernel
set_option maxRecDepth 100000 in
theorem mx_law3 : mm_law_3.all (mm_okI "WhoKnowsLaw" "law" mm_nm code) = true := by decide +kernel
set_option maxRecDepth 100000 in
theorem mx_law4 : mm_law_4.all (mm_okI "WhoKnowsLaw" "law" mm_nm code) = true := by decide +kernel
set_option maxRecDepth 100000 in
theorem mx_law5 : mm_law_5.all (mm_okI "WhoKnowsLaw" "law" mm_nm code) = true := by decide +kernel
set_option maxRecDepth 100000 in
theorem mx_law6 : mm_law_6.all (mm_okI "WhoKnowsLaw" "law" mm_nm code) = true := by decide +kernel
set_option maxRecDepth 100000 in
theorem mx_law7 : mm_law_7.all (mm_okI "WhoKnowsLaw" "law" mm_nm code) = true := by decide +kernel
set_option maxRecDepth 100000 in
theorem mx_law8 : mm_law_8.all (mm_okI "WhoKnowsLaw" "law" mm_nm code) = true := by decide +kernel
set_option maxRecDepth 100000 in
theorem mx_law9 : mm_law_9.all (mm_okI "WhoKnowsLaw" "law" mm_nm code) = true := by decide +kernel
set_option maxRecDepth 100000 in
theorem mx_law10 : mm_law_10.all (mm_okI "WhoKnowsLaw" "law" mm_nm code) = true := by decide +kernel
theorem mx_law : mm_law.all (mm_okI "WhoKnowsLaw" "law" mm_nm code) = true := by
  simp only [mm_law, List.all_append, Bool.and_eq_true]
  exact ⟨mx_law0, ⟨mx_law1, ⟨mx_law2, ⟨mx_law3, ⟨mx_law4, ⟨mx_law5, ⟨mx_law6, ⟨mx_law7, ⟨mx_law8, ⟨mx_law9, mx_law10⟩⟩⟩⟩⟩⟩⟩⟩⟩⟩
end
section
/-! ===== the start: what the Statement gives of constants and statics ===== -/
def mx_flat : List Jvm.Cond := flatC (Jvm.Cond.and given_1 narrow_1)
/-- a text by its first place: class, entry, its number among the externals, its place among the premises -/
def mx_prim : List (String × Nat × Nat × Nat) := [("WhoKnows", 68, 4, 320), ("WhoKnows", 374, 6, 340), ("WhoKnows", 376, 8, 347), ("WhoKnows", 378, 10, 356), ("WhoKnows", 380, 12, 365), ("WhoKnows", 382, 14, 372), ("WhoKnows", 384, 16, 382), ("WhoKnows", 386, 18, 389), ("WhoKnows$Source", 91, 20, 395), ("WhoKnows$DescriptionReader", 98, 22, 403), ("WhoKnows$DescriptionReader", 57, 24, 412), ("WhoKnows$DescriptionReader", 65, 26, 419), ("WhoKnows$DescriptionReader", 70, 28, 429), ("WhoKnows$Formula", 65, 30, 540), ("WhoKnows$Formula", 67, 32, 549), ("java/util/Arrays", 59, 34, 505), ("WhoKnows", 388, 36, 563), ("WhoKnows", 390, 38, 575), ("WhoKnows", 392, 40, 582), ("WhoKnows", 394, 42, 593), ("WhoKnows", 396, 44, 601), ("WhoKnows", 312, 46, 610), ("WhoKnowsModel", 452, 48, 784), ("WhoKnowsModel", 466, 50, 811), ("WhoKnowsModel", 468, 52, 821), ("WhoKnowsModel", 470, 54, 831), ("WhoKnowsModel", 472, 56, 839)]
/-- every place of a text: class, entry, number, place of its word, text, how it is the first place (2: it is; 0, 1: by the premise at the place) , the first place -/
def mx_site : List (String × Nat × Nat × Nat × String × Nat × Nat × String × Nat) := [("WhoKnows", 68, 4, 393, "facts a;person p", 2, 0, "WhoKnows", 68), ("WhoKnows", 374, 6, 547, "not", 2, 0, "WhoKnows", 374), ("WhoKnows", 376, 8, 548, "knows", 2, 0, "WhoKnows", 376), ("WhoKnows", 378, 10, 549, "maybe", 2, 0, "WhoKnows", 378), ("WhoKnows", 380, 12, 550, "all", 2, 0, "WhoKnows", 380), ("WhoKnows", 382, 14, 551, "common", 2, 0, "WhoKnows", 382), ("WhoKnows", 384, 16, 552, "and", 2, 0, "WhoKnows", 384), ("WhoKnows", 386, 18, 553, "or", 2, 0, "WhoKnows", 386), ("WhoKnows$Source", 91, 20, 558, "that", 2, 0, "WhoKnows$Source", 91), ("WhoKnows$DescriptionReader", 98, 22, 574, "facts", 2, 0, "WhoKnows$DescriptionReader", 98), ("WhoKnows$DescriptionReader", 57, 24, 624, "law", 2, 0, "WhoKnows$DescriptionReader", 57), ("WhoKnows$DescriptionReader", 65, 26, 736, "person", 2, 0, "WhoKnows$DescriptionReader", 65), ("WhoKnows$DescriptionReader", 70, 28, 750, "real", 2, 0, "WhoKnows$DescriptionReader", 70), ("java/util/Arrays", 59, 34, 1346, ")", 2, 0, "java/util/Arrays", 59), ("WhoKnows$Formula", 65, 30, 1383, " and ", 2, 0, "WhoKnows$Formula", 65), ("WhoKnows$Formula", 67, 32, 1384, " or ", 2, 0, "WhoKnows$Formula", 67), ("WhoKnows$Formula", 69, 34, 1385, ")", 1, 562, "java/util/Arrays", 59), ("WhoKnows", 388, 36, 1516, "announce", 2, 0, "WhoKnows", 388), ("WhoKnows", 390, 38, 1517, "say", 2, 0, "WhoKnows", 390), ("WhoKnows", 392, 40, 1518, "whisper", 2, 0, "WhoKnows", 392), ("WhoKnows", 394, 42, 1519, "show", 2, 0, "WhoKnows", 394), ("WhoKnows", 396, 44, 1520, "round", 2, 0, "WhoKnows", 396), ("WhoKnows", 312, 46, 1785, "x ", 2, 0, "WhoKnows", 312), ("WhoKnowsModel", 251, 22, 1956, "facts", 1, 625, "WhoKnows$DescriptionReader", 98), ("WhoKnowsModel", 170, 6, 1994, "not", 1, 633, "WhoKnows", 374), ("WhoKnowsModel", 172, 16, 1995, "and", 1, 641, "WhoKnows", 384), ("WhoKnowsModel", 174, 18, 1996, "or", 1, 648, "WhoKnows", 386), ("WhoKnowsModel", 176, 8, 1997, "knows", 1, 658, "WhoKnows", 376), ("WhoKnowsModel", 178, 10, 1998, "maybe", 1, 668, "WhoKnows", 378), ("WhoKnowsModel", 180, 12, 1999, "all", 1, 676, "WhoKnows", 380), ("WhoKnowsModel", 182, 14, 2000, "common", 1, 687, "WhoKnows", 382), ("WhoKnowsModel", 184, 20, 2001, "that", 1, 696, "WhoKnows$Source", 91), ("WhoKnowsModel", 268, 24, 2022, "law", 1, 704, "WhoKnows$DescriptionReader", 57), ("WhoKnowsModel", 276, 26, 2129, "person", 1, 715, "WhoKnows$DescriptionReader", 65), ("WhoKnowsModel", 281, 28, 2138, "real", 1, 724, "WhoKnows$DescriptionReader", 70), ("WhoKnowsModel", 331, 36, 2162, "announce", 1, 737, "WhoKnows", 388), ("WhoKnowsModel", 333, 38, 2163, "say", 1, 745, "WhoKnows", 390), ("WhoKnowsModel", 335, 40, 2164, "whisper", 1, 757, "WhoKnows", 392), ("WhoKnowsModel", 337, 42, 2165, "show", 1, 766, "WhoKnows", 394), ("WhoKnowsModel", 339, 44, 2166, "round", 1, 776, "WhoKnows", 396), ("WhoKnowsModel", 434, 46, 2435, "x ", 1, 783, "WhoKnows", 312), ("WhoKnowsModel", 452, 48, 2468, "not ", 2, 0, "WhoKnowsModel", 452), ("WhoKnowsModel", 458, 30, 2473, " and ", 1, 801, "WhoKnows$Formula", 65), ("WhoKnowsModel", 464, 32, 2478, " or ", 1, 810, "WhoKnows$Formula", 67), ("WhoKnowsModel", 466, 50, 2479, "knows ", 2, 0, "WhoKnowsModel", 466), ("WhoKnowsModel", 468, 52, 2480, "maybe ", 2, 0, "WhoKnowsModel", 468), ("WhoKnowsModel", 470, 54, 2481, "all ", 2, 0, "WhoKnowsModel", 470), ("WhoKnowsModel", 472, 56, 2482, "common ", 2, 0, "WhoKnowsModel", 472)]
def mx_val (own : String) (x : Nat) : Term := .field (.string own x) "java/lang/String" "value" "[B"
def mx_scs (own : String) (x n N : Nat) : List Jvm.Cond := [.exactly (.string own x) "java/lang/String", .eq (.field (.string own x) "java/lang/String" "coder" "B") (.int 0), .arrayOf (mx_val own x) .byte, .eq (.length (mx_val own x)) (.int (Int32.ofNat n))] ++ (List.range n).map fun j => .eq (.elem (mx_val own x) (.int (Int32.ofNat j))) (.int (Int32.ofNat (mm_ag 32 N j)))
def mx_sck (q : String × Nat × Nat × Nat) : Bool := match mm_ext q.2.2.1, mm_ext (q.2.2.1 + 1) with
  | some (.inr (.inr (0, [.ref a, .int z]))), some (.inl (2, n, N)) => decide (a = q.2.2.1 + 1) && (decide (z = 0) && (Nat.ble n 100000 && decide ((mx_flat.drop q.2.2.2).take (4 + n) = mx_scs q.1 q.2.1 n N)))
  | _, _ => false
def mx_eck (q : String × Nat × Nat × Nat × String × Nat × Nat × String × Nat) : Bool := match q with
  | (own, x, k, p, tx, how, pe, own0, x0) => decide (mt_tbl[p]? = some (.stringRef own x tx)) && (mx_prim.any (fun r => decide (r.1 = own0 ∧ r.2.1 = x0 ∧ r.2.2.1 = k)) && (match how with
    | 0 => decide (mx_flat[pe]? = some (.eq (.string own x) (.string own0 x0)))
    | 1 => decide (mx_flat[pe]? = some (.eq (.string own0 x0) (.string own x)))
    | _ => decide (own = own0 ∧ x = x0)))
def mx_arr (C n d : String) (ty : FieldType) (len N p : Nat) : Bool := decide ((mx_flat.drop p).take (2 + len) = [.arrayOf (.static C n d) ty, .eq (.length (.static C n d)) (.int (Int32.ofNat len))] ++ (List.range len).map fun j => .eq (.elem (.static C n d) (.int (Int32.ofNat j))) (.int (Int32.ofNat (mm_ag 32 N j))))
set_option maxRecDepth 100000 in
theorem mx_P1 : mx_prim.all mx_sck = true := by decide +kernel
set_option maxRecDepth 100000 in
theorem mx_P2 : mx_site.all mx_eck = true := by decide +kernel
theorem mx_P3 : mm_sites.all (fun q => mx_site.any (fun r => decide (r.1 = q.1 ∧ r.2.1 = q.2.1 ∧ r.2.2.1 = q.2.2))) = true := by decide +kernel
set_option maxRecDepth 100000 in
theorem mx_A1 : (match mm_ext 1 with
  | some (.inl (_, len, N)) => mx_arr "WhoKnows" "HOLDING" "[I" .int len N 10 && Nat.ble len 100000
  | _ => false) = true := by decide +kernel
set_option maxRecDepth 100000 in
theorem mx_A2 : (match mm_ext 2 with
  | some (.inl (_, len, N)) => mx_arr "java/lang/Integer" "DigitTens" "[B" .byte len N 121 && Nat.ble len 100000
  | _ => false) = true := by decide +kernel
set_option maxRecDepth 100000 in
theorem mx_A3 : (match mm_ext 3 with
  | some (.inl (_, len, N)) => mx_arr "java/lang/Integer" "DigitOnes" "[B" .byte len N 18 && Nat.ble len 100000
  | _ => false) = true := by decide +kernel
set_option maxRecDepth 100000 in
theorem mx_I0 : mx_flat[4]? = some (.eq (.static "java/lang/String" "COMPACT_STRINGS" "Z") (.int 1)) := by decide +kernel
set_option maxRecDepth 100000 in
theorem mx_I1 : mx_flat[6]? = some (.eq (.static "java/lang/StringUTF16" "$assertionsDisabled" "Z") (.int 1)) := by decide +kernel
set_option maxRecDepth 100000 in
theorem mx_I2 : mx_flat[7]? = some (.eq (.static "java/lang/StringUTF16" "HI_BYTE_SHIFT" "I") (.int 0)) := by decide +kernel
set_option maxRecDepth 100000 in
theorem mx_I3 : mx_flat[8]? = some (.eq (.static "java/lang/StringUTF16" "LO_BYTE_SHIFT" "I") (.int 8)) := by decide +kernel
set_option maxRecDepth 100000 in
theorem mx_F0 : mx_flat[5]? = some (.isRef (.static "jdk/internal/util/Preconditions" "SIOOBE_FORMATTER" "Ljava/util/function/BiFunction;")) := by decide +kernel
end
