section
-- ===== PART A: goes FIRST, ahead of the names: the tables' words, and 'selects' of the private methods out of them =====
/-- a private method of a class that the tables say can be made, by its rows of tables_1 -/
def lw_okq (q : MethodName × Nat) : Prop := (q.1.cls ≠ "java/lang/invoke/MethodHandle" ∧ q.1.cls ≠ "java/lang/invoke/VarHandle") ∧ Cond.instantiable q.1.cls q.2 ∈ tables_1 ∧ Cond.privateMethod q.1 ∈ tables_1 ∧ Cond.instanceMethod q.1 ∈ tables_1
theorem lw_p0 : lw_okq (⟨"PartGraphs$Reader", "findWord", "()Z"⟩, 5) := ⟨⟨by decide +kernel, by decide +kernel⟩, List.mem_of_getElem? (i := 28) (by decide +kernel), List.mem_of_getElem? (i := 154) (by decide +kernel), List.mem_of_getElem? (i := 155) (by decide +kernel)⟩
theorem lw_p1 : lw_okq (⟨"PartGraphs$Reader", "isBlankAt", "(I)Z"⟩, 5) := ⟨⟨by decide +kernel, by decide +kernel⟩, List.mem_of_getElem? (i := 28) (by decide +kernel), List.mem_of_getElem? (i := 158) (by decide +kernel), List.mem_of_getElem? (i := 159) (by decide +kernel)⟩
theorem lw_p2 : lw_okq (⟨"PartGraphs$Reader", "readSentence", "(LPartGraphs$Product;)Z"⟩, 5) := ⟨⟨by decide +kernel, by decide +kernel⟩, List.mem_of_getElem? (i := 28) (by decide +kernel), List.mem_of_getElem? (i := 162) (by decide +kernel), List.mem_of_getElem? (i := 163) (by decide +kernel)⟩
theorem lw_p3 : lw_okq (⟨"PartGraphs$Reader", "verbHere", "()LPartGraphs$Verb;"⟩, 5) := ⟨⟨by decide +kernel, by decide +kernel⟩, List.mem_of_getElem? (i := 28) (by decide +kernel), List.mem_of_getElem? (i := 166) (by decide +kernel), List.mem_of_getElem? (i := 167) (by decide +kernel)⟩
theorem lw_p4 : lw_okq (⟨"PartGraphs$Reader", "isWordHere", "(Ljava/lang/String;)Z"⟩, 5) := ⟨⟨by decide +kernel, by decide +kernel⟩, List.mem_of_getElem? (i := 28) (by decide +kernel), List.mem_of_getElem? (i := 172) (by decide +kernel), List.mem_of_getElem? (i := 173) (by decide +kernel)⟩
theorem lw_p5 : lw_okq (⟨"PartGraphs$Reader", "canGoOn", "(LPartGraphs$Product;LPartGraphs$Verb;I)Z"⟩, 5) := ⟨⟨by decide +kernel, by decide +kernel⟩, List.mem_of_getElem? (i := 28) (by decide +kernel), List.mem_of_getElem? (i := 224) (by decide +kernel), List.mem_of_getElem? (i := 225) (by decide +kernel)⟩
theorem lw_p6 : lw_okq (⟨"PartGraphs$Product", "allowsPart", "(IJ)Z"⟩, 12) := ⟨⟨by decide +kernel, by decide +kernel⟩, List.mem_of_getElem? (i := 65) (by decide +kernel), List.mem_of_getElem? (i := 240) (by decide +kernel), List.mem_of_getElem? (i := 241) (by decide +kernel)⟩
theorem lw_p7 : lw_okq (⟨"PartGraphs$Product", "allowsCover", "(II)Z"⟩, 12) := ⟨⟨by decide +kernel, by decide +kernel⟩, List.mem_of_getElem? (i := 65) (by decide +kernel), List.mem_of_getElem? (i := 248) (by decide +kernel), List.mem_of_getElem? (i := 249) (by decide +kernel)⟩
theorem lw_p8 : lw_okq (⟨"PartGraphs$Product", "areTwoParts", "(II)Z"⟩, 12) := ⟨⟨by decide +kernel, by decide +kernel⟩, List.mem_of_getElem? (i := 65) (by decide +kernel), List.mem_of_getElem? (i := 252) (by decide +kernel), List.mem_of_getElem? (i := 253) (by decide +kernel)⟩
theorem lw_p9 : lw_okq (⟨"PartGraphs$Product", "allowsBar", "(III)Z"⟩, 12) := ⟨⟨by decide +kernel, by decide +kernel⟩, List.mem_of_getElem? (i := 65) (by decide +kernel), List.mem_of_getElem? (i := 259) (by decide +kernel), List.mem_of_getElem? (i := 260) (by decide +kernel)⟩
theorem lw_p10 : lw_okq (⟨"PartGraphs$Product", "allowsFastening", "(III)Z"⟩, 12) := ⟨⟨by decide +kernel, by decide +kernel⟩, List.mem_of_getElem? (i := 65) (by decide +kernel), List.mem_of_getElem? (i := 266) (by decide +kernel), List.mem_of_getElem? (i := 267) (by decide +kernel)⟩
theorem lw_p11 : lw_okq (⟨"PartGraphs$Product", "allowsHazard", "(II)Z"⟩, 12) := ⟨⟨by decide +kernel, by decide +kernel⟩, List.mem_of_getElem? (i := 65) (by decide +kernel), List.mem_of_getElem? (i := 270) (by decide +kernel), List.mem_of_getElem? (i := 271) (by decide +kernel)⟩
theorem lw_p12 : lw_okq (⟨"PartGraphs$Product", "allowsOption", "(II)Z"⟩, 12) := ⟨⟨by decide +kernel, by decide +kernel⟩, List.mem_of_getElem? (i := 65) (by decide +kernel), List.mem_of_getElem? (i := 278) (by decide +kernel), List.mem_of_getElem? (i := 279) (by decide +kernel)⟩
theorem lw_p13 : lw_okq (⟨"PartGraphs$Product", "allowsDamage", "(II)Z"⟩, 12) := ⟨⟨by decide +kernel, by decide +kernel⟩, List.mem_of_getElem? (i := 65) (by decide +kernel), List.mem_of_getElem? (i := 282) (by decide +kernel), List.mem_of_getElem? (i := 283) (by decide +kernel)⟩
theorem lw_p14 : lw_okq (⟨"PartGraphs$Reader", "numberHere", "()I"⟩, 5) := ⟨⟨by decide +kernel, by decide +kernel⟩, List.mem_of_getElem? (i := 28) (by decide +kernel), List.mem_of_getElem? (i := 286) (by decide +kernel), List.mem_of_getElem? (i := 287) (by decide +kernel)⟩
theorem lw_p15 : lw_okq (⟨"PartGraphs$Product", "comingOff", "(I)I"⟩, 12) := ⟨⟨by decide +kernel, by decide +kernel⟩, List.mem_of_getElem? (i := 65) (by decide +kernel), List.mem_of_getElem? (i := 353) (by decide +kernel), List.mem_of_getElem? (i := 354) (by decide +kernel)⟩
def lw_privs_1 : List (MethodName × Nat) := [(⟨"PartGraphs$Reader", "findWord", "()Z"⟩, 5), (⟨"PartGraphs$Reader", "isBlankAt", "(I)Z"⟩, 5), (⟨"PartGraphs$Reader", "readSentence", "(LPartGraphs$Product;)Z"⟩, 5), (⟨"PartGraphs$Reader", "verbHere", "()LPartGraphs$Verb;"⟩, 5), (⟨"PartGraphs$Reader", "isWordHere", "(Ljava/lang/String;)Z"⟩, 5), (⟨"PartGraphs$Reader", "canGoOn", "(LPartGraphs$Product;LPartGraphs$Verb;I)Z"⟩, 5), (⟨"PartGraphs$Product", "allowsPart", "(IJ)Z"⟩, 12), (⟨"PartGraphs$Product", "allowsCover", "(II)Z"⟩, 12), (⟨"PartGraphs$Product", "areTwoParts", "(II)Z"⟩, 12), (⟨"PartGraphs$Product", "allowsBar", "(III)Z"⟩, 12), (⟨"PartGraphs$Product", "allowsFastening", "(III)Z"⟩, 12), (⟨"PartGraphs$Product", "allowsHazard", "(II)Z"⟩, 12), (⟨"PartGraphs$Product", "allowsOption", "(II)Z"⟩, 12), (⟨"PartGraphs$Product", "allowsDamage", "(II)Z"⟩, 12), (⟨"PartGraphs$Reader", "numberHere", "()I"⟩, 5), (⟨"PartGraphs$Product", "comingOff", "(I)I"⟩, 12)]
theorem lw_r1 : ∀ q ∈ lw_privs_1, lw_okq q := List.forall_mem_cons.mpr ⟨lw_p0, List.forall_mem_cons.mpr ⟨lw_p1, List.forall_mem_cons.mpr ⟨lw_p2, List.forall_mem_cons.mpr ⟨lw_p3, List.forall_mem_cons.mpr ⟨lw_p4, List.forall_mem_cons.mpr ⟨lw_p5, List.forall_mem_cons.mpr ⟨lw_p6, List.forall_mem_cons.mpr ⟨lw_p7, List.forall_mem_cons.mpr ⟨lw_p8, List.forall_mem_cons.mpr ⟨lw_p9, List.forall_mem_cons.mpr ⟨lw_p10, List.forall_mem_cons.mpr ⟨lw_p11, List.forall_mem_cons.mpr ⟨lw_p12, List.forall_mem_cons.mpr ⟨lw_p13, List.forall_mem_cons.mpr ⟨lw_p14, List.forall_mem_cons.mpr ⟨lw_p15, fun _ h => absurd h List.not_mem_nil⟩⟩⟩⟩⟩⟩⟩⟩⟩⟩⟩⟩⟩⟩⟩⟩
theorem lw_p16 : lw_okq (⟨"PartGraphs$Product", "membersOf", "(I)I"⟩, 12) := ⟨⟨by decide +kernel, by decide +kernel⟩, List.mem_of_getElem? (i := 65) (by decide +kernel), List.mem_of_getElem? (i := 390) (by decide +kernel), List.mem_of_getElem? (i := 391) (by decide +kernel)⟩
theorem lw_p17 : lw_okq (⟨"PartGraphs$Teller", "tellParts", "(LPartGraphs$Product;)V"⟩, 2) := ⟨⟨by decide +kernel, by decide +kernel⟩, List.mem_of_getElem? (i := 52) (by decide +kernel), List.mem_of_getElem? (i := 450) (by decide +kernel), List.mem_of_getElem? (i := 451) (by decide +kernel)⟩
theorem lw_p18 : lw_okq (⟨"PartGraphs$Teller", "tellWord", "(LPartGraphs$Verb;)V"⟩, 2) := ⟨⟨by decide +kernel, by decide +kernel⟩, List.mem_of_getElem? (i := 52) (by decide +kernel), List.mem_of_getElem? (i := 456) (by decide +kernel), List.mem_of_getElem? (i := 457) (by decide +kernel)⟩
theorem lw_p19 : lw_okq (⟨"PartGraphs$Teller", "tellByte", "(I)V"⟩, 2) := ⟨⟨by decide +kernel, by decide +kernel⟩, List.mem_of_getElem? (i := 52) (by decide +kernel), List.mem_of_getElem? (i := 462) (by decide +kernel), List.mem_of_getElem? (i := 463) (by decide +kernel)⟩
theorem lw_p20 : lw_okq (⟨"PartGraphs$Teller", "tellNumber", "(J)V"⟩, 2) := ⟨⟨by decide +kernel, by decide +kernel⟩, List.mem_of_getElem? (i := 52) (by decide +kernel), List.mem_of_getElem? (i := 466) (by decide +kernel), List.mem_of_getElem? (i := 467) (by decide +kernel)⟩
theorem lw_p21 : lw_okq (⟨"PartGraphs$Teller", "tellDetails", "(LPartGraphs$Product;I)V"⟩, 2) := ⟨⟨by decide +kernel, by decide +kernel⟩, List.mem_of_getElem? (i := 52) (by decide +kernel), List.mem_of_getElem? (i := 471) (by decide +kernel), List.mem_of_getElem? (i := 472) (by decide +kernel)⟩
theorem lw_p22 : lw_okq (⟨"PartGraphs$Teller", "tellEach", "(LPartGraphs$Verb;II)V"⟩, 2) := ⟨⟨by decide +kernel, by decide +kernel⟩, List.mem_of_getElem? (i := 52) (by decide +kernel), List.mem_of_getElem? (i := 481) (by decide +kernel), List.mem_of_getElem? (i := 482) (by decide +kernel)⟩
theorem lw_p23 : lw_okq (⟨"PartGraphs$Teller", "tellPair", "(LPartGraphs$Verb;II)V"⟩, 2) := ⟨⟨by decide +kernel, by decide +kernel⟩, List.mem_of_getElem? (i := 52) (by decide +kernel), List.mem_of_getElem? (i := 486) (by decide +kernel), List.mem_of_getElem? (i := 487) (by decide +kernel)⟩
theorem lw_p24 : lw_okq (⟨"PartGraphs$Teller", "tellBars", "(III)V"⟩, 2) := ⟨⟨by decide +kernel, by decide +kernel⟩, List.mem_of_getElem? (i := 52) (by decide +kernel), List.mem_of_getElem? (i := 491) (by decide +kernel), List.mem_of_getElem? (i := 492) (by decide +kernel)⟩
theorem lw_p25 : lw_okq (⟨"PartGraphs$Teller", "tellFastenings", "(LPartGraphs$Product;)V"⟩, 2) := ⟨⟨by decide +kernel, by decide +kernel⟩, List.mem_of_getElem? (i := 52) (by decide +kernel), List.mem_of_getElem? (i := 503) (by decide +kernel), List.mem_of_getElem? (i := 504) (by decide +kernel)⟩
theorem lw_p26 : lw_okq (⟨"java/lang/Throwable", "fillInStackTrace", "(I)Ljava/lang/Throwable;"⟩, 6) := ⟨⟨by decide +kernel, by decide +kernel⟩, List.mem_of_getElem? (i := 565) (by decide +kernel), List.mem_of_getElem? (i := 563) (by decide +kernel), List.mem_of_getElem? (i := 564) (by decide +kernel)⟩
theorem lw_p27 : lw_okq (⟨"PartGraphsModel", "clear", "(I)V"⟩, 18) := ⟨⟨by decide +kernel, by decide +kernel⟩, List.mem_of_getElem? (i := 611) (by decide +kernel), List.mem_of_getElem? (i := 617) (by decide +kernel), List.mem_of_getElem? (i := 618) (by decide +kernel)⟩
theorem lw_p28 : lw_okq (⟨"PartGraphsModel", "wordBegin", "(I)I"⟩, 18) := ⟨⟨by decide +kernel, by decide +kernel⟩, List.mem_of_getElem? (i := 611) (by decide +kernel), List.mem_of_getElem? (i := 689) (by decide +kernel), List.mem_of_getElem? (i := 690) (by decide +kernel)⟩
theorem lw_p29 : lw_okq (⟨"PartGraphsModel", "isGap", "(I)Z"⟩, 18) := ⟨⟨by decide +kernel, by decide +kernel⟩, List.mem_of_getElem? (i := 611) (by decide +kernel), List.mem_of_getElem? (i := 693) (by decide +kernel), List.mem_of_getElem? (i := 694) (by decide +kernel)⟩
theorem lw_p30 : lw_okq (⟨"PartGraphsModel", "readSentence", "()Z"⟩, 18) := ⟨⟨by decide +kernel, by decide +kernel⟩, List.mem_of_getElem? (i := 611) (by decide +kernel), List.mem_of_getElem? (i := 697) (by decide +kernel), List.mem_of_getElem? (i := 698) (by decide +kernel)⟩
theorem lw_p31 : lw_okq (⟨"PartGraphsModel", "wordEnd", "(I)I"⟩, 18) := ⟨⟨by decide +kernel, by decide +kernel⟩, List.mem_of_getElem? (i := 611) (by decide +kernel), List.mem_of_getElem? (i := 701) (by decide +kernel), List.mem_of_getElem? (i := 702) (by decide +kernel)⟩
def lw_privs_2 : List (MethodName × Nat) := [(⟨"PartGraphs$Product", "membersOf", "(I)I"⟩, 12), (⟨"PartGraphs$Teller", "tellParts", "(LPartGraphs$Product;)V"⟩, 2), (⟨"PartGraphs$Teller", "tellWord", "(LPartGraphs$Verb;)V"⟩, 2), (⟨"PartGraphs$Teller", "tellByte", "(I)V"⟩, 2), (⟨"PartGraphs$Teller", "tellNumber", "(J)V"⟩, 2), (⟨"PartGraphs$Teller", "tellDetails", "(LPartGraphs$Product;I)V"⟩, 2), (⟨"PartGraphs$Teller", "tellEach", "(LPartGraphs$Verb;II)V"⟩, 2), (⟨"PartGraphs$Teller", "tellPair", "(LPartGraphs$Verb;II)V"⟩, 2), (⟨"PartGraphs$Teller", "tellBars", "(III)V"⟩, 2), (⟨"PartGraphs$Teller", "tellFastenings", "(LPartGraphs$Product;)V"⟩, 2), (⟨"java/lang/Throwable", "fillInStackTrace", "(I)Ljava/lang/Throwable;"⟩, 6), (⟨"PartGraphsModel", "clear", "(I)V"⟩, 18), (⟨"PartGraphsModel", "wordBegin", "(I)I"⟩, 18), (⟨"PartGraphsModel", "isGap", "(I)Z"⟩, 18), (⟨"PartGraphsModel", "readSentence", "()Z"⟩, 18), (⟨"PartGraphsModel", "wordEnd", "(I)I"⟩, 18)]
theorem lw_r2 : ∀ q ∈ lw_privs_2, lw_okq q := List.forall_mem_cons.mpr ⟨lw_p16, List.forall_mem_cons.mpr ⟨lw_p17, List.forall_mem_cons.mpr ⟨lw_p18, List.forall_mem_cons.mpr ⟨lw_p19, List.forall_mem_cons.mpr ⟨lw_p20, List.forall_mem_cons.mpr ⟨lw_p21, List.forall_mem_cons.mpr ⟨lw_p22, List.forall_mem_cons.mpr ⟨lw_p23, List.forall_mem_cons.mpr ⟨lw_p24, List.forall_mem_cons.mpr ⟨lw_p25, List.forall_mem_cons.mpr ⟨lw_p26, List.forall_mem_cons.mpr ⟨lw_p27, List.forall_mem_cons.mpr ⟨lw_p28, List.forall_mem_cons.mpr ⟨lw_p29, List.forall_mem_cons.mpr ⟨lw_p30, List.forall_mem_cons.mpr ⟨lw_p31, fun _ h => absurd h List.not_mem_nil⟩⟩⟩⟩⟩⟩⟩⟩⟩⟩⟩⟩⟩⟩⟩⟩
theorem lw_p32 : lw_okq (⟨"PartGraphsModel", "wordOf", "(II)J"⟩, 18) := ⟨⟨by decide +kernel, by decide +kernel⟩, List.mem_of_getElem? (i := 611) (by decide +kernel), List.mem_of_getElem? (i := 705) (by decide +kernel), List.mem_of_getElem? (i := 706) (by decide +kernel)⟩
theorem lw_p33 : lw_okq (⟨"PartGraphsModel", "canBe", "(IIIIII)Z"⟩, 18) := ⟨⟨by decide +kernel, by decide +kernel⟩, List.mem_of_getElem? (i := 611) (by decide +kernel), List.mem_of_getElem? (i := 720) (by decide +kernel), List.mem_of_getElem? (i := 721) (by decide +kernel)⟩
theorem lw_p34 : lw_okq (⟨"PartGraphsModel", "isAllowed", "(IIIII)Z"⟩, 18) := ⟨⟨by decide +kernel, by decide +kernel⟩, List.mem_of_getElem? (i := 611) (by decide +kernel), List.mem_of_getElem? (i := 724) (by decide +kernel), List.mem_of_getElem? (i := 725) (by decide +kernel)⟩
theorem lw_p35 : lw_okq (⟨"PartGraphsModel", "isPart", "(II)Z"⟩, 18) := ⟨⟨by decide +kernel, by decide +kernel⟩, List.mem_of_getElem? (i := 611) (by decide +kernel), List.mem_of_getElem? (i := 729) (by decide +kernel), List.mem_of_getElem? (i := 730) (by decide +kernel)⟩
theorem lw_p36 : lw_okq (⟨"PartGraphsModel", "numberOf", "(II)I"⟩, 18) := ⟨⟨by decide +kernel, by decide +kernel⟩, List.mem_of_getElem? (i := 611) (by decide +kernel), List.mem_of_getElem? (i := 739) (by decide +kernel), List.mem_of_getElem? (i := 740) (by decide +kernel)⟩
theorem lw_p37 : lw_okq (⟨"PartGraphsModel", "make", "(IIIII)V"⟩, 18) := ⟨⟨by decide +kernel, by decide +kernel⟩, List.mem_of_getElem? (i := 611) (by decide +kernel), List.mem_of_getElem? (i := 743) (by decide +kernel), List.mem_of_getElem? (i := 744) (by decide +kernel)⟩
theorem lw_p38 : lw_okq (⟨"PartGraphsModel", "take", "()V"⟩, 18) := ⟨⟨by decide +kernel, by decide +kernel⟩, List.mem_of_getElem? (i := 611) (by decide +kernel), List.mem_of_getElem? (i := 747) (by decide +kernel), List.mem_of_getElem? (i := 748) (by decide +kernel)⟩
theorem lw_p39 : lw_okq (⟨"PartGraphsModel", "tell", "(IIII)Z"⟩, 18) := ⟨⟨by decide +kernel, by decide +kernel⟩, List.mem_of_getElem? (i := 611) (by decide +kernel), List.mem_of_getElem? (i := 764) (by decide +kernel), List.mem_of_getElem? (i := 765) (by decide +kernel)⟩
theorem lw_p40 : lw_okq (⟨"PartGraphsModel", "isFree", "(IJ)Z"⟩, 18) := ⟨⟨by decide +kernel, by decide +kernel⟩, List.mem_of_getElem? (i := 611) (by decide +kernel), List.mem_of_getElem? (i := 788) (by decide +kernel), List.mem_of_getElem? (i := 789) (by decide +kernel)⟩
theorem lw_p41 : lw_okq (⟨"PartGraphsModel", "isPlain", "(IJ)Z"⟩, 18) := ⟨⟨by decide +kernel, by decide +kernel⟩, List.mem_of_getElem? (i := 611) (by decide +kernel), List.mem_of_getElem? (i := 795) (by decide +kernel), List.mem_of_getElem? (i := 796) (by decide +kernel)⟩
theorem lw_p42 : lw_okq (⟨"PartGraphsModel", "allOff", "(I)J"⟩, 18) := ⟨⟨by decide +kernel, by decide +kernel⟩, List.mem_of_getElem? (i := 611) (by decide +kernel), List.mem_of_getElem? (i := 807) (by decide +kernel), List.mem_of_getElem? (i := 808) (by decide +kernel)⟩
theorem lw_p43 : lw_okq (⟨"PartGraphsModel", "sizeOf", "(I)I"⟩, 18) := ⟨⟨by decide +kernel, by decide +kernel⟩, List.mem_of_getElem? (i := 611) (by decide +kernel), List.mem_of_getElem? (i := 819) (by decide +kernel), List.mem_of_getElem? (i := 820) (by decide +kernel)⟩
theorem lw_p44 : lw_okq (⟨"PartGraphsModel", "isIn", "(II)Z"⟩, 18) := ⟨⟨by decide +kernel, by decide +kernel⟩, List.mem_of_getElem? (i := 611) (by decide +kernel), List.mem_of_getElem? (i := 823) (by decide +kernel), List.mem_of_getElem? (i := 824) (by decide +kernel)⟩
theorem lw_p45 : lw_okq (⟨"PartGraphsModel", "orderOf", "(I)I"⟩, 18) := ⟨⟨by decide +kernel, by decide +kernel⟩, List.mem_of_getElem? (i := 611) (by decide +kernel), List.mem_of_getElem? (i := 827) (by decide +kernel), List.mem_of_getElem? (i := 828) (by decide +kernel)⟩
theorem lw_p46 : lw_okq (⟨"PartGraphsModel", "pieceOf", "(IJ)J"⟩, 18) := ⟨⟨by decide +kernel, by decide +kernel⟩, List.mem_of_getElem? (i := 611) (by decide +kernel), List.mem_of_getElem? (i := 835) (by decide +kernel), List.mem_of_getElem? (i := 836) (by decide +kernel)⟩
theorem lw_p47 : lw_okq (⟨"PartGraphsModel", "putTwo", "(III)V"⟩, 18) := ⟨⟨by decide +kernel, by decide +kernel⟩, List.mem_of_getElem? (i := 611) (by decide +kernel), List.mem_of_getElem? (i := 855) (by decide +kernel), List.mem_of_getElem? (i := 856) (by decide +kernel)⟩
def lw_privs_3 : List (MethodName × Nat) := [(⟨"PartGraphsModel", "wordOf", "(II)J"⟩, 18), (⟨"PartGraphsModel", "canBe", "(IIIIII)Z"⟩, 18), (⟨"PartGraphsModel", "isAllowed", "(IIIII)Z"⟩, 18), (⟨"PartGraphsModel", "isPart", "(II)Z"⟩, 18), (⟨"PartGraphsModel", "numberOf", "(II)I"⟩, 18), (⟨"PartGraphsModel", "make", "(IIIII)V"⟩, 18), (⟨"PartGraphsModel", "take", "()V"⟩, 18), (⟨"PartGraphsModel", "tell", "(IIII)Z"⟩, 18), (⟨"PartGraphsModel", "isFree", "(IJ)Z"⟩, 18), (⟨"PartGraphsModel", "isPlain", "(IJ)Z"⟩, 18), (⟨"PartGraphsModel", "allOff", "(I)J"⟩, 18), (⟨"PartGraphsModel", "sizeOf", "(I)I"⟩, 18), (⟨"PartGraphsModel", "isIn", "(II)Z"⟩, 18), (⟨"PartGraphsModel", "orderOf", "(I)I"⟩, 18), (⟨"PartGraphsModel", "pieceOf", "(IJ)J"⟩, 18), (⟨"PartGraphsModel", "putTwo", "(III)V"⟩, 18)]
theorem lw_r3 : ∀ q ∈ lw_privs_3, lw_okq q := List.forall_mem_cons.mpr ⟨lw_p32, List.forall_mem_cons.mpr ⟨lw_p33, List.forall_mem_cons.mpr ⟨lw_p34, List.forall_mem_cons.mpr ⟨lw_p35, List.forall_mem_cons.mpr ⟨lw_p36, List.forall_mem_cons.mpr ⟨lw_p37, List.forall_mem_cons.mpr ⟨lw_p38, List.forall_mem_cons.mpr ⟨lw_p39, List.forall_mem_cons.mpr ⟨lw_p40, List.forall_mem_cons.mpr ⟨lw_p41, List.forall_mem_cons.mpr ⟨lw_p42, List.forall_mem_cons.mpr ⟨lw_p43, List.forall_mem_cons.mpr ⟨lw_p44, List.forall_mem_cons.mpr ⟨lw_p45, List.forall_mem_cons.mpr ⟨lw_p46, List.forall_mem_cons.mpr ⟨lw_p47, fun _ h => absurd h List.not_mem_nil⟩⟩⟩⟩⟩⟩⟩⟩⟩⟩⟩⟩⟩⟩⟩⟩
theorem lw_p48 : lw_okq (⟨"PartGraphsModel", "putWord", "(I)V"⟩, 18) := ⟨⟨by decide +kernel, by decide +kernel⟩, List.mem_of_getElem? (i := 611) (by decide +kernel), List.mem_of_getElem? (i := 859) (by decide +kernel), List.mem_of_getElem? (i := 860) (by decide +kernel)⟩
theorem lw_p49 : lw_okq (⟨"PartGraphsModel", "put", "(I)V"⟩, 18) := ⟨⟨by decide +kernel, by decide +kernel⟩, List.mem_of_getElem? (i := 611) (by decide +kernel), List.mem_of_getElem? (i := 864) (by decide +kernel), List.mem_of_getElem? (i := 865) (by decide +kernel)⟩
theorem lw_p50 : lw_okq (⟨"PartGraphsModel", "putNumber", "(I)V"⟩, 18) := ⟨⟨by decide +kernel, by decide +kernel⟩, List.mem_of_getElem? (i := 611) (by decide +kernel), List.mem_of_getElem? (i := 868) (by decide +kernel), List.mem_of_getElem? (i := 869) (by decide +kernel)⟩
theorem lw_p51 : lw_okq (⟨"PartGraphsModel", "putPart", "(I)V"⟩, 18) := ⟨⟨by decide +kernel, by decide +kernel⟩, List.mem_of_getElem? (i := 611) (by decide +kernel), List.mem_of_getElem? (i := 872) (by decide +kernel), List.mem_of_getElem? (i := 873) (by decide +kernel)⟩
def lw_privs_4 : List (MethodName × Nat) := [(⟨"PartGraphsModel", "putWord", "(I)V"⟩, 18), (⟨"PartGraphsModel", "put", "(I)V"⟩, 18), (⟨"PartGraphsModel", "putNumber", "(I)V"⟩, 18), (⟨"PartGraphsModel", "putPart", "(I)V"⟩, 18)]
theorem lw_r4 : ∀ q ∈ lw_privs_4, lw_okq q := List.forall_mem_cons.mpr ⟨lw_p48, List.forall_mem_cons.mpr ⟨lw_p49, List.forall_mem_cons.mpr ⟨lw_p50, List.forall_mem_cons.mpr ⟨lw_p51, fun _ h => absurd h List.not_mem_nil⟩⟩⟩⟩
def lw_privs : List (MethodName × Nat) := lw_privs_1 ++ (lw_privs_2 ++ (lw_privs_3 ++ (lw_privs_4)))
def lw_tbl : List Cond := k2_sels lw_privs ++ tables_1
theorem lw_privs_ok : ∀ q ∈ lw_privs, lw_okq q := by
  show ∀ q ∈ lw_privs_1 ++ (lw_privs_2 ++ (lw_privs_3 ++ (lw_privs_4))), lw_okq q
  exact List.forall_mem_append.mpr ⟨lw_r1, List.forall_mem_append.mpr ⟨lw_r2, List.forall_mem_append.mpr ⟨lw_r3, lw_r4⟩⟩⟩
end
section
/-! ===== BEGIN words of one list among another's, by their places ===== -/
theorem goodIn_r {big : List Cond} (ws : List Cond) (ps : List Nat) (hp : ws = ps.filterMap (fun i => big[i]?)) (h : ws.all goodWord = true) : GoodIn big ws := by
  intro w hw
  have h1 := List.all_eq_true.mp h w hw
  rw [hp] at hw
  obtain ⟨i, -, hi⟩ := List.mem_filterMap.mp hw
  have hm : w ∈ big := by first | exact List.mem_of_getElem? hi | exact List.getElem?_mem hi
  exact ⟨hm, good_of_word h1⟩
theorem goodIn_app {big a b : List Cond} (ha : GoodIn big a) (hb : GoodIn big b) : GoodIn big (a ++ b) := fun w h => (List.mem_append.mp h).elim (ha w) (hb w)
theorem goodIn_ca {big a b : List Cond} {c : Cond} (ha : GoodIn big (c :: a)) (hb : GoodIn big b) : GoodIn big (c :: (a ++ b)) := fun w h => (List.mem_cons.mp h).elim (fun e => ha w (List.mem_cons.mpr (Or.inl e))) (fun h => (List.mem_append.mp h).elim (fun h => ha w (List.mem_cons.mpr (Or.inr h))) (hb w))
theorem goodIn_sub {big ws : List Cond} (hm : ∀ w ∈ ws, w ∈ big) (h : ws.all goodWord = true) : GoodIn big ws := fun w hw => ⟨hm w hw, good_of_word (List.all_eq_true.mp h w hw)⟩
/-! ===== END ===== -/

/-! ===== BEGIN printed: names, fields, word lists, decode rows ===== -/
def RX0 : String := "PartGraphs$1"
def TX0 : u_T := fun k => match k with
  | _ => ("", "", "", false)
def tyX0 : Nat → FieldType := fun k => match k with
  | _ => .int
abbrev wsX00 : List Cond := u_ws RX0 TX0 0
theorem nmX0 : ∀ a, a < 0 → ∀ b, b < 0 → a ≠ b → (TX0 a).2.1 ≠ (TX0 b).2.1 := by decide +kernel
theorem tyX0_ok : ∀ k, k < 0 → parseFieldDescriptor (TX0 k).2.2.1 = some (tyX0 k) := by decide +kernel
def RX1 : String := "PartGraphs$Product"
def TX1 : u_T := fun k => match k with
  | 0 => ("PartGraphs$Product", "kinds", "[I", true)
  | 1 => ("PartGraphs$Product", "grams", "[J", true)
  | 2 => ("PartGraphs$Product", "coverers", "[I", true)
  | 3 => ("PartGraphs$Product", "bars", "[I", true)
  | 4 => ("PartGraphs$Product", "hazards", "[I", true)
  | 5 => ("PartGraphs$Product", "families", "[I", true)
  | 6 => ("PartGraphs$Product", "damages", "[I", true)
  | 7 => ("PartGraphs$Product", "firstEnds", "[I", true)
  | 8 => ("PartGraphs$Product", "secondEnds", "[I", true)
  | 9 => ("PartGraphs$Product", "fasteningKinds", "[I", true)
  | 10 => ("PartGraphs$Product", "partCount", "I", false)
  | _ => ("PartGraphs$Product", "fasteningCount", "I", false)
def tyX1 : Nat → FieldType := fun k => match k with
  | 0 => .array .int
  | 1 => .array .long
  | 2 => .array .int
  | 3 => .array .int
  | 4 => .array .int
  | 5 => .array .int
  | 6 => .array .int
  | 7 => .array .int
  | 8 => .array .int
  | 9 => .array .int
  | 10 => .int
  | _ => .int
abbrev wsX10 : List Cond := u_ws RX1 TX1 12
theorem nmX1 : ∀ a, a < 12 → ∀ b, b < 12 → a ≠ b → (TX1 a).2.1 ≠ (TX1 b).2.1 := by decide +kernel
theorem tyX1_ok : ∀ k, k < 12 → parseFieldDescriptor (TX1 k).2.2.1 = some (tyX1 k) := by decide +kernel
abbrev cX1_init : ByteArray := prog_3_method_1_code
def yX1_init : MethodName := ⟨RX1, "<init>", "()V"⟩
abbrev cX1_clear : ByteArray := prog_3_method_2_code
def yX1_clear : MethodName := ⟨RX1, "clear", "()V"⟩
abbrev cX1_hasPart : ByteArray := prog_3_method_3_code
def yX1_hasPart : MethodName := ⟨RX1, "hasPart", "(I)Z"⟩
abbrev cX1_areTwoParts : ByteArray := prog_3_method_4_code
def yX1_areTwoParts : MethodName := ⟨RX1, "areTwoParts", "(II)Z"⟩
abbrev cX1_barIndex : ByteArray := prog_3_method_5_code
def yX1_barIndex : MethodName := ⟨RX1, "barIndex", "(II)I"⟩
abbrev cX1_allowsPart : ByteArray := prog_3_method_6_code
def yX1_allowsPart : MethodName := ⟨RX1, "allowsPart", "(IJ)Z"⟩
abbrev cX1_addPart : ByteArray := prog_3_method_7_code
def yX1_addPart : MethodName := ⟨RX1, "addPart", "(IJ)I"⟩
abbrev cX1_allowsFastening : ByteArray := prog_3_method_8_code
def yX1_allowsFastening : MethodName := ⟨RX1, "allowsFastening", "(III)Z"⟩
abbrev cX1_addFastening : ByteArray := prog_3_method_9_code
def yX1_addFastening : MethodName := ⟨RX1, "addFastening", "(III)I"⟩
abbrev cX1_allowsCover : ByteArray := prog_3_method_10_code
def yX1_allowsCover : MethodName := ⟨RX1, "allowsCover", "(II)Z"⟩
abbrev cX1_addCover : ByteArray := prog_3_method_11_code
def yX1_addCover : MethodName := ⟨RX1, "addCover", "(II)Z"⟩
abbrev cX1_allowsBar : ByteArray := prog_3_method_12_code
def yX1_allowsBar : MethodName := ⟨RX1, "allowsBar", "(III)Z"⟩
abbrev cX1_addBar : ByteArray := prog_3_method_13_code
def yX1_addBar : MethodName := ⟨RX1, "addBar", "(III)Z"⟩
abbrev cX1_allowsHazard : ByteArray := prog_3_method_14_code
def yX1_allowsHazard : MethodName := ⟨RX1, "allowsHazard", "(II)Z"⟩
abbrev cX1_addHazard : ByteArray := prog_3_method_15_code
def yX1_addHazard : MethodName := ⟨RX1, "addHazard", "(II)Z"⟩
abbrev cX1_allowsOption : ByteArray := prog_3_method_16_code
def yX1_allowsOption : MethodName := ⟨RX1, "allowsOption", "(II)Z"⟩
abbrev cX1_addOption : ByteArray := prog_3_method_17_code
def yX1_addOption : MethodName := ⟨RX1, "addOption", "(II)Z"⟩
abbrev cX1_allowsDamage : ByteArray := prog_3_method_18_code
def yX1_allowsDamage : MethodName := ⟨RX1, "allowsDamage", "(II)Z"⟩
abbrev cX1_setDamage : ByteArray := prog_3_method_19_code
def yX1_setDamage : MethodName := ⟨RX1, "setDamage", "(II)I"⟩
abbrev cX1_allows : ByteArray := prog_3_method_20_code
def yX1_allows : MethodName := ⟨RX1, "allows", "(LPartGraphs$Verb;III)Z"⟩
abbrev cX1_carryOut : ByteArray := prog_3_method_21_code
def yX1_carryOut : MethodName := ⟨RX1, "carryOut", "(LPartGraphs$Verb;III)V"⟩
abbrev cX1_isPlain : ByteArray := prog_3_method_22_code
def yX1_isPlain : MethodName := ⟨RX1, "isPlain", "(II)Z"⟩
abbrev cX1_isFree : ByteArray := prog_3_method_23_code
def yX1_isFree : MethodName := ⟨RX1, "isFree", "(II)Z"⟩
abbrev cX1_comingOff : ByteArray := prog_3_method_24_code
def yX1_comingOff : MethodName := ⟨RX1, "comingOff", "(I)I"⟩
abbrev cX1_neverComingOff : ByteArray := prog_3_method_25_code
def yX1_neverComingOff : MethodName := ⟨RX1, "neverComingOff", "()I"⟩
abbrev cX1_mustComeOffBefore : ByteArray := prog_3_method_26_code
def yX1_mustComeOffBefore : MethodName := ⟨RX1, "mustComeOffBefore", "(I)I"⟩
abbrev cX1_membersOf : ByteArray := prog_3_method_27_code
def yX1_membersOf : MethodName := ⟨RX1, "membersOf", "(I)I"⟩
abbrev cX1_variant : ByteArray := prog_3_method_28_code
def yX1_variant : MethodName := ⟨RX1, "variant", "(I)I"⟩
abbrev cX1_piece : ByteArray := prog_3_method_29_code
def yX1_piece : MethodName := ⟨RX1, "piece", "(II)I"⟩
abbrev cX1_pieces : ByteArray := prog_3_method_30_code
def yX1_pieces : MethodName := ⟨RX1, "pieces", "()I"⟩
abbrev cX1_gramsOf : ByteArray := prog_3_method_31_code
def yX1_gramsOf : MethodName := ⟨RX1, "gramsOf", "(I)J"⟩
abbrev cX1_partsLike : ByteArray := prog_3_method_32_code
def yX1_partsLike : MethodName := ⟨RX1, "partsLike", "(I)I"⟩
abbrev cX1_coveredBy : ByteArray := prog_3_method_33_code
def yX1_coveredBy : MethodName := ⟨RX1, "coveredBy", "(I)I"⟩
def RX2 : String := "PartGraphs$Reader"
def TX2 : u_T := fun k => match k with
  | 0 => ("PartGraphs$Reader", "text", "[C", true)
  | 1 => ("PartGraphs$Reader", "numbers", "[I", true)
  | 2 => ("PartGraphs$Reader", "length", "I", false)
  | 3 => ("PartGraphs$Reader", "begin", "I", false)
  | _ => ("PartGraphs$Reader", "end", "I", false)
def tyX2 : Nat → FieldType := fun k => match k with
  | 0 => .array .char
  | 1 => .array .int
  | 2 => .int
  | 3 => .int
  | _ => .int
abbrev wsX20 : List Cond := u_ws RX2 TX2 5
theorem nmX2 : ∀ a, a < 5 → ∀ b, b < 5 → a ≠ b → (TX2 a).2.1 ≠ (TX2 b).2.1 := by decide +kernel
theorem tyX2_ok : ∀ k, k < 5 → parseFieldDescriptor (TX2 k).2.2.1 = some (tyX2 k) := by decide +kernel
abbrev cX2_init : ByteArray := prog_4_method_1_code
def yX2_init : MethodName := ⟨RX2, "<init>", "()V"⟩
abbrev cX2_take : ByteArray := prog_4_method_2_code
def yX2_take : MethodName := ⟨RX2, "take", "(I)Z"⟩
abbrev cX2_clear : ByteArray := prog_4_method_3_code
def yX2_clear : MethodName := ⟨RX2, "clear", "()V"⟩
abbrev cX2_wordBegin : ByteArray := prog_4_method_4_code
def yX2_wordBegin : MethodName := ⟨RX2, "wordBegin", "()I"⟩
abbrev cX2_readAll : ByteArray := prog_4_method_5_code
def yX2_readAll : MethodName := ⟨RX2, "readAll", "(LPartGraphs$Product;)Z"⟩
abbrev cX2_readSentence : ByteArray := prog_4_method_6_code
def yX2_readSentence : MethodName := ⟨RX2, "readSentence", "(LPartGraphs$Product;)Z"⟩
abbrev cX2_canGoOn : ByteArray := prog_4_method_7_code
def yX2_canGoOn : MethodName := ⟨RX2, "canGoOn", "(LPartGraphs$Product;LPartGraphs$Verb;I)Z"⟩
abbrev cX2_findWord : ByteArray := prog_4_method_8_code
def yX2_findWord : MethodName := ⟨RX2, "findWord", "()Z"⟩
abbrev cX2_isBlankAt : ByteArray := prog_4_method_9_code
def yX2_isBlankAt : MethodName := ⟨RX2, "isBlankAt", "(I)Z"⟩
abbrev cX2_verbHere : ByteArray := prog_4_method_10_code
def yX2_verbHere : MethodName := ⟨RX2, "verbHere", "()LPartGraphs$Verb;"⟩
abbrev cX2_isWordHere : ByteArray := prog_4_method_11_code
def yX2_isWordHere : MethodName := ⟨RX2, "isWordHere", "(Ljava/lang/String;)Z"⟩
abbrev cX2_numberHere : ByteArray := prog_4_method_12_code
def yX2_numberHere : MethodName := ⟨RX2, "numberHere", "()I"⟩
def RX3 : String := "PartGraphs$Teller"
def TX3 : u_T := fun k => match k with
  | 0 => ("PartGraphs$Teller", "left", "I", false)
  | _ => ("PartGraphs$Teller", "found", "I", false)
def tyX3 : Nat → FieldType := fun k => match k with
  | 0 => .int
  | _ => .int
abbrev wsX30 : List Cond := u_ws RX3 TX3 2
theorem nmX3 : ∀ a, a < 2 → ∀ b, b < 2 → a ≠ b → (TX3 a).2.1 ≠ (TX3 b).2.1 := by decide +kernel
theorem tyX3_ok : ∀ k, k < 2 → parseFieldDescriptor (TX3 k).2.2.1 = some (tyX3 k) := by decide +kernel
abbrev cX3_init : ByteArray := prog_5_method_1_code
def yX3_init : MethodName := ⟨RX3, "<init>", "()V"⟩
abbrev cX3_byteAt : ByteArray := prog_5_method_2_code
def yX3_byteAt : MethodName := ⟨RX3, "byteAt", "(LPartGraphs$Product;I)I"⟩
abbrev cX3_tellParts : ByteArray := prog_5_method_3_code
def yX3_tellParts : MethodName := ⟨RX3, "tellParts", "(LPartGraphs$Product;)V"⟩
abbrev cX3_tellDetails : ByteArray := prog_5_method_4_code
def yX3_tellDetails : MethodName := ⟨RX3, "tellDetails", "(LPartGraphs$Product;I)V"⟩
abbrev cX3_tellFastenings : ByteArray := prog_5_method_5_code
def yX3_tellFastenings : MethodName := ⟨RX3, "tellFastenings", "(LPartGraphs$Product;)V"⟩
abbrev cX3_tellBars : ByteArray := prog_5_method_6_code
def yX3_tellBars : MethodName := ⟨RX3, "tellBars", "(III)V"⟩
abbrev cX3_tellEach : ByteArray := prog_5_method_7_code
def yX3_tellEach : MethodName := ⟨RX3, "tellEach", "(LPartGraphs$Verb;II)V"⟩
abbrev cX3_tellPair : ByteArray := prog_5_method_8_code
def yX3_tellPair : MethodName := ⟨RX3, "tellPair", "(LPartGraphs$Verb;II)V"⟩
abbrev cX3_tellWord : ByteArray := prog_5_method_9_code
def yX3_tellWord : MethodName := ⟨RX3, "tellWord", "(LPartGraphs$Verb;)V"⟩
abbrev cX3_tellNumber : ByteArray := prog_5_method_10_code
def yX3_tellNumber : MethodName := ⟨RX3, "tellNumber", "(J)V"⟩
abbrev cX3_tellByte : ByteArray := prog_5_method_11_code
def yX3_tellByte : MethodName := ⟨RX3, "tellByte", "(I)V"⟩
def RX4 : String := "PartGraphs$Verb"
def TX4 : u_T := fun k => match k with
  | _ => ("", "", "", false)
def tyX4 : Nat → FieldType := fun k => match k with
  | _ => .int
abbrev wsX40 : List Cond := u_ws RX4 TX4 0
theorem nmX4 : ∀ a, a < 0 → ∀ b, b < 0 → a ≠ b → (TX4 a).2.1 ≠ (TX4 b).2.1 := by decide +kernel
theorem tyX4_ok : ∀ k, k < 0 → parseFieldDescriptor (TX4 k).2.2.1 = some (tyX4 k) := by decide +kernel
def RX5 : String := "PartGraphs"
def TX5 : u_T := fun k => match k with
  | 0 => ("PartGraphs", "reader", "LPartGraphs$Reader;", true)
  | 1 => ("PartGraphs", "teller", "LPartGraphs$Teller;", true)
  | 2 => ("PartGraphs", "product", "LPartGraphs$Product;", false)
  | _ => ("PartGraphs", "draft", "LPartGraphs$Product;", false)
def tyX5 : Nat → FieldType := fun k => match k with
  | 0 => .object "PartGraphs$Reader"
  | 1 => .object "PartGraphs$Teller"
  | 2 => .object "PartGraphs$Product"
  | _ => .object "PartGraphs$Product"
abbrev wsX50 : List Cond := u_ws RX5 TX5 4
theorem nmX5 : ∀ a, a < 4 → ∀ b, b < 4 → a ≠ b → (TX5 a).2.1 ≠ (TX5 b).2.1 := by decide +kernel
theorem tyX5_ok : ∀ k, k < 4 → parseFieldDescriptor (TX5 k).2.2.1 = some (tyX5 k) := by decide +kernel
abbrev cX5_init : ByteArray := prog_1_method_1_code
def yX5_init : MethodName := ⟨RX5, "<init>", "()V"⟩
abbrev cX5_unit : ByteArray := prog_1_method_2_code
def yX5_unit : MethodName := ⟨RX5, "unit", "(I)Z"⟩
abbrev cX5_read : ByteArray := prog_1_method_3_code
def yX5_read : MethodName := ⟨RX5, "read", "()I"⟩
abbrev cX5_part : ByteArray := prog_1_method_4_code
def yX5_part : MethodName := ⟨RX5, "part", "(IJ)I"⟩
abbrev cX5_fasten : ByteArray := prog_1_method_5_code
def yX5_fasten : MethodName := ⟨RX5, "fasten", "(III)I"⟩
abbrev cX5_cover : ByteArray := prog_1_method_6_code
def yX5_cover : MethodName := ⟨RX5, "cover", "(II)Z"⟩
abbrev cX5_way : ByteArray := prog_1_method_7_code
def yX5_way : MethodName := ⟨RX5, "way", "(III)Z"⟩
abbrev cX5_before : ByteArray := prog_1_method_8_code
def yX5_before : MethodName := ⟨RX5, "before", "(II)I"⟩
abbrev cX5_ring : ByteArray := prog_1_method_9_code
def yX5_ring : MethodName := ⟨RX5, "ring", "(I)I"⟩
abbrev cX5_option : ByteArray := prog_1_method_10_code
def yX5_option : MethodName := ⟨RX5, "option", "(II)Z"⟩
abbrev cX5_family : ByteArray := prog_1_method_11_code
def yX5_family : MethodName := ⟨RX5, "family", "(II)I"⟩
abbrev cX5_holds : ByteArray := prog_1_method_12_code
def yX5_holds : MethodName := ⟨RX5, "holds", "(III)Z"⟩
abbrev cX5_alike : ByteArray := prog_1_method_13_code
def yX5_alike : MethodName := ⟨RX5, "alike", "(II)I"⟩
abbrev cX5_weight : ByteArray := prog_1_method_14_code
def yX5_weight : MethodName := ⟨RX5, "weight", "(I)J"⟩
abbrev cX5_hazard : ByteArray := prog_1_method_15_code
def yX5_hazard : MethodName := ⟨RX5, "hazard", "(II)Z"⟩
abbrev cX5_damage : ByteArray := prog_1_method_16_code
def yX5_damage : MethodName := ⟨RX5, "damage", "(II)I"⟩
abbrev cX5_free : ByteArray := prog_1_method_17_code
def yX5_free : MethodName := ⟨RX5, "free", "(IJ)Z"⟩
abbrev cX5_plain : ByteArray := prog_1_method_18_code
def yX5_plain : MethodName := ⟨RX5, "plain", "(IJ)Z"⟩
abbrev cX5_write : ByteArray := prog_1_method_19_code
def yX5_write : MethodName := ⟨RX5, "write", "(I)I"⟩
abbrev cX5_loose : ByteArray := prog_1_method_20_code
def yX5_loose : MethodName := ⟨RX5, "loose", "()I"⟩
abbrev cX5_isBelow : ByteArray := prog_1_method_21_code
def yX5_isBelow : MethodName := ⟨RX5, "isBelow", "(II)Z"⟩
abbrev cX5_contains : ByteArray := prog_1_method_22_code
def yX5_contains : MethodName := ⟨RX5, "contains", "(II)Z"⟩
abbrev cX5_memberOf : ByteArray := prog_1_method_23_code
def yX5_memberOf : MethodName := ⟨RX5, "memberOf", "(II)I"⟩
abbrev cX5_lowBits : ByteArray := prog_1_method_24_code
def yX5_lowBits : MethodName := ⟨RX5, "lowBits", "(J)I"⟩
def RX6 : String := "PartGraphsModel"
def TX6 : u_T := fun k => match k with
  | 0 => ("PartGraphsModel", "parts", "[I", true)
  | 1 => ("PartGraphsModel", "kinds", "[I", true)
  | 2 => ("PartGraphsModel", "grams", "[I", true)
  | 3 => ("PartGraphsModel", "covers", "[Z", true)
  | 4 => ("PartGraphsModel", "ways", "[Z", true)
  | 5 => ("PartGraphsModel", "fastenings", "[I", true)
  | 6 => ("PartGraphsModel", "ties", "[I", true)
  | 7 => ("PartGraphsModel", "hazards", "[Z", true)
  | 8 => ("PartGraphsModel", "families", "[I", true)
  | 9 => ("PartGraphsModel", "damages", "[I", true)
  | 10 => ("PartGraphsModel", "text", "[B", true)
  | 11 => ("PartGraphsModel", "size", "I", false)
  | 12 => ("PartGraphsModel", "fault", "I", false)
  | 13 => ("PartGraphsModel", "numbers", "[I", true)
  | 14 => ("PartGraphsModel", "at", "I", false)
  | 15 => ("PartGraphsModel", "wanted", "I", false)
  | 16 => ("PartGraphsModel", "written", "I", false)
  | _ => ("PartGraphsModel", "found", "I", false)
def tyX6 : Nat → FieldType := fun k => match k with
  | 0 => .array .int
  | 1 => .array .int
  | 2 => .array .int
  | 3 => .array .boolean
  | 4 => .array .boolean
  | 5 => .array .int
  | 6 => .array .int
  | 7 => .array .boolean
  | 8 => .array .int
  | 9 => .array .int
  | 10 => .array .byte
  | 11 => .int
  | 12 => .int
  | 13 => .array .int
  | 14 => .int
  | 15 => .int
  | 16 => .int
  | _ => .int
abbrev wsX60 : List Cond := u_ws RX6 TX6 18
theorem nmX6 : ∀ a, a < 18 → ∀ b, b < 18 → a ≠ b → (TX6 a).2.1 ≠ (TX6 b).2.1 := by decide +kernel
theorem tyX6_ok : ∀ k, k < 18 → parseFieldDescriptor (TX6 k).2.2.1 = some (tyX6 k) := by decide +kernel
abbrev cX6_init : ByteArray := prog_8_method_1_code
def yX6_init : MethodName := ⟨RX6, "<init>", "()V"⟩
abbrev cX6_thrown : ByteArray := prog_8_method_2_code
def yX6_thrown : MethodName := ⟨RX6, "thrown", "()I"⟩
abbrev cX6_clear : ByteArray := prog_8_method_3_code
def yX6_clear : MethodName := ⟨RX6, "clear", "(I)V"⟩
abbrev cX6_take : ByteArray := prog_8_method_4_code
def yX6_take : MethodName := ⟨RX6, "take", "()V"⟩
abbrev cX6_isPart : ByteArray := prog_8_method_5_code
def yX6_isPart : MethodName := ⟨RX6, "isPart", "(II)Z"⟩
abbrev cX6_wayAt : ByteArray := prog_8_method_6_code
def yX6_wayAt : MethodName := ⟨RX6, "wayAt", "(IIII)I"⟩
abbrev cX6_isAllowed : ByteArray := prog_8_method_7_code
def yX6_isAllowed : MethodName := ⟨RX6, "isAllowed", "(IIIII)Z"⟩
abbrev cX6_make : ByteArray := prog_8_method_8_code
def yX6_make : MethodName := ⟨RX6, "make", "(IIIII)V"⟩
abbrev cX6_numbersOf : ByteArray := prog_8_method_9_code
def yX6_numbersOf : MethodName := ⟨RX6, "numbersOf", "(I)I"⟩
abbrev cX6_canBe : ByteArray := prog_8_method_10_code
def yX6_canBe : MethodName := ⟨RX6, "canBe", "(IIIIII)Z"⟩
abbrev cX6_unit : ByteArray := prog_8_method_11_code
def yX6_unit : MethodName := ⟨RX6, "unit", "(I)Z"⟩
abbrev cX6_isGap : ByteArray := prog_8_method_12_code
def yX6_isGap : MethodName := ⟨RX6, "isGap", "(I)Z"⟩
abbrev cX6_wordBegin : ByteArray := prog_8_method_13_code
def yX6_wordBegin : MethodName := ⟨RX6, "wordBegin", "(I)I"⟩
abbrev cX6_wordEnd : ByteArray := prog_8_method_14_code
def yX6_wordEnd : MethodName := ⟨RX6, "wordEnd", "(I)I"⟩
abbrev cX6_wordOf : ByteArray := prog_8_method_15_code
def yX6_wordOf : MethodName := ⟨RX6, "wordOf", "(II)J"⟩
abbrev cX6_numberOf : ByteArray := prog_8_method_16_code
def yX6_numberOf : MethodName := ⟨RX6, "numberOf", "(II)I"⟩
abbrev cX6_nameOf : ByteArray := prog_8_method_17_code
def yX6_nameOf : MethodName := ⟨RX6, "nameOf", "(I)J"⟩
abbrev cX6_readSentence : ByteArray := prog_8_method_18_code
def yX6_readSentence : MethodName := ⟨RX6, "readSentence", "()Z"⟩
abbrev cX6_read : ByteArray := prog_8_method_19_code
def yX6_read : MethodName := ⟨RX6, "read", "()I"⟩
abbrev cX6_part : ByteArray := prog_8_method_20_code
def yX6_part : MethodName := ⟨RX6, "part", "(IJ)I"⟩
abbrev cX6_fasten : ByteArray := prog_8_method_21_code
def yX6_fasten : MethodName := ⟨RX6, "fasten", "(III)I"⟩
abbrev cX6_tell : ByteArray := prog_8_method_22_code
def yX6_tell : MethodName := ⟨RX6, "tell", "(IIII)Z"⟩
abbrev cX6_cover : ByteArray := prog_8_method_23_code
def yX6_cover : MethodName := ⟨RX6, "cover", "(II)Z"⟩
abbrev cX6_way : ByteArray := prog_8_method_24_code
def yX6_way : MethodName := ⟨RX6, "way", "(III)Z"⟩
abbrev cX6_option : ByteArray := prog_8_method_25_code
def yX6_option : MethodName := ⟨RX6, "option", "(II)Z"⟩
abbrev cX6_hazard : ByteArray := prog_8_method_26_code
def yX6_hazard : MethodName := ⟨RX6, "hazard", "(II)Z"⟩
abbrev cX6_damage : ByteArray := prog_8_method_27_code
def yX6_damage : MethodName := ⟨RX6, "damage", "(II)I"⟩
abbrev cX6_isOff : ByteArray := prog_8_method_28_code
def yX6_isOff : MethodName := ⟨RX6, "isOff", "(JI)Z"⟩
abbrev cX6_isPlain : ByteArray := prog_8_method_29_code
def yX6_isPlain : MethodName := ⟨RX6, "isPlain", "(IJ)Z"⟩
abbrev cX6_isFree : ByteArray := prog_8_method_30_code
def yX6_isFree : MethodName := ⟨RX6, "isFree", "(IJ)Z"⟩
abbrev cX6_free : ByteArray := prog_8_method_31_code
def yX6_free : MethodName := ⟨RX6, "free", "(IJ)Z"⟩
abbrev cX6_plain : ByteArray := prog_8_method_32_code
def yX6_plain : MethodName := ⟨RX6, "plain", "(IJ)Z"⟩
abbrev cX6_allOff : ByteArray := prog_8_method_33_code
def yX6_allOff : MethodName := ⟨RX6, "allOff", "(I)J"⟩
abbrev cX6_before : ByteArray := prog_8_method_34_code
def yX6_before : MethodName := ⟨RX6, "before", "(II)I"⟩
abbrev cX6_ring : ByteArray := prog_8_method_35_code
def yX6_ring : MethodName := ⟨RX6, "ring", "(I)I"⟩
abbrev cX6_sizeOf : ByteArray := prog_8_method_36_code
def yX6_sizeOf : MethodName := ⟨RX6, "sizeOf", "(I)I"⟩
abbrev cX6_orderOf : ByteArray := prog_8_method_37_code
def yX6_orderOf : MethodName := ⟨RX6, "orderOf", "(I)I"⟩
abbrev cX6_family : ByteArray := prog_8_method_38_code
def yX6_family : MethodName := ⟨RX6, "family", "(II)I"⟩
abbrev cX6_isIn : ByteArray := prog_8_method_39_code
def yX6_isIn : MethodName := ⟨RX6, "isIn", "(II)Z"⟩
abbrev cX6_pieceOf : ByteArray := prog_8_method_40_code
def yX6_pieceOf : MethodName := ⟨RX6, "pieceOf", "(IJ)J"⟩
abbrev cX6_holds : ByteArray := prog_8_method_41_code
def yX6_holds : MethodName := ⟨RX6, "holds", "(III)Z"⟩
abbrev cX6_weight : ByteArray := prog_8_method_42_code
def yX6_weight : MethodName := ⟨RX6, "weight", "(I)J"⟩
abbrev cX6_loose : ByteArray := prog_8_method_43_code
def yX6_loose : MethodName := ⟨RX6, "loose", "()I"⟩
abbrev cX6_alike : ByteArray := prog_8_method_44_code
def yX6_alike : MethodName := ⟨RX6, "alike", "(II)I"⟩
abbrev cX6_put : ByteArray := prog_8_method_45_code
def yX6_put : MethodName := ⟨RX6, "put", "(I)V"⟩
abbrev cX6_putWord : ByteArray := prog_8_method_46_code
def yX6_putWord : MethodName := ⟨RX6, "putWord", "(I)V"⟩
abbrev cX6_putNumber : ByteArray := prog_8_method_47_code
def yX6_putNumber : MethodName := ⟨RX6, "putNumber", "(I)V"⟩
abbrev cX6_putTwo : ByteArray := prog_8_method_48_code
def yX6_putTwo : MethodName := ⟨RX6, "putTwo", "(III)V"⟩
abbrev cX6_putPart : ByteArray := prog_8_method_49_code
def yX6_putPart : MethodName := ⟨RX6, "putPart", "(I)V"⟩
abbrev cX6_write : ByteArray := prog_8_method_50_code
def yX6_write : MethodName := ⟨RX6, "write", "(I)I"⟩
def RJx00060 : String := "java/lang/ArrayIndexOutOfBoundsException"
def TJx00060 : u_T := fun k => match k with
  | 0 => ("java/lang/Throwable", "cause", "Ljava/lang/Throwable;", false)
  | 1 => ("java/lang/Throwable", "stackTrace", "[Ljava/lang/StackTraceElement;", false)
  | 2 => ("java/lang/Throwable", "suppressedExceptions", "Ljava/util/List;", false)
  | 3 => ("java/lang/Throwable", "detailMessage", "Ljava/lang/String;", false)
  | 4 => ("java/lang/Throwable", "backtrace", "Ljava/lang/Object;", false)
  | _ => ("java/lang/Throwable", "depth", "I", false)
def tyJx00060 : Nat → FieldType := fun k => match k with
  | 0 => .object "java/lang/Throwable"
  | 1 => .array (.object "java/lang/StackTraceElement")
  | 2 => .object "java/util/List"
  | 3 => .object "java/lang/String"
  | 4 => .object "java/lang/Object"
  | _ => .int
abbrev wsJx000600 : List Cond := u_ws RJx00060 TJx00060 6
theorem nmJx00060 : ∀ a, a < 6 → ∀ b, b < 6 → a ≠ b → (TJx00060 a).2.1 ≠ (TJx00060 b).2.1 := by decide +kernel
theorem tyJx00060_ok : ∀ k, k < 6 → parseFieldDescriptor (TJx00060 k).2.2.1 = some (tyJx00060 k) := by decide +kernel
abbrev cJx00060_init_a7421 : ByteArray := prog_9_method_2_code
def yJx00060_init_a7421 : MethodName := ⟨RJx00060, "<init>", "(Ljava/lang/String;)V"⟩
def RJx29ce0 : String := "java/lang/Enum"
def TJx29ce0 : u_T := fun k => match k with
  | _ => ("", "", "", false)
def tyJx29ce0 : Nat → FieldType := fun k => match k with
  | _ => .int
abbrev wsJx29ce00 : List Cond := u_ws RJx29ce0 TJx29ce0 0
theorem nmJx29ce0 : ∀ a, a < 0 → ∀ b, b < 0 → a ≠ b → (TJx29ce0 a).2.1 ≠ (TJx29ce0 b).2.1 := by decide +kernel
theorem tyJx29ce0_ok : ∀ k, k < 0 → parseFieldDescriptor (TJx29ce0 k).2.2.1 = some (tyJx29ce0 k) := by decide +kernel
abbrev cJx29ce0_ordinal_8abf5 : ByteArray := prog_10_method_2_code
def yJx29ce0_ordinal_8abf5 : MethodName := ⟨RJx29ce0, "ordinal", "()I"⟩
def RJ6 : String := "java/lang/Integer"
def TJ6 : u_T := fun k => match k with
  | _ => ("", "", "", false)
def tyJ6 : Nat → FieldType := fun k => match k with
  | _ => .int
abbrev wsJ60 : List Cond := u_ws RJ6 TJ6 0
theorem nmJ6 : ∀ a, a < 0 → ∀ b, b < 0 → a ≠ b → (TJ6 a).2.1 ≠ (TJ6 b).2.1 := by decide +kernel
theorem tyJ6_ok : ∀ k, k < 0 → parseFieldDescriptor (TJ6 k).2.2.1 = some (tyJ6 k) := by decide +kernel
abbrev cJ6_bitCount_0f7a4 : ByteArray := prog_13_method_49_code
def yJ6_bitCount_0f7a4 : MethodName := ⟨RJ6, "bitCount", "(I)I"⟩
def RJ0 : String := "java/lang/String"
def TJ0 : u_T := fun k => match k with
  | _ => ("", "", "", false)
def tyJ0 : Nat → FieldType := fun k => match k with
  | _ => .int
abbrev wsJ00 : List Cond := u_ws RJ0 TJ0 0
theorem nmJ0 : ∀ a, a < 0 → ∀ b, b < 0 → a ≠ b → (TJ0 a).2.1 ≠ (TJ0 b).2.1 := by decide +kernel
theorem tyJ0_ok : ∀ k, k < 0 → parseFieldDescriptor (TJ0 k).2.2.1 = some (tyJ0 k) := by decide +kernel
abbrev cJ0_length_8abf5 : ByteArray := prog_15_method_54_code
def yJ0_length_8abf5 : MethodName := ⟨RJ0, "length", "()I"⟩
abbrev cJ0_charAt_5068e : ByteArray := prog_15_method_56_code
def yJ0_charAt_5068e : MethodName := ⟨RJ0, "charAt", "(I)C"⟩
abbrev cJ0_coder_7d493 : ByteArray := prog_15_method_152_code
def yJ0_coder_7d493 : MethodName := ⟨RJ0, "coder", "()B"⟩
abbrev cJ0_isLatin1_aae02 : ByteArray := prog_15_method_154_code
def yJ0_isLatin1_aae02 : MethodName := ⟨RJ0, "isLatin1", "()Z"⟩
abbrev cJ0_checkIndex_df160 : ByteArray := prog_15_method_155_code
def yJ0_checkIndex_df160 : MethodName := ⟨RJ0, "checkIndex", "(II)V"⟩
def RJ1 : String := "java/lang/StringLatin1"
def TJ1 : u_T := fun k => match k with
  | _ => ("", "", "", false)
def tyJ1 : Nat → FieldType := fun k => match k with
  | _ => .int
abbrev wsJ10 : List Cond := u_ws RJ1 TJ1 0
theorem nmJ1 : ∀ a, a < 0 → ∀ b, b < 0 → a ≠ b → (TJ1 a).2.1 ≠ (TJ1 b).2.1 := by decide +kernel
theorem tyJ1_ok : ∀ k, k < 0 → parseFieldDescriptor (TJ1 k).2.2.1 = some (tyJ1 k) := by decide +kernel
abbrev cJ1_charAt_3b067 : ByteArray := prog_16_method_2_code
def yJ1_charAt_3b067 : MethodName := ⟨RJ1, "charAt", "([BI)C"⟩
def RJ2 : String := "java/lang/StringUTF16"
def TJ2 : u_T := fun k => match k with
  | _ => ("", "", "", false)
def tyJ2 : Nat → FieldType := fun k => match k with
  | _ => .int
abbrev wsJ20 : List Cond := u_ws RJ2 TJ2 0
theorem nmJ2 : ∀ a, a < 0 → ∀ b, b < 0 → a ≠ b → (TJ2 a).2.1 ≠ (TJ2 b).2.1 := by decide +kernel
theorem tyJ2_ok : ∀ k, k < 0 → parseFieldDescriptor (TJ2 k).2.2.1 = some (tyJ2 k) := by decide +kernel
abbrev cJ2_getChar_3b067 : ByteArray := prog_17_method_5_code
def yJ2_getChar_3b067 : MethodName := ⟨RJ2, "getChar", "([BI)C"⟩
abbrev cJ2_length_9d52b : ByteArray := prog_17_method_6_code
def yJ2_length_9d52b : MethodName := ⟨RJ2, "length", "([B)I"⟩
abbrev cJ2_charAt_3b067 : ByteArray := prog_17_method_83_code
def yJ2_charAt_3b067 : MethodName := ⟨RJ2, "charAt", "([BI)C"⟩
abbrev cJ2_checkIndex_2214a : ByteArray := prog_17_method_91_code
def yJ2_checkIndex_2214a : MethodName := ⟨RJ2, "checkIndex", "(I[B)V"⟩
def RJ3 : String := "jdk/internal/util/Preconditions"
def TJ3 : u_T := fun k => match k with
  | _ => ("", "", "", false)
def tyJ3 : Nat → FieldType := fun k => match k with
  | _ => .int
abbrev wsJ30 : List Cond := u_ws RJ3 TJ3 0
theorem nmJ3 : ∀ a, a < 0 → ∀ b, b < 0 → a ≠ b → (TJ3 a).2.1 ≠ (TJ3 b).2.1 := by decide +kernel
theorem tyJ3_ok : ∀ k, k < 0 → parseFieldDescriptor (TJ3 k).2.2.1 = some (tyJ3 k) := by decide +kernel
abbrev cJ3_checkIndex_8e157 : ByteArray := prog_19_method_11_code
def yJ3_checkIndex_8e157 : MethodName := ⟨RJ3, "checkIndex", "(IILjava/util/function/BiFunction;)I"⟩
def RL : String := "PartGraphsLaw"
abbrev cL_way : ByteArray := method_3_code
def yL_way : MethodName := ⟨RL, "way", "(LPartGraphs;III[J)I"⟩
abbrev cL_weight : ByteArray := method_4_code
def yL_weight : MethodName := ⟨RL, "weight", "(LPartGraphs;I[J)I"⟩
abbrev cL_law : ByteArray := code
def yL_law : MethodName := ⟨RL, "law", "([I)Z"⟩
def wsX1_init : List Cond := .code yX1_init cX1_init 1 none :: ([.methodLink RX1 3 objectInit, .instanceMethod objectInit, .code objectInit ⟨#[0xb1]⟩ 1 none, .arrayClass .int, .fieldLink RX1 9 "PartGraphs$Product" "kinds" "[I", .arrayClass .long, .fieldLink RX1 15 "PartGraphs$Product" "grams" "[J", .fieldLink RX1 19 "PartGraphs$Product" "coverers" "[I", .fieldLink RX1 22 "PartGraphs$Product" "bars" "[I", .fieldLink RX1 25 "PartGraphs$Product" "hazards" "[I", .fieldLink RX1 28 "PartGraphs$Product" "families" "[I", .fieldLink RX1 31 "PartGraphs$Product" "damages" "[I", .fieldLink RX1 34 "PartGraphs$Product" "firstEnds" "[I", .fieldLink RX1 37 "PartGraphs$Product" "secondEnds" "[I", .fieldLink RX1 40 "PartGraphs$Product" "fasteningKinds" "[I"] ++ wsX10)
def wsX1_clear : List Cond := .code yX1_clear cX1_clear 1 none :: ([.fieldLink RX1 43 "PartGraphs$Product" "partCount" "I", .fieldLink RX1 47 "PartGraphs$Product" "fasteningCount" "I"] ++ wsX10)
def wsX1_hasPart : List Cond := .code yX1_hasPart cX1_hasPart 2 (some .boolean) :: ([.fieldLink RX1 43 "PartGraphs$Product" "partCount" "I"] ++ wsX10)
def wsX1_areTwoParts : List Cond := .code yX1_areTwoParts cX1_areTwoParts 3 (some .boolean) :: ([.fieldLink RX1 43 "PartGraphs$Product" "partCount" "I"] ++ wsX10)
def wsX1_barIndex : List Cond := .code yX1_barIndex cX1_barIndex 2 (some .int) :: ([])
def wsX5_isBelow : List Cond := .code yX5_isBelow cX5_isBelow 2 (some .boolean) :: ([])
def wsX1_allowsPart : List Cond := .code yX1_allowsPart cX1_allowsPart 4 (some .boolean) :: ([.fieldLink RX1 43 "PartGraphs$Product" "partCount" "I", .constantLong RX1 54 (1000000), .static yX5_isBelow, .initialized RX5, .code yX5_isBelow cX5_isBelow 2 (some .boolean)] ++ wsX10)
def wsX1_addPart : List Cond := .code yX1_addPart cX1_addPart 6 (some .int) :: ([.fieldLink RX1 43 "PartGraphs$Product" "partCount" "I", .fieldLink RX1 9 "PartGraphs$Product" "kinds" "[I", .fieldLink RX1 15 "PartGraphs$Product" "grams" "[J", .fieldLink RX1 19 "PartGraphs$Product" "coverers" "[I", .fieldLink RX1 22 "PartGraphs$Product" "bars" "[I", .fieldLink RX1 25 "PartGraphs$Product" "hazards" "[I", .fieldLink RX1 28 "PartGraphs$Product" "families" "[I", .fieldLink RX1 31 "PartGraphs$Product" "damages" "[I", .methodLink RX1 56 yX1_allowsPart, .instanceMethod yX1_allowsPart, .selects RX1 yX1_allowsPart yX1_allowsPart, .initialized RX1, .code yX1_allowsPart cX1_allowsPart 4 (some .boolean), .constantLong RX1 54 (1000000), .static yX5_isBelow, .initialized RX5, .code yX5_isBelow cX5_isBelow 2 (some .boolean), .methodLink RX1 60 yX1_barIndex, .static yX1_barIndex, .code yX1_barIndex cX1_barIndex 2 (some .int)] ++ wsX10)
def wsX1_allowsFastening : List Cond := .code yX1_allowsFastening cX1_allowsFastening 4 (some .boolean) :: ([.fieldLink RX1 47 "PartGraphs$Product" "fasteningCount" "I", .methodLink RX1 64 yX1_areTwoParts, .instanceMethod yX1_areTwoParts, .selects RX1 yX1_areTwoParts yX1_areTwoParts, .initialized RX1, .code yX1_areTwoParts cX1_areTwoParts 3 (some .boolean), .fieldLink RX1 43 "PartGraphs$Product" "partCount" "I", .static yX5_isBelow, .initialized RX5, .code yX5_isBelow cX5_isBelow 2 (some .boolean)] ++ wsX10)
def wsX1_addFastening : List Cond := .code yX1_addFastening cX1_addFastening 5 (some .int) :: ([.fieldLink RX1 47 "PartGraphs$Product" "fasteningCount" "I", .fieldLink RX1 34 "PartGraphs$Product" "firstEnds" "[I", .fieldLink RX1 37 "PartGraphs$Product" "secondEnds" "[I", .fieldLink RX1 40 "PartGraphs$Product" "fasteningKinds" "[I", .methodLink RX1 67 yX1_allowsFastening, .instanceMethod yX1_allowsFastening, .selects RX1 yX1_allowsFastening yX1_allowsFastening, .initialized RX1, .code yX1_allowsFastening cX1_allowsFastening 4 (some .boolean), .methodLink RX1 64 yX1_areTwoParts, .instanceMethod yX1_areTwoParts, .selects RX1 yX1_areTwoParts yX1_areTwoParts, .code yX1_areTwoParts cX1_areTwoParts 3 (some .boolean), .fieldLink RX1 43 "PartGraphs$Product" "partCount" "I", .static yX5_isBelow, .initialized RX5, .code yX5_isBelow cX5_isBelow 2 (some .boolean)] ++ wsX10)
def wsX5_contains : List Cond := .code yX5_contains cX5_contains 2 (some .boolean) :: ([])
def wsX1_allowsCover : List Cond := .code yX1_allowsCover cX1_allowsCover 3 (some .boolean) :: ([.fieldLink RX1 19 "PartGraphs$Product" "coverers" "[I", .methodLink RX1 64 yX1_areTwoParts, .instanceMethod yX1_areTwoParts, .selects RX1 yX1_areTwoParts yX1_areTwoParts, .initialized RX1, .code yX1_areTwoParts cX1_areTwoParts 3 (some .boolean), .fieldLink RX1 43 "PartGraphs$Product" "partCount" "I", .static yX5_contains, .initialized RX5, .code yX5_contains cX5_contains 2 (some .boolean)] ++ wsX10)
def wsX1_addCover : List Cond := .code yX1_addCover cX1_addCover 3 (some .boolean) :: ([.fieldLink RX1 19 "PartGraphs$Product" "coverers" "[I", .methodLink RX1 74 yX1_allowsCover, .instanceMethod yX1_allowsCover, .selects RX1 yX1_allowsCover yX1_allowsCover, .initialized RX1, .code yX1_allowsCover cX1_allowsCover 3 (some .boolean), .methodLink RX1 64 yX1_areTwoParts, .instanceMethod yX1_areTwoParts, .selects RX1 yX1_areTwoParts yX1_areTwoParts, .code yX1_areTwoParts cX1_areTwoParts 3 (some .boolean), .fieldLink RX1 43 "PartGraphs$Product" "partCount" "I", .static yX5_contains, .initialized RX5, .code yX5_contains cX5_contains 2 (some .boolean)] ++ wsX10)
def wsX1_allowsBar : List Cond := .code yX1_allowsBar cX1_allowsBar 4 (some .boolean) :: ([.fieldLink RX1 22 "PartGraphs$Product" "bars" "[I", .methodLink RX1 64 yX1_areTwoParts, .instanceMethod yX1_areTwoParts, .selects RX1 yX1_areTwoParts yX1_areTwoParts, .initialized RX1, .code yX1_areTwoParts cX1_areTwoParts 3 (some .boolean), .fieldLink RX1 43 "PartGraphs$Product" "partCount" "I", .static yX5_isBelow, .initialized RX5, .code yX5_isBelow cX5_isBelow 2 (some .boolean), .methodLink RX1 60 yX1_barIndex, .static yX1_barIndex, .code yX1_barIndex cX1_barIndex 2 (some .int), .static yX5_contains, .code yX5_contains cX5_contains 2 (some .boolean)] ++ wsX10)
def wsX1_addBar : List Cond := .code yX1_addBar cX1_addBar 4 (some .boolean) :: ([.fieldLink RX1 22 "PartGraphs$Product" "bars" "[I", .methodLink RX1 77 yX1_allowsBar, .instanceMethod yX1_allowsBar, .selects RX1 yX1_allowsBar yX1_allowsBar, .initialized RX1, .code yX1_allowsBar cX1_allowsBar 4 (some .boolean), .methodLink RX1 64 yX1_areTwoParts, .instanceMethod yX1_areTwoParts, .selects RX1 yX1_areTwoParts yX1_areTwoParts, .code yX1_areTwoParts cX1_areTwoParts 3 (some .boolean), .fieldLink RX1 43 "PartGraphs$Product" "partCount" "I", .static yX5_isBelow, .initialized RX5, .code yX5_isBelow cX5_isBelow 2 (some .boolean), .methodLink RX1 60 yX1_barIndex, .static yX1_barIndex, .code yX1_barIndex cX1_barIndex 2 (some .int), .static yX5_contains, .code yX5_contains cX5_contains 2 (some .boolean)] ++ wsX10)
def wsX1_allowsHazard : List Cond := .code yX1_allowsHazard cX1_allowsHazard 3 (some .boolean) :: ([.fieldLink RX1 25 "PartGraphs$Product" "hazards" "[I", .methodLink RX1 80 yX1_hasPart, .instanceMethod yX1_hasPart, .selects RX1 yX1_hasPart yX1_hasPart, .initialized RX1, .code yX1_hasPart cX1_hasPart 2 (some .boolean), .fieldLink RX1 43 "PartGraphs$Product" "partCount" "I", .static yX5_isBelow, .initialized RX5, .code yX5_isBelow cX5_isBelow 2 (some .boolean), .static yX5_contains, .code yX5_contains cX5_contains 2 (some .boolean)] ++ wsX10)
def wsX1_addHazard : List Cond := .code yX1_addHazard cX1_addHazard 3 (some .boolean) :: ([.fieldLink RX1 25 "PartGraphs$Product" "hazards" "[I", .methodLink RX1 84 yX1_allowsHazard, .instanceMethod yX1_allowsHazard, .selects RX1 yX1_allowsHazard yX1_allowsHazard, .initialized RX1, .code yX1_allowsHazard cX1_allowsHazard 3 (some .boolean), .methodLink RX1 80 yX1_hasPart, .instanceMethod yX1_hasPart, .selects RX1 yX1_hasPart yX1_hasPart, .code yX1_hasPart cX1_hasPart 2 (some .boolean), .fieldLink RX1 43 "PartGraphs$Product" "partCount" "I", .static yX5_isBelow, .initialized RX5, .code yX5_isBelow cX5_isBelow 2 (some .boolean), .static yX5_contains, .code yX5_contains cX5_contains 2 (some .boolean)] ++ wsX10)
def wsX1_allowsOption : List Cond := .code yX1_allowsOption cX1_allowsOption 3 (some .boolean) :: ([.fieldLink RX1 28 "PartGraphs$Product" "families" "[I", .methodLink RX1 80 yX1_hasPart, .instanceMethod yX1_hasPart, .selects RX1 yX1_hasPart yX1_hasPart, .initialized RX1, .code yX1_hasPart cX1_hasPart 2 (some .boolean), .fieldLink RX1 43 "PartGraphs$Product" "partCount" "I", .static yX5_isBelow, .initialized RX5, .code yX5_isBelow cX5_isBelow 2 (some .boolean)] ++ wsX10)
def wsX1_addOption : List Cond := .code yX1_addOption cX1_addOption 3 (some .boolean) :: ([.fieldLink RX1 28 "PartGraphs$Product" "families" "[I", .methodLink RX1 87 yX1_allowsOption, .instanceMethod yX1_allowsOption, .selects RX1 yX1_allowsOption yX1_allowsOption, .initialized RX1, .code yX1_allowsOption cX1_allowsOption 3 (some .boolean), .methodLink RX1 80 yX1_hasPart, .instanceMethod yX1_hasPart, .selects RX1 yX1_hasPart yX1_hasPart, .code yX1_hasPart cX1_hasPart 2 (some .boolean), .fieldLink RX1 43 "PartGraphs$Product" "partCount" "I", .static yX5_isBelow, .initialized RX5, .code yX5_isBelow cX5_isBelow 2 (some .boolean)] ++ wsX10)
def wsX1_allowsDamage : List Cond := .code yX1_allowsDamage cX1_allowsDamage 3 (some .boolean) :: ([.methodLink RX1 80 yX1_hasPart, .instanceMethod yX1_hasPart, .selects RX1 yX1_hasPart yX1_hasPart, .initialized RX1, .code yX1_hasPart cX1_hasPart 2 (some .boolean), .fieldLink RX1 43 "PartGraphs$Product" "partCount" "I", .static yX5_isBelow, .initialized RX5, .code yX5_isBelow cX5_isBelow 2 (some .boolean)] ++ wsX10)
def wsX1_setDamage : List Cond := .code yX1_setDamage cX1_setDamage 4 (some .int) :: ([.fieldLink RX1 31 "PartGraphs$Product" "damages" "[I", .methodLink RX1 90 yX1_allowsDamage, .instanceMethod yX1_allowsDamage, .selects RX1 yX1_allowsDamage yX1_allowsDamage, .initialized RX1, .code yX1_allowsDamage cX1_allowsDamage 3 (some .boolean), .methodLink RX1 80 yX1_hasPart, .instanceMethod yX1_hasPart, .selects RX1 yX1_hasPart yX1_hasPart, .code yX1_hasPart cX1_hasPart 2 (some .boolean), .fieldLink RX1 43 "PartGraphs$Product" "partCount" "I", .static yX5_isBelow, .initialized RX5, .code yX5_isBelow cX5_isBelow 2 (some .boolean)] ++ wsX10)
def wsJx29ce0_ordinal_8abf5 : List Cond := .code yJx29ce0_ordinal_8abf5 cJx29ce0_ordinal_8abf5 1 (some .int) :: ([.fieldLink RJx29ce0 7 "java/lang/Enum" "ordinal" "I"])
def wsX1_allows_r1 : List Cond := [Cond.fieldLink RX1 93 "PartGraphs$1" "$SwitchMap$PartGraphs$Verb" "[I", Cond.methodLink RX1 98 ⟨"PartGraphs$Verb", "ordinal", "()I"⟩, Cond.sameMethod "PartGraphs$Verb" "java/lang/Enum" "ordinal" "()I", Cond.selects RX4 ⟨"PartGraphs$Verb", "ordinal", "()I"⟩ yJx29ce0_ordinal_8abf5, Cond.instanceMethod yJx29ce0_ordinal_8abf5, Cond.initialized RJx29ce0, Cond.code yJx29ce0_ordinal_8abf5 cJx29ce0_ordinal_8abf5 1 (some .int), Cond.fieldLink RJx29ce0 7 "java/lang/Enum" "ordinal" "I", Cond.methodLink RX1 56 yX1_allowsPart, Cond.instanceMethod yX1_allowsPart, Cond.selects RX1 yX1_allowsPart yX1_allowsPart, Cond.initialized RX1, Cond.code yX1_allowsPart cX1_allowsPart 4 (some .boolean), Cond.fieldLink RX1 43 "PartGraphs$Product" "partCount" "I", Cond.constantLong RX1 54 (1000000), Cond.static yX5_isBelow, Cond.initialized RX5, Cond.code yX5_isBelow cX5_isBelow 2 (some .boolean), Cond.methodLink RX1 74 yX1_allowsCover, Cond.instanceMethod yX1_allowsCover, Cond.selects RX1 yX1_allowsCover yX1_allowsCover, Cond.code yX1_allowsCover cX1_allowsCover 3 (some .boolean), Cond.fieldLink RX1 19 "PartGraphs$Product" "coverers" "[I", Cond.methodLink RX1 64 yX1_areTwoParts]
def wsX1_allows_r2 : List Cond := [Cond.instanceMethod yX1_areTwoParts, Cond.selects RX1 yX1_areTwoParts yX1_areTwoParts, Cond.code yX1_areTwoParts cX1_areTwoParts 3 (some .boolean), Cond.static yX5_contains, Cond.code yX5_contains cX5_contains 2 (some .boolean), Cond.methodLink RX1 77 yX1_allowsBar, Cond.instanceMethod yX1_allowsBar, Cond.selects RX1 yX1_allowsBar yX1_allowsBar, Cond.code yX1_allowsBar cX1_allowsBar 4 (some .boolean), Cond.fieldLink RX1 22 "PartGraphs$Product" "bars" "[I", Cond.methodLink RX1 60 yX1_barIndex, Cond.static yX1_barIndex, Cond.code yX1_barIndex cX1_barIndex 2 (some .int), Cond.methodLink RX1 67 yX1_allowsFastening, Cond.instanceMethod yX1_allowsFastening, Cond.selects RX1 yX1_allowsFastening yX1_allowsFastening, Cond.code yX1_allowsFastening cX1_allowsFastening 4 (some .boolean), Cond.fieldLink RX1 47 "PartGraphs$Product" "fasteningCount" "I", Cond.methodLink RX1 84 yX1_allowsHazard, Cond.instanceMethod yX1_allowsHazard, Cond.selects RX1 yX1_allowsHazard yX1_allowsHazard, Cond.code yX1_allowsHazard cX1_allowsHazard 3 (some .boolean), Cond.fieldLink RX1 25 "PartGraphs$Product" "hazards" "[I", Cond.methodLink RX1 80 yX1_hasPart]
def wsX1_allows_r3 : List Cond := [Cond.instanceMethod yX1_hasPart, Cond.selects RX1 yX1_hasPart yX1_hasPart, Cond.code yX1_hasPart cX1_hasPart 2 (some .boolean), Cond.methodLink RX1 87 yX1_allowsOption, Cond.instanceMethod yX1_allowsOption, Cond.selects RX1 yX1_allowsOption yX1_allowsOption, Cond.code yX1_allowsOption cX1_allowsOption 3 (some .boolean), Cond.fieldLink RX1 28 "PartGraphs$Product" "families" "[I", Cond.methodLink RX1 90 yX1_allowsDamage, Cond.instanceMethod yX1_allowsDamage, Cond.selects RX1 yX1_allowsDamage yX1_allowsDamage, Cond.code yX1_allowsDamage cX1_allowsDamage 3 (some .boolean)]
def wsX1_allows : List Cond := .code yX1_allows cX1_allows 5 (some .boolean) :: ((wsX1_allows_r1 ++ (wsX1_allows_r2 ++ wsX1_allows_r3)) ++ wsX10)
def wsX1_carryOut_r1 : List Cond := [Cond.fieldLink RX1 93 "PartGraphs$1" "$SwitchMap$PartGraphs$Verb" "[I", Cond.methodLink RX1 98 ⟨"PartGraphs$Verb", "ordinal", "()I"⟩, Cond.sameMethod "PartGraphs$Verb" "java/lang/Enum" "ordinal" "()I", Cond.selects RX4 ⟨"PartGraphs$Verb", "ordinal", "()I"⟩ yJx29ce0_ordinal_8abf5, Cond.instanceMethod yJx29ce0_ordinal_8abf5, Cond.initialized RJx29ce0, Cond.code yJx29ce0_ordinal_8abf5 cJx29ce0_ordinal_8abf5 1 (some .int), Cond.fieldLink RJx29ce0 7 "java/lang/Enum" "ordinal" "I", Cond.methodLink RX1 104 yX1_addPart, Cond.instanceMethod yX1_addPart, Cond.selects RX1 yX1_addPart yX1_addPart, Cond.initialized RX1, Cond.code yX1_addPart cX1_addPart 6 (some .int), Cond.fieldLink RX1 43 "PartGraphs$Product" "partCount" "I", Cond.fieldLink RX1 9 "PartGraphs$Product" "kinds" "[I", Cond.fieldLink RX1 15 "PartGraphs$Product" "grams" "[J", Cond.fieldLink RX1 19 "PartGraphs$Product" "coverers" "[I", Cond.fieldLink RX1 22 "PartGraphs$Product" "bars" "[I", Cond.fieldLink RX1 25 "PartGraphs$Product" "hazards" "[I", Cond.fieldLink RX1 28 "PartGraphs$Product" "families" "[I", Cond.fieldLink RX1 31 "PartGraphs$Product" "damages" "[I", Cond.methodLink RX1 56 yX1_allowsPart, Cond.instanceMethod yX1_allowsPart, Cond.selects RX1 yX1_allowsPart yX1_allowsPart]
def wsX1_carryOut_r2 : List Cond := [Cond.code yX1_allowsPart cX1_allowsPart 4 (some .boolean), Cond.constantLong RX1 54 (1000000), Cond.static yX5_isBelow, Cond.initialized RX5, Cond.code yX5_isBelow cX5_isBelow 2 (some .boolean), Cond.methodLink RX1 60 yX1_barIndex, Cond.static yX1_barIndex, Cond.code yX1_barIndex cX1_barIndex 2 (some .int), Cond.methodLink RX1 108 yX1_addCover, Cond.instanceMethod yX1_addCover, Cond.selects RX1 yX1_addCover yX1_addCover, Cond.code yX1_addCover cX1_addCover 3 (some .boolean), Cond.methodLink RX1 74 yX1_allowsCover, Cond.instanceMethod yX1_allowsCover, Cond.selects RX1 yX1_allowsCover yX1_allowsCover, Cond.code yX1_allowsCover cX1_allowsCover 3 (some .boolean), Cond.methodLink RX1 64 yX1_areTwoParts, Cond.instanceMethod yX1_areTwoParts, Cond.selects RX1 yX1_areTwoParts yX1_areTwoParts, Cond.code yX1_areTwoParts cX1_areTwoParts 3 (some .boolean), Cond.static yX5_contains, Cond.code yX5_contains cX5_contains 2 (some .boolean), Cond.methodLink RX1 111 yX1_addBar, Cond.instanceMethod yX1_addBar]
def wsX1_carryOut_r3 : List Cond := [Cond.selects RX1 yX1_addBar yX1_addBar, Cond.code yX1_addBar cX1_addBar 4 (some .boolean), Cond.methodLink RX1 77 yX1_allowsBar, Cond.instanceMethod yX1_allowsBar, Cond.selects RX1 yX1_allowsBar yX1_allowsBar, Cond.code yX1_allowsBar cX1_allowsBar 4 (some .boolean), Cond.methodLink RX1 114 yX1_addFastening, Cond.instanceMethod yX1_addFastening, Cond.selects RX1 yX1_addFastening yX1_addFastening, Cond.code yX1_addFastening cX1_addFastening 5 (some .int), Cond.fieldLink RX1 47 "PartGraphs$Product" "fasteningCount" "I", Cond.fieldLink RX1 34 "PartGraphs$Product" "firstEnds" "[I", Cond.fieldLink RX1 37 "PartGraphs$Product" "secondEnds" "[I", Cond.fieldLink RX1 40 "PartGraphs$Product" "fasteningKinds" "[I", Cond.methodLink RX1 67 yX1_allowsFastening, Cond.instanceMethod yX1_allowsFastening, Cond.selects RX1 yX1_allowsFastening yX1_allowsFastening, Cond.code yX1_allowsFastening cX1_allowsFastening 4 (some .boolean), Cond.methodLink RX1 118 yX1_addHazard, Cond.instanceMethod yX1_addHazard, Cond.selects RX1 yX1_addHazard yX1_addHazard, Cond.code yX1_addHazard cX1_addHazard 3 (some .boolean), Cond.methodLink RX1 84 yX1_allowsHazard, Cond.instanceMethod yX1_allowsHazard]
def wsX1_carryOut_r4 : List Cond := [Cond.selects RX1 yX1_allowsHazard yX1_allowsHazard, Cond.code yX1_allowsHazard cX1_allowsHazard 3 (some .boolean), Cond.methodLink RX1 80 yX1_hasPart, Cond.instanceMethod yX1_hasPart, Cond.selects RX1 yX1_hasPart yX1_hasPart, Cond.code yX1_hasPart cX1_hasPart 2 (some .boolean), Cond.methodLink RX1 121 yX1_addOption, Cond.instanceMethod yX1_addOption, Cond.selects RX1 yX1_addOption yX1_addOption, Cond.code yX1_addOption cX1_addOption 3 (some .boolean), Cond.methodLink RX1 87 yX1_allowsOption, Cond.instanceMethod yX1_allowsOption, Cond.selects RX1 yX1_allowsOption yX1_allowsOption, Cond.code yX1_allowsOption cX1_allowsOption 3 (some .boolean), Cond.methodLink RX1 124 yX1_setDamage, Cond.instanceMethod yX1_setDamage, Cond.selects RX1 yX1_setDamage yX1_setDamage, Cond.code yX1_setDamage cX1_setDamage 4 (some .int), Cond.methodLink RX1 90 yX1_allowsDamage, Cond.instanceMethod yX1_allowsDamage, Cond.selects RX1 yX1_allowsDamage yX1_allowsDamage, Cond.code yX1_allowsDamage cX1_allowsDamage 3 (some .boolean)]
def wsX1_carryOut : List Cond := .code yX1_carryOut cX1_carryOut 5 none :: ((wsX1_carryOut_r1 ++ (wsX1_carryOut_r2 ++ (wsX1_carryOut_r3 ++ wsX1_carryOut_r4))) ++ wsX10)
def wsX1_isPlain : List Cond := .code yX1_isPlain cX1_isPlain 3 (some .boolean) :: ([.fieldLink RX1 19 "PartGraphs$Product" "coverers" "[I", .methodLink RX1 80 yX1_hasPart, .instanceMethod yX1_hasPart, .selects RX1 yX1_hasPart yX1_hasPart, .initialized RX1, .code yX1_hasPart cX1_hasPart 2 (some .boolean), .fieldLink RX1 43 "PartGraphs$Product" "partCount" "I", .static yX5_contains, .initialized RX5, .code yX5_contains cX5_contains 2 (some .boolean)] ++ wsX10)
def wsX1_isFree : List Cond := .code yX1_isFree cX1_isFree 4 (some .boolean) :: ([.fieldLink RX1 22 "PartGraphs$Product" "bars" "[I", .methodLink RX1 127 yX1_isPlain, .instanceMethod yX1_isPlain, .selects RX1 yX1_isPlain yX1_isPlain, .initialized RX1, .code yX1_isPlain cX1_isPlain 3 (some .boolean), .fieldLink RX1 19 "PartGraphs$Product" "coverers" "[I", .methodLink RX1 80 yX1_hasPart, .instanceMethod yX1_hasPart, .selects RX1 yX1_hasPart yX1_hasPart, .code yX1_hasPart cX1_hasPart 2 (some .boolean), .fieldLink RX1 43 "PartGraphs$Product" "partCount" "I", .static yX5_contains, .initialized RX5, .code yX5_contains cX5_contains 2 (some .boolean), .methodLink RX1 60 yX1_barIndex, .static yX1_barIndex, .code yX1_barIndex cX1_barIndex 2 (some .int)] ++ wsX10)
def wsX1_comingOff : List Cond := .code yX1_comingOff cX1_comingOff 6 (some .int) :: ([.fieldLink RX1 43 "PartGraphs$Product" "partCount" "I", .methodLink RX1 130 yX1_isFree, .instanceMethod yX1_isFree, .selects RX1 yX1_isFree yX1_isFree, .initialized RX1, .code yX1_isFree cX1_isFree 4 (some .boolean), .fieldLink RX1 22 "PartGraphs$Product" "bars" "[I", .methodLink RX1 127 yX1_isPlain, .instanceMethod yX1_isPlain, .selects RX1 yX1_isPlain yX1_isPlain, .code yX1_isPlain cX1_isPlain 3 (some .boolean), .fieldLink RX1 19 "PartGraphs$Product" "coverers" "[I", .methodLink RX1 80 yX1_hasPart, .instanceMethod yX1_hasPart, .selects RX1 yX1_hasPart yX1_hasPart, .code yX1_hasPart cX1_hasPart 2 (some .boolean), .static yX5_contains, .initialized RX5, .code yX5_contains cX5_contains 2 (some .boolean), .methodLink RX1 60 yX1_barIndex, .static yX1_barIndex, .code yX1_barIndex cX1_barIndex 2 (some .int)] ++ wsX10)
def wsX1_neverComingOff_r1 : List Cond := [Cond.fieldLink RX1 43 "PartGraphs$Product" "partCount" "I", Cond.methodLink RX1 133 yX1_comingOff, Cond.instanceMethod yX1_comingOff, Cond.selects RX1 yX1_comingOff yX1_comingOff, Cond.initialized RX1, Cond.code yX1_comingOff cX1_comingOff 6 (some .int), Cond.methodLink RX1 130 yX1_isFree, Cond.instanceMethod yX1_isFree, Cond.selects RX1 yX1_isFree yX1_isFree, Cond.code yX1_isFree cX1_isFree 4 (some .boolean), Cond.fieldLink RX1 22 "PartGraphs$Product" "bars" "[I", Cond.methodLink RX1 127 yX1_isPlain, Cond.instanceMethod yX1_isPlain, Cond.selects RX1 yX1_isPlain yX1_isPlain, Cond.code yX1_isPlain cX1_isPlain 3 (some .boolean), Cond.fieldLink RX1 19 "PartGraphs$Product" "coverers" "[I", Cond.methodLink RX1 80 yX1_hasPart, Cond.instanceMethod yX1_hasPart, Cond.selects RX1 yX1_hasPart yX1_hasPart, Cond.code yX1_hasPart cX1_hasPart 2 (some .boolean), Cond.static yX5_contains, Cond.initialized RX5, Cond.code yX5_contains cX5_contains 2 (some .boolean), Cond.methodLink RX1 60 yX1_barIndex]
def wsX1_neverComingOff_r2 : List Cond := [Cond.static yX1_barIndex, Cond.code yX1_barIndex cX1_barIndex 2 (some .int)]
def wsX1_neverComingOff : List Cond := .code yX1_neverComingOff cX1_neverComingOff 1 (some .int) :: ((wsX1_neverComingOff_r1 ++ wsX1_neverComingOff_r2) ++ wsX10)
def wsX1_mustComeOffBefore_r1 : List Cond := [Cond.fieldLink RX1 43 "PartGraphs$Product" "partCount" "I", Cond.methodLink RX1 80 yX1_hasPart, Cond.instanceMethod yX1_hasPart, Cond.selects RX1 yX1_hasPart yX1_hasPart, Cond.initialized RX1, Cond.code yX1_hasPart cX1_hasPart 2 (some .boolean), Cond.methodLink RX1 133 yX1_comingOff, Cond.instanceMethod yX1_comingOff, Cond.selects RX1 yX1_comingOff yX1_comingOff, Cond.code yX1_comingOff cX1_comingOff 6 (some .int), Cond.methodLink RX1 130 yX1_isFree, Cond.instanceMethod yX1_isFree, Cond.selects RX1 yX1_isFree yX1_isFree, Cond.code yX1_isFree cX1_isFree 4 (some .boolean), Cond.fieldLink RX1 22 "PartGraphs$Product" "bars" "[I", Cond.methodLink RX1 127 yX1_isPlain, Cond.instanceMethod yX1_isPlain, Cond.selects RX1 yX1_isPlain yX1_isPlain, Cond.code yX1_isPlain cX1_isPlain 3 (some .boolean), Cond.fieldLink RX1 19 "PartGraphs$Product" "coverers" "[I", Cond.static yX5_contains, Cond.initialized RX5, Cond.code yX5_contains cX5_contains 2 (some .boolean), Cond.methodLink RX1 60 yX1_barIndex]
def wsX1_mustComeOffBefore_r2 : List Cond := [Cond.static yX1_barIndex, Cond.code yX1_barIndex cX1_barIndex 2 (some .int)]
def wsX1_mustComeOffBefore : List Cond := .code yX1_mustComeOffBefore cX1_mustComeOffBefore 4 (some .int) :: ((wsX1_mustComeOffBefore_r1 ++ wsX1_mustComeOffBefore_r2) ++ wsX10)
def wsX1_membersOf : List Cond := .code yX1_membersOf cX1_membersOf 4 (some .int) :: ([.fieldLink RX1 43 "PartGraphs$Product" "partCount" "I", .fieldLink RX1 28 "PartGraphs$Product" "families" "[I"] ++ wsX10)
def wsJ6_bitCount_0f7a4 : List Cond := .code yJ6_bitCount_0f7a4 cJ6_bitCount_0f7a4 1 (some .int) :: ([.constant RJ6 265 (1431655765), .constant RJ6 266 (858993459), .constant RJ6 267 (252645135)])
def wsX5_memberOf : List Cond := .code yX5_memberOf cX5_memberOf 4 (some .int) :: ([.methodLink RX5 102 yX5_contains, .static yX5_contains, .initialized RX5, .code yX5_contains cX5_contains 2 (some .boolean)])
def wsX1_variant : List Cond := .code yX1_variant cX1_variant 7 (some .int) :: ([.methodLink RX1 137 yX1_membersOf, .instanceMethod yX1_membersOf, .selects RX1 yX1_membersOf yX1_membersOf, .initialized RX1, .code yX1_membersOf cX1_membersOf 4 (some .int), .fieldLink RX1 43 "PartGraphs$Product" "partCount" "I", .fieldLink RX1 28 "PartGraphs$Product" "families" "[I", .methodLink RX1 140 yJ6_bitCount_0f7a4, .static yJ6_bitCount_0f7a4, .initialized RJ6, .code yJ6_bitCount_0f7a4 cJ6_bitCount_0f7a4 1 (some .int), .constant RJ6 265 (1431655765), .constant RJ6 266 (858993459), .constant RJ6 267 (252645135), .static yX5_memberOf, .initialized RX5, .code yX5_memberOf cX5_memberOf 4 (some .int), .methodLink RX5 102 yX5_contains, .static yX5_contains, .code yX5_contains cX5_contains 2 (some .boolean)] ++ wsX10)
def wsX1_piece : List Cond := .code yX1_piece cX1_piece 8 (some .int) :: ([.fieldLink RX1 47 "PartGraphs$Product" "fasteningCount" "I", .fieldLink RX1 34 "PartGraphs$Product" "firstEnds" "[I", .fieldLink RX1 37 "PartGraphs$Product" "secondEnds" "[I", .methodLink RX1 80 yX1_hasPart, .instanceMethod yX1_hasPart, .selects RX1 yX1_hasPart yX1_hasPart, .initialized RX1, .code yX1_hasPart cX1_hasPart 2 (some .boolean), .fieldLink RX1 43 "PartGraphs$Product" "partCount" "I", .static yX5_contains, .initialized RX5, .code yX5_contains cX5_contains 2 (some .boolean)] ++ wsX10)
def wsX1_pieces : List Cond := .code yX1_pieces cX1_pieces 4 (some .int) :: ([.fieldLink RX1 43 "PartGraphs$Product" "partCount" "I", .static yX5_contains, .initialized RX5, .code yX5_contains cX5_contains 2 (some .boolean), .methodLink RX1 148 yX1_piece, .instanceMethod yX1_piece, .selects RX1 yX1_piece yX1_piece, .initialized RX1, .code yX1_piece cX1_piece 8 (some .int), .fieldLink RX1 47 "PartGraphs$Product" "fasteningCount" "I", .fieldLink RX1 34 "PartGraphs$Product" "firstEnds" "[I", .fieldLink RX1 37 "PartGraphs$Product" "secondEnds" "[I", .methodLink RX1 80 yX1_hasPart, .instanceMethod yX1_hasPart, .selects RX1 yX1_hasPart yX1_hasPart, .code yX1_hasPart cX1_hasPart 2 (some .boolean)] ++ wsX10)
def wsX1_gramsOf : List Cond := .code yX1_gramsOf cX1_gramsOf 5 (some .long) :: ([.fieldLink RX1 43 "PartGraphs$Product" "partCount" "I", .fieldLink RX1 15 "PartGraphs$Product" "grams" "[J", .static yX5_contains, .initialized RX5, .code yX5_contains cX5_contains 2 (some .boolean)] ++ wsX10)
def wsX1_partsLike : List Cond := .code yX1_partsLike cX1_partsLike 4 (some .int) :: ([.fieldLink RX1 43 "PartGraphs$Product" "partCount" "I", .fieldLink RX1 9 "PartGraphs$Product" "kinds" "[I", .fieldLink RX1 15 "PartGraphs$Product" "grams" "[J", .fieldLink RX1 25 "PartGraphs$Product" "hazards" "[I", .methodLink RX1 80 yX1_hasPart, .instanceMethod yX1_hasPart, .selects RX1 yX1_hasPart yX1_hasPart, .initialized RX1, .code yX1_hasPart cX1_hasPart 2 (some .boolean)] ++ wsX10)
def wsX1_coveredBy : List Cond := .code yX1_coveredBy cX1_coveredBy 4 (some .int) :: ([.fieldLink RX1 43 "PartGraphs$Product" "partCount" "I", .fieldLink RX1 19 "PartGraphs$Product" "coverers" "[I", .static yX5_contains, .initialized RX5, .code yX5_contains cX5_contains 2 (some .boolean)] ++ wsX10)
def wsX2_init : List Cond := .code yX2_init cX2_init 1 none :: ([.methodLink RX2 3 objectInit, .instanceMethod objectInit, .code objectInit ⟨#[0xb1]⟩ 1 none, .arrayClass .char, .fieldLink RX2 9 "PartGraphs$Reader" "text" "[C", .arrayClass .int, .fieldLink RX2 15 "PartGraphs$Reader" "numbers" "[I"] ++ wsX20)
def wsX2_take : List Cond := .code yX2_take cX2_take 2 (some .boolean) :: ([.fieldLink RX2 19 "PartGraphs$Reader" "length" "I", .fieldLink RX2 9 "PartGraphs$Reader" "text" "[C"] ++ wsX20)
def wsX2_clear : List Cond := .code yX2_clear cX2_clear 1 none :: ([.fieldLink RX2 19 "PartGraphs$Reader" "length" "I"] ++ wsX20)
def wsX2_wordBegin : List Cond := .code yX2_wordBegin cX2_wordBegin 1 (some .int) :: ([.fieldLink RX2 23 "PartGraphs$Reader" "begin" "I"] ++ wsX20)
def wsX2_isBlankAt : List Cond := .code yX2_isBlankAt cX2_isBlankAt 2 (some .boolean) :: ([.fieldLink RX2 9 "PartGraphs$Reader" "text" "[C"] ++ wsX20)
def wsX2_findWord : List Cond := .code yX2_findWord cX2_findWord 1 (some .boolean) :: ([.fieldLink RX2 26 "PartGraphs$Reader" "end" "I", .fieldLink RX2 23 "PartGraphs$Reader" "begin" "I", .fieldLink RX2 19 "PartGraphs$Reader" "length" "I", .methodLink RX2 63 yX2_isBlankAt, .instanceMethod yX2_isBlankAt, .selects RX2 yX2_isBlankAt yX2_isBlankAt, .initialized RX2, .code yX2_isBlankAt cX2_isBlankAt 2 (some .boolean), .fieldLink RX2 9 "PartGraphs$Reader" "text" "[C"] ++ wsX20)
def wsJ0_coder_7d493 : List Cond := .code yJ0_coder_7d493 cJ0_coder_7d493 1 (some .byte) :: ([.fieldLink RJ0 38 "java/lang/String" "COMPACT_STRINGS" "Z", .fieldLink RJ0 15 "java/lang/String" "coder" "B"])
def wsJ0_length_8abf5 : List Cond := .code yJ0_length_8abf5 cJ0_length_8abf5 1 (some .int) :: ([.fieldLink RJ0 9 "java/lang/String" "value" "[B", .methodLink RJ0 335 yJ0_coder_7d493, .instanceMethod yJ0_coder_7d493, .selects RJ0 yJ0_coder_7d493 yJ0_coder_7d493, .initialized RJ0, .code yJ0_coder_7d493 cJ0_coder_7d493 1 (some .byte), .fieldLink RJ0 38 "java/lang/String" "COMPACT_STRINGS" "Z", .fieldLink RJ0 15 "java/lang/String" "coder" "B"])
def wsJ0_isLatin1_aae02 : List Cond := .code yJ0_isLatin1_aae02 cJ0_isLatin1_aae02 1 (some .boolean) :: ([.fieldLink RJ0 38 "java/lang/String" "COMPACT_STRINGS" "Z", .fieldLink RJ0 15 "java/lang/String" "coder" "B"])
def wsJ3_checkIndex_8e157 : List Cond := .code yJ3_checkIndex_8e157 cJ3_checkIndex_8e157 3 (some .int) :: ([])
def wsJ0_checkIndex_df160 : List Cond := .code yJ0_checkIndex_df160 cJ0_checkIndex_df160 2 none :: ([.fieldLink RJ0 1053 "jdk/internal/util/Preconditions" "SIOOBE_FORMATTER" "Ljava/util/function/BiFunction;", .methodLink RJ0 1059 yJ3_checkIndex_8e157, .static yJ3_checkIndex_8e157, .initialized RJ3, .code yJ3_checkIndex_8e157 cJ3_checkIndex_8e157 3 (some .int)])
def wsJ1_charAt_3b067 : List Cond := .code yJ1_charAt_3b067 cJ1_charAt_3b067 2 (some .char) :: ([.methodLink RJ1 9 yJ0_checkIndex_df160, .static yJ0_checkIndex_df160, .initialized RJ0, .code yJ0_checkIndex_df160 cJ0_checkIndex_df160 2 none, .fieldLink RJ0 1053 "jdk/internal/util/Preconditions" "SIOOBE_FORMATTER" "Ljava/util/function/BiFunction;", .methodLink RJ0 1059 yJ3_checkIndex_8e157, .static yJ3_checkIndex_8e157, .initialized RJ3, .code yJ3_checkIndex_8e157 cJ3_checkIndex_8e157 3 (some .int)])
def wsJ2_length_9d52b : List Cond := .code yJ2_length_9d52b cJ2_length_9d52b 1 (some .int) :: ([])
def wsJ2_checkIndex_2214a : List Cond := .code yJ2_checkIndex_2214a cJ2_checkIndex_2214a 2 none :: ([.methodLink RJ2 48 yJ2_length_9d52b, .static yJ2_length_9d52b, .initialized RJ2, .code yJ2_length_9d52b cJ2_length_9d52b 1 (some .int), .methodLink RJ2 414 yJ0_checkIndex_df160, .static yJ0_checkIndex_df160, .initialized RJ0, .code yJ0_checkIndex_df160 cJ0_checkIndex_df160 2 none, .fieldLink RJ0 1053 "jdk/internal/util/Preconditions" "SIOOBE_FORMATTER" "Ljava/util/function/BiFunction;", .methodLink RJ0 1059 yJ3_checkIndex_8e157, .static yJ3_checkIndex_8e157, .initialized RJ3, .code yJ3_checkIndex_8e157 cJ3_checkIndex_8e157 3 (some .int)])
def wsJ2_getChar_3b067 : List Cond := .code yJ2_getChar_3b067 cJ2_getChar_3b067 2 (some .char) :: ([.fieldLink RJ2 44 "java/lang/StringUTF16" "$assertionsDisabled" "Z", .fieldLink RJ2 59 "java/lang/StringUTF16" "HI_BYTE_SHIFT" "I", .fieldLink RJ2 63 "java/lang/StringUTF16" "LO_BYTE_SHIFT" "I", .methodLink RJ2 48 yJ2_length_9d52b, .static yJ2_length_9d52b, .initialized RJ2, .code yJ2_length_9d52b cJ2_length_9d52b 1 (some .int)])
def wsJ2_charAt_3b067 : List Cond := .code yJ2_charAt_3b067 cJ2_charAt_3b067 2 (some .char) :: ([.methodLink RJ2 67 yJ2_checkIndex_2214a, .static yJ2_checkIndex_2214a, .initialized RJ2, .code yJ2_checkIndex_2214a cJ2_checkIndex_2214a 2 none, .methodLink RJ2 48 yJ2_length_9d52b, .static yJ2_length_9d52b, .code yJ2_length_9d52b cJ2_length_9d52b 1 (some .int), .methodLink RJ2 414 yJ0_checkIndex_df160, .static yJ0_checkIndex_df160, .initialized RJ0, .code yJ0_checkIndex_df160 cJ0_checkIndex_df160 2 none, .fieldLink RJ0 1053 "jdk/internal/util/Preconditions" "SIOOBE_FORMATTER" "Ljava/util/function/BiFunction;", .methodLink RJ0 1059 yJ3_checkIndex_8e157, .static yJ3_checkIndex_8e157, .initialized RJ3, .code yJ3_checkIndex_8e157 cJ3_checkIndex_8e157 3 (some .int), .methodLink RJ2 71 yJ2_getChar_3b067, .static yJ2_getChar_3b067, .code yJ2_getChar_3b067 cJ2_getChar_3b067 2 (some .char), .fieldLink RJ2 44 "java/lang/StringUTF16" "$assertionsDisabled" "Z", .fieldLink RJ2 59 "java/lang/StringUTF16" "HI_BYTE_SHIFT" "I", .fieldLink RJ2 63 "java/lang/StringUTF16" "LO_BYTE_SHIFT" "I"])
def wsJ0_charAt_5068e_r1 : List Cond := [Cond.fieldLink RJ0 9 "java/lang/String" "value" "[B", Cond.methodLink RJ0 492 yJ0_isLatin1_aae02, Cond.instanceMethod yJ0_isLatin1_aae02, Cond.selects RJ0 yJ0_isLatin1_aae02 yJ0_isLatin1_aae02, Cond.initialized RJ0, Cond.code yJ0_isLatin1_aae02 cJ0_isLatin1_aae02 1 (some .boolean), Cond.fieldLink RJ0 38 "java/lang/String" "COMPACT_STRINGS" "Z", Cond.fieldLink RJ0 15 "java/lang/String" "coder" "B", Cond.methodLink RJ0 495 yJ1_charAt_3b067, Cond.static yJ1_charAt_3b067, Cond.initialized RJ1, Cond.code yJ1_charAt_3b067 cJ1_charAt_3b067 2 (some .char), Cond.methodLink RJ1 9 yJ0_checkIndex_df160, Cond.static yJ0_checkIndex_df160, Cond.code yJ0_checkIndex_df160 cJ0_checkIndex_df160 2 none, Cond.fieldLink RJ0 1053 "jdk/internal/util/Preconditions" "SIOOBE_FORMATTER" "Ljava/util/function/BiFunction;", Cond.methodLink RJ0 1059 yJ3_checkIndex_8e157, Cond.static yJ3_checkIndex_8e157, Cond.initialized RJ3, Cond.code yJ3_checkIndex_8e157 cJ3_checkIndex_8e157 3 (some .int), Cond.methodLink RJ0 498 yJ2_charAt_3b067, Cond.static yJ2_charAt_3b067, Cond.initialized RJ2, Cond.code yJ2_charAt_3b067 cJ2_charAt_3b067 2 (some .char)]
def wsJ0_charAt_5068e_r2 : List Cond := [Cond.methodLink RJ2 67 yJ2_checkIndex_2214a, Cond.static yJ2_checkIndex_2214a, Cond.code yJ2_checkIndex_2214a cJ2_checkIndex_2214a 2 none, Cond.methodLink RJ2 48 yJ2_length_9d52b, Cond.static yJ2_length_9d52b, Cond.code yJ2_length_9d52b cJ2_length_9d52b 1 (some .int), Cond.methodLink RJ2 414 yJ0_checkIndex_df160, Cond.methodLink RJ2 71 yJ2_getChar_3b067, Cond.static yJ2_getChar_3b067, Cond.code yJ2_getChar_3b067 cJ2_getChar_3b067 2 (some .char), Cond.fieldLink RJ2 44 "java/lang/StringUTF16" "$assertionsDisabled" "Z", Cond.fieldLink RJ2 59 "java/lang/StringUTF16" "HI_BYTE_SHIFT" "I", Cond.fieldLink RJ2 63 "java/lang/StringUTF16" "LO_BYTE_SHIFT" "I"]
def wsJ0_charAt_5068e : List Cond := .code yJ0_charAt_5068e cJ0_charAt_5068e 2 (some .char) :: ((wsJ0_charAt_5068e_r1 ++ wsJ0_charAt_5068e_r2))
def wsX2_isWordHere_r1 : List Cond := [Cond.fieldLink RX2 26 "PartGraphs$Reader" "end" "I", Cond.fieldLink RX2 23 "PartGraphs$Reader" "begin" "I", Cond.fieldLink RX2 9 "PartGraphs$Reader" "text" "[C", Cond.methodLink RX2 79 yJ0_length_8abf5, Cond.instanceMethod yJ0_length_8abf5, Cond.selects RJ0 yJ0_length_8abf5 yJ0_length_8abf5, Cond.initialized RJ0, Cond.code yJ0_length_8abf5 cJ0_length_8abf5 1 (some .int), Cond.fieldLink RJ0 9 "java/lang/String" "value" "[B", Cond.methodLink RJ0 335 yJ0_coder_7d493, Cond.instanceMethod yJ0_coder_7d493, Cond.selects RJ0 yJ0_coder_7d493 yJ0_coder_7d493, Cond.code yJ0_coder_7d493 cJ0_coder_7d493 1 (some .byte), Cond.fieldLink RJ0 38 "java/lang/String" "COMPACT_STRINGS" "Z", Cond.fieldLink RJ0 15 "java/lang/String" "coder" "B", Cond.methodLink RX2 83 yJ0_charAt_5068e, Cond.instanceMethod yJ0_charAt_5068e, Cond.selects RJ0 yJ0_charAt_5068e yJ0_charAt_5068e, Cond.code yJ0_charAt_5068e cJ0_charAt_5068e 2 (some .char), Cond.methodLink RJ0 492 yJ0_isLatin1_aae02, Cond.instanceMethod yJ0_isLatin1_aae02, Cond.selects RJ0 yJ0_isLatin1_aae02 yJ0_isLatin1_aae02, Cond.code yJ0_isLatin1_aae02 cJ0_isLatin1_aae02 1 (some .boolean), Cond.methodLink RJ0 495 yJ1_charAt_3b067]
def wsX2_isWordHere_r2 : List Cond := [Cond.static yJ1_charAt_3b067, Cond.initialized RJ1, Cond.code yJ1_charAt_3b067 cJ1_charAt_3b067 2 (some .char), Cond.methodLink RJ1 9 yJ0_checkIndex_df160, Cond.static yJ0_checkIndex_df160, Cond.code yJ0_checkIndex_df160 cJ0_checkIndex_df160 2 none, Cond.fieldLink RJ0 1053 "jdk/internal/util/Preconditions" "SIOOBE_FORMATTER" "Ljava/util/function/BiFunction;", Cond.methodLink RJ0 1059 yJ3_checkIndex_8e157, Cond.static yJ3_checkIndex_8e157, Cond.initialized RJ3, Cond.code yJ3_checkIndex_8e157 cJ3_checkIndex_8e157 3 (some .int), Cond.methodLink RJ0 498 yJ2_charAt_3b067, Cond.static yJ2_charAt_3b067, Cond.initialized RJ2, Cond.code yJ2_charAt_3b067 cJ2_charAt_3b067 2 (some .char), Cond.methodLink RJ2 67 yJ2_checkIndex_2214a, Cond.static yJ2_checkIndex_2214a, Cond.code yJ2_checkIndex_2214a cJ2_checkIndex_2214a 2 none, Cond.methodLink RJ2 48 yJ2_length_9d52b, Cond.static yJ2_length_9d52b, Cond.code yJ2_length_9d52b cJ2_length_9d52b 1 (some .int), Cond.methodLink RJ2 414 yJ0_checkIndex_df160, Cond.methodLink RJ2 71 yJ2_getChar_3b067, Cond.static yJ2_getChar_3b067]
def wsX2_isWordHere_r3 : List Cond := [Cond.code yJ2_getChar_3b067 cJ2_getChar_3b067 2 (some .char), Cond.fieldLink RJ2 44 "java/lang/StringUTF16" "$assertionsDisabled" "Z", Cond.fieldLink RJ2 59 "java/lang/StringUTF16" "HI_BYTE_SHIFT" "I", Cond.fieldLink RJ2 63 "java/lang/StringUTF16" "LO_BYTE_SHIFT" "I"]
def wsX2_isWordHere : List Cond := .code yX2_isWordHere cX2_isWordHere 3 (some .boolean) :: ((wsX2_isWordHere_r1 ++ (wsX2_isWordHere_r2 ++ wsX2_isWordHere_r3)) ++ wsX20)
def wsX2_verbHere_r1 : List Cond := [Cond.fieldLink RX2 71 "PartGraphs$Verb" "word" "Ljava/lang/String;", Cond.methodLink RX2 75 yX2_isWordHere, Cond.instanceMethod yX2_isWordHere, Cond.selects RX2 yX2_isWordHere yX2_isWordHere, Cond.initialized RX2, Cond.code yX2_isWordHere cX2_isWordHere 3 (some .boolean), Cond.fieldLink RX2 26 "PartGraphs$Reader" "end" "I", Cond.fieldLink RX2 23 "PartGraphs$Reader" "begin" "I", Cond.fieldLink RX2 9 "PartGraphs$Reader" "text" "[C", Cond.methodLink RX2 79 yJ0_length_8abf5, Cond.instanceMethod yJ0_length_8abf5, Cond.selects RJ0 yJ0_length_8abf5 yJ0_length_8abf5, Cond.initialized RJ0, Cond.code yJ0_length_8abf5 cJ0_length_8abf5 1 (some .int), Cond.fieldLink RJ0 9 "java/lang/String" "value" "[B", Cond.methodLink RJ0 335 yJ0_coder_7d493, Cond.instanceMethod yJ0_coder_7d493, Cond.selects RJ0 yJ0_coder_7d493 yJ0_coder_7d493, Cond.code yJ0_coder_7d493 cJ0_coder_7d493 1 (some .byte), Cond.fieldLink RJ0 38 "java/lang/String" "COMPACT_STRINGS" "Z", Cond.fieldLink RJ0 15 "java/lang/String" "coder" "B", Cond.methodLink RX2 83 yJ0_charAt_5068e, Cond.instanceMethod yJ0_charAt_5068e, Cond.selects RJ0 yJ0_charAt_5068e yJ0_charAt_5068e]
def wsX2_verbHere_r2 : List Cond := [Cond.code yJ0_charAt_5068e cJ0_charAt_5068e 2 (some .char), Cond.methodLink RJ0 492 yJ0_isLatin1_aae02, Cond.instanceMethod yJ0_isLatin1_aae02, Cond.selects RJ0 yJ0_isLatin1_aae02 yJ0_isLatin1_aae02, Cond.code yJ0_isLatin1_aae02 cJ0_isLatin1_aae02 1 (some .boolean), Cond.methodLink RJ0 495 yJ1_charAt_3b067, Cond.static yJ1_charAt_3b067, Cond.initialized RJ1, Cond.code yJ1_charAt_3b067 cJ1_charAt_3b067 2 (some .char), Cond.methodLink RJ1 9 yJ0_checkIndex_df160, Cond.static yJ0_checkIndex_df160, Cond.code yJ0_checkIndex_df160 cJ0_checkIndex_df160 2 none, Cond.fieldLink RJ0 1053 "jdk/internal/util/Preconditions" "SIOOBE_FORMATTER" "Ljava/util/function/BiFunction;", Cond.methodLink RJ0 1059 yJ3_checkIndex_8e157, Cond.static yJ3_checkIndex_8e157, Cond.initialized RJ3, Cond.code yJ3_checkIndex_8e157 cJ3_checkIndex_8e157 3 (some .int), Cond.methodLink RJ0 498 yJ2_charAt_3b067, Cond.static yJ2_charAt_3b067, Cond.initialized RJ2, Cond.code yJ2_charAt_3b067 cJ2_charAt_3b067 2 (some .char), Cond.methodLink RJ2 67 yJ2_checkIndex_2214a, Cond.static yJ2_checkIndex_2214a, Cond.code yJ2_checkIndex_2214a cJ2_checkIndex_2214a 2 none]
def wsX2_verbHere_r3 : List Cond := [Cond.methodLink RJ2 48 yJ2_length_9d52b, Cond.static yJ2_length_9d52b, Cond.code yJ2_length_9d52b cJ2_length_9d52b 1 (some .int), Cond.methodLink RJ2 414 yJ0_checkIndex_df160, Cond.methodLink RJ2 71 yJ2_getChar_3b067, Cond.static yJ2_getChar_3b067, Cond.code yJ2_getChar_3b067 cJ2_getChar_3b067 2 (some .char), Cond.fieldLink RJ2 44 "java/lang/StringUTF16" "$assertionsDisabled" "Z", Cond.fieldLink RJ2 59 "java/lang/StringUTF16" "HI_BYTE_SHIFT" "I", Cond.fieldLink RJ2 63 "java/lang/StringUTF16" "LO_BYTE_SHIFT" "I"]
def wsX2_verbHere : List Cond := .code yX2_verbHere cX2_verbHere 2 (some (.object "PartGraphs$Verb")) :: ((wsX2_verbHere_r1 ++ (wsX2_verbHere_r2 ++ wsX2_verbHere_r3)) ++ wsX20)
def wsX2_canGoOn_r1 : List Cond := [Cond.fieldLink RX2 45 "PartGraphs$Verb" "numbers" "I", Cond.fieldLink RX2 15 "PartGraphs$Reader" "numbers" "[I", Cond.methodLink RX2 59 yX1_allows, Cond.instanceMethod yX1_allows, Cond.selects RX1 yX1_allows yX1_allows, Cond.initialized RX1, Cond.code yX1_allows cX1_allows 5 (some .boolean), Cond.fieldLink RX1 93 "PartGraphs$1" "$SwitchMap$PartGraphs$Verb" "[I", Cond.methodLink RX1 98 ⟨"PartGraphs$Verb", "ordinal", "()I"⟩, Cond.sameMethod "PartGraphs$Verb" "java/lang/Enum" "ordinal" "()I", Cond.selects RX4 ⟨"PartGraphs$Verb", "ordinal", "()I"⟩ yJx29ce0_ordinal_8abf5, Cond.instanceMethod yJx29ce0_ordinal_8abf5, Cond.initialized RJx29ce0, Cond.code yJx29ce0_ordinal_8abf5 cJx29ce0_ordinal_8abf5 1 (some .int), Cond.fieldLink RJx29ce0 7 "java/lang/Enum" "ordinal" "I", Cond.methodLink RX1 56 yX1_allowsPart, Cond.instanceMethod yX1_allowsPart, Cond.selects RX1 yX1_allowsPart yX1_allowsPart, Cond.code yX1_allowsPart cX1_allowsPart 4 (some .boolean), Cond.fieldLink RX1 43 "PartGraphs$Product" "partCount" "I", Cond.constantLong RX1 54 (1000000), Cond.static yX5_isBelow, Cond.initialized RX5, Cond.code yX5_isBelow cX5_isBelow 2 (some .boolean)]
def wsX2_canGoOn_r2 : List Cond := [Cond.methodLink RX1 74 yX1_allowsCover, Cond.instanceMethod yX1_allowsCover, Cond.selects RX1 yX1_allowsCover yX1_allowsCover, Cond.code yX1_allowsCover cX1_allowsCover 3 (some .boolean), Cond.fieldLink RX1 19 "PartGraphs$Product" "coverers" "[I", Cond.methodLink RX1 64 yX1_areTwoParts, Cond.instanceMethod yX1_areTwoParts, Cond.selects RX1 yX1_areTwoParts yX1_areTwoParts, Cond.code yX1_areTwoParts cX1_areTwoParts 3 (some .boolean), Cond.static yX5_contains, Cond.code yX5_contains cX5_contains 2 (some .boolean), Cond.methodLink RX1 77 yX1_allowsBar, Cond.instanceMethod yX1_allowsBar, Cond.selects RX1 yX1_allowsBar yX1_allowsBar, Cond.code yX1_allowsBar cX1_allowsBar 4 (some .boolean), Cond.fieldLink RX1 22 "PartGraphs$Product" "bars" "[I", Cond.methodLink RX1 60 yX1_barIndex, Cond.static yX1_barIndex, Cond.code yX1_barIndex cX1_barIndex 2 (some .int), Cond.methodLink RX1 67 yX1_allowsFastening, Cond.instanceMethod yX1_allowsFastening, Cond.selects RX1 yX1_allowsFastening yX1_allowsFastening, Cond.code yX1_allowsFastening cX1_allowsFastening 4 (some .boolean), Cond.fieldLink RX1 47 "PartGraphs$Product" "fasteningCount" "I"]
def wsX2_canGoOn_r3 : List Cond := [Cond.methodLink RX1 84 yX1_allowsHazard, Cond.instanceMethod yX1_allowsHazard, Cond.selects RX1 yX1_allowsHazard yX1_allowsHazard, Cond.code yX1_allowsHazard cX1_allowsHazard 3 (some .boolean), Cond.fieldLink RX1 25 "PartGraphs$Product" "hazards" "[I", Cond.methodLink RX1 80 yX1_hasPart, Cond.instanceMethod yX1_hasPart, Cond.selects RX1 yX1_hasPart yX1_hasPart, Cond.code yX1_hasPart cX1_hasPart 2 (some .boolean), Cond.methodLink RX1 87 yX1_allowsOption, Cond.instanceMethod yX1_allowsOption, Cond.selects RX1 yX1_allowsOption yX1_allowsOption, Cond.code yX1_allowsOption cX1_allowsOption 3 (some .boolean), Cond.fieldLink RX1 28 "PartGraphs$Product" "families" "[I", Cond.methodLink RX1 90 yX1_allowsDamage, Cond.instanceMethod yX1_allowsDamage, Cond.selects RX1 yX1_allowsDamage yX1_allowsDamage, Cond.code yX1_allowsDamage cX1_allowsDamage 3 (some .boolean), Cond.methodLink RX2 41 yX2_canGoOn, Cond.instanceMethod yX2_canGoOn, Cond.selects RX2 yX2_canGoOn yX2_canGoOn, Cond.initialized RX2]
def wsX2_canGoOn : List Cond := .code yX2_canGoOn cX2_canGoOn 5 (some .boolean) :: ((wsX2_canGoOn_r1 ++ (wsX2_canGoOn_r2 ++ wsX2_canGoOn_r3)) ++ wsX20 ++ wsX10)
def wsX2_numberHere : List Cond := .code yX2_numberHere cX2_numberHere 3 (some .int) :: ([.fieldLink RX2 26 "PartGraphs$Reader" "end" "I", .fieldLink RX2 23 "PartGraphs$Reader" "begin" "I", .fieldLink RX2 9 "PartGraphs$Reader" "text" "[C"] ++ wsX20)
def wsX2_readSentence_r1 : List Cond := [Cond.fieldLink RX2 45 "PartGraphs$Verb" "numbers" "I", Cond.fieldLink RX2 15 "PartGraphs$Reader" "numbers" "[I", Cond.methodLink RX2 37 yX2_verbHere, Cond.instanceMethod yX2_verbHere, Cond.selects RX2 yX2_verbHere yX2_verbHere, Cond.initialized RX2, Cond.code yX2_verbHere cX2_verbHere 2 (some (.object "PartGraphs$Verb")), Cond.fieldLink RX2 71 "PartGraphs$Verb" "word" "Ljava/lang/String;", Cond.methodLink RX2 75 yX2_isWordHere, Cond.instanceMethod yX2_isWordHere, Cond.selects RX2 yX2_isWordHere yX2_isWordHere, Cond.code yX2_isWordHere cX2_isWordHere 3 (some .boolean), Cond.fieldLink RX2 26 "PartGraphs$Reader" "end" "I", Cond.fieldLink RX2 23 "PartGraphs$Reader" "begin" "I", Cond.fieldLink RX2 9 "PartGraphs$Reader" "text" "[C", Cond.methodLink RX2 79 yJ0_length_8abf5, Cond.instanceMethod yJ0_length_8abf5, Cond.selects RJ0 yJ0_length_8abf5 yJ0_length_8abf5, Cond.initialized RJ0, Cond.code yJ0_length_8abf5 cJ0_length_8abf5 1 (some .int), Cond.fieldLink RJ0 9 "java/lang/String" "value" "[B", Cond.methodLink RJ0 335 yJ0_coder_7d493, Cond.instanceMethod yJ0_coder_7d493, Cond.selects RJ0 yJ0_coder_7d493 yJ0_coder_7d493]
def wsX2_readSentence_r2 : List Cond := [Cond.code yJ0_coder_7d493 cJ0_coder_7d493 1 (some .byte), Cond.fieldLink RJ0 38 "java/lang/String" "COMPACT_STRINGS" "Z", Cond.fieldLink RJ0 15 "java/lang/String" "coder" "B", Cond.methodLink RX2 83 yJ0_charAt_5068e, Cond.instanceMethod yJ0_charAt_5068e, Cond.selects RJ0 yJ0_charAt_5068e yJ0_charAt_5068e, Cond.code yJ0_charAt_5068e cJ0_charAt_5068e 2 (some .char), Cond.methodLink RJ0 492 yJ0_isLatin1_aae02, Cond.instanceMethod yJ0_isLatin1_aae02, Cond.selects RJ0 yJ0_isLatin1_aae02 yJ0_isLatin1_aae02, Cond.code yJ0_isLatin1_aae02 cJ0_isLatin1_aae02 1 (some .boolean), Cond.methodLink RJ0 495 yJ1_charAt_3b067, Cond.static yJ1_charAt_3b067, Cond.initialized RJ1, Cond.code yJ1_charAt_3b067 cJ1_charAt_3b067 2 (some .char), Cond.methodLink RJ1 9 yJ0_checkIndex_df160, Cond.static yJ0_checkIndex_df160, Cond.code yJ0_checkIndex_df160 cJ0_checkIndex_df160 2 none, Cond.fieldLink RJ0 1053 "jdk/internal/util/Preconditions" "SIOOBE_FORMATTER" "Ljava/util/function/BiFunction;", Cond.methodLink RJ0 1059 yJ3_checkIndex_8e157, Cond.static yJ3_checkIndex_8e157, Cond.initialized RJ3, Cond.code yJ3_checkIndex_8e157 cJ3_checkIndex_8e157 3 (some .int), Cond.methodLink RJ0 498 yJ2_charAt_3b067]
def wsX2_readSentence_r3 : List Cond := [Cond.static yJ2_charAt_3b067, Cond.initialized RJ2, Cond.code yJ2_charAt_3b067 cJ2_charAt_3b067 2 (some .char), Cond.methodLink RJ2 67 yJ2_checkIndex_2214a, Cond.static yJ2_checkIndex_2214a, Cond.code yJ2_checkIndex_2214a cJ2_checkIndex_2214a 2 none, Cond.methodLink RJ2 48 yJ2_length_9d52b, Cond.static yJ2_length_9d52b, Cond.code yJ2_length_9d52b cJ2_length_9d52b 1 (some .int), Cond.methodLink RJ2 414 yJ0_checkIndex_df160, Cond.methodLink RJ2 71 yJ2_getChar_3b067, Cond.static yJ2_getChar_3b067, Cond.code yJ2_getChar_3b067 cJ2_getChar_3b067 2 (some .char), Cond.fieldLink RJ2 44 "java/lang/StringUTF16" "$assertionsDisabled" "Z", Cond.fieldLink RJ2 59 "java/lang/StringUTF16" "HI_BYTE_SHIFT" "I", Cond.fieldLink RJ2 63 "java/lang/StringUTF16" "LO_BYTE_SHIFT" "I", Cond.methodLink RX2 41 yX2_canGoOn, Cond.instanceMethod yX2_canGoOn, Cond.selects RX2 yX2_canGoOn yX2_canGoOn, Cond.code yX2_canGoOn cX2_canGoOn 5 (some .boolean), Cond.methodLink RX2 59 yX1_allows, Cond.instanceMethod yX1_allows, Cond.selects RX1 yX1_allows yX1_allows, Cond.initialized RX1]
def wsX2_readSentence_r4 : List Cond := [Cond.code yX1_allows cX1_allows 5 (some .boolean), Cond.fieldLink RX1 93 "PartGraphs$1" "$SwitchMap$PartGraphs$Verb" "[I", Cond.methodLink RX1 98 ⟨"PartGraphs$Verb", "ordinal", "()I"⟩, Cond.sameMethod "PartGraphs$Verb" "java/lang/Enum" "ordinal" "()I", Cond.selects RX4 ⟨"PartGraphs$Verb", "ordinal", "()I"⟩ yJx29ce0_ordinal_8abf5, Cond.instanceMethod yJx29ce0_ordinal_8abf5, Cond.initialized RJx29ce0, Cond.code yJx29ce0_ordinal_8abf5 cJx29ce0_ordinal_8abf5 1 (some .int), Cond.fieldLink RJx29ce0 7 "java/lang/Enum" "ordinal" "I", Cond.methodLink RX1 56 yX1_allowsPart, Cond.instanceMethod yX1_allowsPart, Cond.selects RX1 yX1_allowsPart yX1_allowsPart, Cond.code yX1_allowsPart cX1_allowsPart 4 (some .boolean), Cond.fieldLink RX1 43 "PartGraphs$Product" "partCount" "I", Cond.constantLong RX1 54 (1000000), Cond.static yX5_isBelow, Cond.initialized RX5, Cond.code yX5_isBelow cX5_isBelow 2 (some .boolean), Cond.methodLink RX1 74 yX1_allowsCover, Cond.instanceMethod yX1_allowsCover, Cond.selects RX1 yX1_allowsCover yX1_allowsCover, Cond.code yX1_allowsCover cX1_allowsCover 3 (some .boolean), Cond.fieldLink RX1 19 "PartGraphs$Product" "coverers" "[I", Cond.methodLink RX1 64 yX1_areTwoParts]
def wsX2_readSentence_r5 : List Cond := [Cond.instanceMethod yX1_areTwoParts, Cond.selects RX1 yX1_areTwoParts yX1_areTwoParts, Cond.code yX1_areTwoParts cX1_areTwoParts 3 (some .boolean), Cond.static yX5_contains, Cond.code yX5_contains cX5_contains 2 (some .boolean), Cond.methodLink RX1 77 yX1_allowsBar, Cond.instanceMethod yX1_allowsBar, Cond.selects RX1 yX1_allowsBar yX1_allowsBar, Cond.code yX1_allowsBar cX1_allowsBar 4 (some .boolean), Cond.fieldLink RX1 22 "PartGraphs$Product" "bars" "[I", Cond.methodLink RX1 60 yX1_barIndex, Cond.static yX1_barIndex, Cond.code yX1_barIndex cX1_barIndex 2 (some .int), Cond.methodLink RX1 67 yX1_allowsFastening, Cond.instanceMethod yX1_allowsFastening, Cond.selects RX1 yX1_allowsFastening yX1_allowsFastening, Cond.code yX1_allowsFastening cX1_allowsFastening 4 (some .boolean), Cond.fieldLink RX1 47 "PartGraphs$Product" "fasteningCount" "I", Cond.methodLink RX1 84 yX1_allowsHazard, Cond.instanceMethod yX1_allowsHazard, Cond.selects RX1 yX1_allowsHazard yX1_allowsHazard, Cond.code yX1_allowsHazard cX1_allowsHazard 3 (some .boolean), Cond.fieldLink RX1 25 "PartGraphs$Product" "hazards" "[I", Cond.methodLink RX1 80 yX1_hasPart]
def wsX2_readSentence_r6 : List Cond := [Cond.instanceMethod yX1_hasPart, Cond.selects RX1 yX1_hasPart yX1_hasPart, Cond.code yX1_hasPart cX1_hasPart 2 (some .boolean), Cond.methodLink RX1 87 yX1_allowsOption, Cond.instanceMethod yX1_allowsOption, Cond.selects RX1 yX1_allowsOption yX1_allowsOption, Cond.code yX1_allowsOption cX1_allowsOption 3 (some .boolean), Cond.fieldLink RX1 28 "PartGraphs$Product" "families" "[I", Cond.methodLink RX1 90 yX1_allowsDamage, Cond.instanceMethod yX1_allowsDamage, Cond.selects RX1 yX1_allowsDamage yX1_allowsDamage, Cond.code yX1_allowsDamage cX1_allowsDamage 3 (some .boolean), Cond.methodLink RX2 29 yX2_findWord, Cond.instanceMethod yX2_findWord, Cond.selects RX2 yX2_findWord yX2_findWord, Cond.code yX2_findWord cX2_findWord 1 (some .boolean), Cond.fieldLink RX2 19 "PartGraphs$Reader" "length" "I", Cond.methodLink RX2 63 yX2_isBlankAt, Cond.instanceMethod yX2_isBlankAt, Cond.selects RX2 yX2_isBlankAt yX2_isBlankAt, Cond.code yX2_isBlankAt cX2_isBlankAt 2 (some .boolean), Cond.methodLink RX2 49 yX2_numberHere, Cond.instanceMethod yX2_numberHere, Cond.selects RX2 yX2_numberHere yX2_numberHere]
def wsX2_readSentence_r7 : List Cond := [Cond.code yX2_numberHere cX2_numberHere 3 (some .int), Cond.methodLink RX2 53 yX1_carryOut, Cond.instanceMethod yX1_carryOut, Cond.selects RX1 yX1_carryOut yX1_carryOut, Cond.code yX1_carryOut cX1_carryOut 5 none, Cond.methodLink RX1 104 yX1_addPart, Cond.instanceMethod yX1_addPart, Cond.selects RX1 yX1_addPart yX1_addPart, Cond.code yX1_addPart cX1_addPart 6 (some .int), Cond.fieldLink RX1 9 "PartGraphs$Product" "kinds" "[I", Cond.fieldLink RX1 15 "PartGraphs$Product" "grams" "[J", Cond.fieldLink RX1 31 "PartGraphs$Product" "damages" "[I", Cond.methodLink RX1 108 yX1_addCover, Cond.instanceMethod yX1_addCover, Cond.selects RX1 yX1_addCover yX1_addCover, Cond.code yX1_addCover cX1_addCover 3 (some .boolean), Cond.methodLink RX1 111 yX1_addBar, Cond.instanceMethod yX1_addBar, Cond.selects RX1 yX1_addBar yX1_addBar, Cond.code yX1_addBar cX1_addBar 4 (some .boolean), Cond.methodLink RX1 114 yX1_addFastening, Cond.instanceMethod yX1_addFastening, Cond.selects RX1 yX1_addFastening yX1_addFastening, Cond.code yX1_addFastening cX1_addFastening 5 (some .int)]
def wsX2_readSentence_r8 : List Cond := [Cond.fieldLink RX1 34 "PartGraphs$Product" "firstEnds" "[I", Cond.fieldLink RX1 37 "PartGraphs$Product" "secondEnds" "[I", Cond.fieldLink RX1 40 "PartGraphs$Product" "fasteningKinds" "[I", Cond.methodLink RX1 118 yX1_addHazard, Cond.instanceMethod yX1_addHazard, Cond.selects RX1 yX1_addHazard yX1_addHazard, Cond.code yX1_addHazard cX1_addHazard 3 (some .boolean), Cond.methodLink RX1 121 yX1_addOption, Cond.instanceMethod yX1_addOption, Cond.selects RX1 yX1_addOption yX1_addOption, Cond.code yX1_addOption cX1_addOption 3 (some .boolean), Cond.methodLink RX1 124 yX1_setDamage, Cond.instanceMethod yX1_setDamage, Cond.selects RX1 yX1_setDamage yX1_setDamage, Cond.code yX1_setDamage cX1_setDamage 4 (some .int)]
def wsX2_readSentence : List Cond := .code yX2_readSentence cX2_readSentence 5 (some .boolean) :: ((wsX2_readSentence_r1 ++ (wsX2_readSentence_r2 ++ (wsX2_readSentence_r3 ++ (wsX2_readSentence_r4 ++ (wsX2_readSentence_r5 ++ (wsX2_readSentence_r6 ++ (wsX2_readSentence_r7 ++ wsX2_readSentence_r8))))))) ++ wsX20 ++ wsX10)
def wsX2_readAll_r1 : List Cond := [Cond.fieldLink RX2 23 "PartGraphs$Reader" "begin" "I", Cond.fieldLink RX2 26 "PartGraphs$Reader" "end" "I", Cond.methodLink RX2 29 yX2_findWord, Cond.instanceMethod yX2_findWord, Cond.selects RX2 yX2_findWord yX2_findWord, Cond.initialized RX2, Cond.code yX2_findWord cX2_findWord 1 (some .boolean), Cond.fieldLink RX2 19 "PartGraphs$Reader" "length" "I", Cond.methodLink RX2 63 yX2_isBlankAt, Cond.instanceMethod yX2_isBlankAt, Cond.selects RX2 yX2_isBlankAt yX2_isBlankAt, Cond.code yX2_isBlankAt cX2_isBlankAt 2 (some .boolean), Cond.fieldLink RX2 9 "PartGraphs$Reader" "text" "[C", Cond.methodLink RX2 33 yX2_readSentence, Cond.instanceMethod yX2_readSentence, Cond.selects RX2 yX2_readSentence yX2_readSentence, Cond.code yX2_readSentence cX2_readSentence 5 (some .boolean), Cond.fieldLink RX2 45 "PartGraphs$Verb" "numbers" "I", Cond.fieldLink RX2 15 "PartGraphs$Reader" "numbers" "[I", Cond.methodLink RX2 37 yX2_verbHere, Cond.instanceMethod yX2_verbHere, Cond.selects RX2 yX2_verbHere yX2_verbHere, Cond.code yX2_verbHere cX2_verbHere 2 (some (.object "PartGraphs$Verb")), Cond.fieldLink RX2 71 "PartGraphs$Verb" "word" "Ljava/lang/String;"]
def wsX2_readAll_r2 : List Cond := [Cond.methodLink RX2 75 yX2_isWordHere, Cond.instanceMethod yX2_isWordHere, Cond.selects RX2 yX2_isWordHere yX2_isWordHere, Cond.code yX2_isWordHere cX2_isWordHere 3 (some .boolean), Cond.methodLink RX2 79 yJ0_length_8abf5, Cond.instanceMethod yJ0_length_8abf5, Cond.selects RJ0 yJ0_length_8abf5 yJ0_length_8abf5, Cond.initialized RJ0, Cond.code yJ0_length_8abf5 cJ0_length_8abf5 1 (some .int), Cond.fieldLink RJ0 9 "java/lang/String" "value" "[B", Cond.methodLink RJ0 335 yJ0_coder_7d493, Cond.instanceMethod yJ0_coder_7d493, Cond.selects RJ0 yJ0_coder_7d493 yJ0_coder_7d493, Cond.code yJ0_coder_7d493 cJ0_coder_7d493 1 (some .byte), Cond.fieldLink RJ0 38 "java/lang/String" "COMPACT_STRINGS" "Z", Cond.fieldLink RJ0 15 "java/lang/String" "coder" "B", Cond.methodLink RX2 83 yJ0_charAt_5068e, Cond.instanceMethod yJ0_charAt_5068e, Cond.selects RJ0 yJ0_charAt_5068e yJ0_charAt_5068e, Cond.code yJ0_charAt_5068e cJ0_charAt_5068e 2 (some .char), Cond.methodLink RJ0 492 yJ0_isLatin1_aae02, Cond.instanceMethod yJ0_isLatin1_aae02, Cond.selects RJ0 yJ0_isLatin1_aae02 yJ0_isLatin1_aae02, Cond.code yJ0_isLatin1_aae02 cJ0_isLatin1_aae02 1 (some .boolean)]
def wsX2_readAll_r3 : List Cond := [Cond.methodLink RJ0 495 yJ1_charAt_3b067, Cond.static yJ1_charAt_3b067, Cond.initialized RJ1, Cond.code yJ1_charAt_3b067 cJ1_charAt_3b067 2 (some .char), Cond.methodLink RJ1 9 yJ0_checkIndex_df160, Cond.static yJ0_checkIndex_df160, Cond.code yJ0_checkIndex_df160 cJ0_checkIndex_df160 2 none, Cond.fieldLink RJ0 1053 "jdk/internal/util/Preconditions" "SIOOBE_FORMATTER" "Ljava/util/function/BiFunction;", Cond.methodLink RJ0 1059 yJ3_checkIndex_8e157, Cond.static yJ3_checkIndex_8e157, Cond.initialized RJ3, Cond.code yJ3_checkIndex_8e157 cJ3_checkIndex_8e157 3 (some .int), Cond.methodLink RJ0 498 yJ2_charAt_3b067, Cond.static yJ2_charAt_3b067, Cond.initialized RJ2, Cond.code yJ2_charAt_3b067 cJ2_charAt_3b067 2 (some .char), Cond.methodLink RJ2 67 yJ2_checkIndex_2214a, Cond.static yJ2_checkIndex_2214a, Cond.code yJ2_checkIndex_2214a cJ2_checkIndex_2214a 2 none, Cond.methodLink RJ2 48 yJ2_length_9d52b, Cond.static yJ2_length_9d52b, Cond.code yJ2_length_9d52b cJ2_length_9d52b 1 (some .int), Cond.methodLink RJ2 414 yJ0_checkIndex_df160, Cond.methodLink RJ2 71 yJ2_getChar_3b067]
def wsX2_readAll_r4 : List Cond := [Cond.static yJ2_getChar_3b067, Cond.code yJ2_getChar_3b067 cJ2_getChar_3b067 2 (some .char), Cond.fieldLink RJ2 44 "java/lang/StringUTF16" "$assertionsDisabled" "Z", Cond.fieldLink RJ2 59 "java/lang/StringUTF16" "HI_BYTE_SHIFT" "I", Cond.fieldLink RJ2 63 "java/lang/StringUTF16" "LO_BYTE_SHIFT" "I", Cond.methodLink RX2 41 yX2_canGoOn, Cond.instanceMethod yX2_canGoOn, Cond.selects RX2 yX2_canGoOn yX2_canGoOn, Cond.code yX2_canGoOn cX2_canGoOn 5 (some .boolean), Cond.methodLink RX2 59 yX1_allows, Cond.instanceMethod yX1_allows, Cond.selects RX1 yX1_allows yX1_allows, Cond.initialized RX1, Cond.code yX1_allows cX1_allows 5 (some .boolean), Cond.fieldLink RX1 93 "PartGraphs$1" "$SwitchMap$PartGraphs$Verb" "[I", Cond.methodLink RX1 98 ⟨"PartGraphs$Verb", "ordinal", "()I"⟩, Cond.sameMethod "PartGraphs$Verb" "java/lang/Enum" "ordinal" "()I", Cond.selects RX4 ⟨"PartGraphs$Verb", "ordinal", "()I"⟩ yJx29ce0_ordinal_8abf5, Cond.instanceMethod yJx29ce0_ordinal_8abf5, Cond.initialized RJx29ce0, Cond.code yJx29ce0_ordinal_8abf5 cJx29ce0_ordinal_8abf5 1 (some .int), Cond.fieldLink RJx29ce0 7 "java/lang/Enum" "ordinal" "I", Cond.methodLink RX1 56 yX1_allowsPart, Cond.instanceMethod yX1_allowsPart]
def wsX2_readAll_r5 : List Cond := [Cond.selects RX1 yX1_allowsPart yX1_allowsPart, Cond.code yX1_allowsPart cX1_allowsPart 4 (some .boolean), Cond.fieldLink RX1 43 "PartGraphs$Product" "partCount" "I", Cond.constantLong RX1 54 (1000000), Cond.static yX5_isBelow, Cond.initialized RX5, Cond.code yX5_isBelow cX5_isBelow 2 (some .boolean), Cond.methodLink RX1 74 yX1_allowsCover, Cond.instanceMethod yX1_allowsCover, Cond.selects RX1 yX1_allowsCover yX1_allowsCover, Cond.code yX1_allowsCover cX1_allowsCover 3 (some .boolean), Cond.fieldLink RX1 19 "PartGraphs$Product" "coverers" "[I", Cond.methodLink RX1 64 yX1_areTwoParts, Cond.instanceMethod yX1_areTwoParts, Cond.selects RX1 yX1_areTwoParts yX1_areTwoParts, Cond.code yX1_areTwoParts cX1_areTwoParts 3 (some .boolean), Cond.static yX5_contains, Cond.code yX5_contains cX5_contains 2 (some .boolean), Cond.methodLink RX1 77 yX1_allowsBar, Cond.instanceMethod yX1_allowsBar, Cond.selects RX1 yX1_allowsBar yX1_allowsBar, Cond.code yX1_allowsBar cX1_allowsBar 4 (some .boolean), Cond.fieldLink RX1 22 "PartGraphs$Product" "bars" "[I", Cond.methodLink RX1 60 yX1_barIndex]
def wsX2_readAll_r6 : List Cond := [Cond.static yX1_barIndex, Cond.code yX1_barIndex cX1_barIndex 2 (some .int), Cond.methodLink RX1 67 yX1_allowsFastening, Cond.instanceMethod yX1_allowsFastening, Cond.selects RX1 yX1_allowsFastening yX1_allowsFastening, Cond.code yX1_allowsFastening cX1_allowsFastening 4 (some .boolean), Cond.fieldLink RX1 47 "PartGraphs$Product" "fasteningCount" "I", Cond.methodLink RX1 84 yX1_allowsHazard, Cond.instanceMethod yX1_allowsHazard, Cond.selects RX1 yX1_allowsHazard yX1_allowsHazard, Cond.code yX1_allowsHazard cX1_allowsHazard 3 (some .boolean), Cond.fieldLink RX1 25 "PartGraphs$Product" "hazards" "[I", Cond.methodLink RX1 80 yX1_hasPart, Cond.instanceMethod yX1_hasPart, Cond.selects RX1 yX1_hasPart yX1_hasPart, Cond.code yX1_hasPart cX1_hasPart 2 (some .boolean), Cond.methodLink RX1 87 yX1_allowsOption, Cond.instanceMethod yX1_allowsOption, Cond.selects RX1 yX1_allowsOption yX1_allowsOption, Cond.code yX1_allowsOption cX1_allowsOption 3 (some .boolean), Cond.fieldLink RX1 28 "PartGraphs$Product" "families" "[I", Cond.methodLink RX1 90 yX1_allowsDamage, Cond.instanceMethod yX1_allowsDamage, Cond.selects RX1 yX1_allowsDamage yX1_allowsDamage]
def wsX2_readAll_r7 : List Cond := [Cond.code yX1_allowsDamage cX1_allowsDamage 3 (some .boolean), Cond.methodLink RX2 49 yX2_numberHere, Cond.instanceMethod yX2_numberHere, Cond.selects RX2 yX2_numberHere yX2_numberHere, Cond.code yX2_numberHere cX2_numberHere 3 (some .int), Cond.methodLink RX2 53 yX1_carryOut, Cond.instanceMethod yX1_carryOut, Cond.selects RX1 yX1_carryOut yX1_carryOut, Cond.code yX1_carryOut cX1_carryOut 5 none, Cond.methodLink RX1 104 yX1_addPart, Cond.instanceMethod yX1_addPart, Cond.selects RX1 yX1_addPart yX1_addPart, Cond.code yX1_addPart cX1_addPart 6 (some .int), Cond.fieldLink RX1 9 "PartGraphs$Product" "kinds" "[I", Cond.fieldLink RX1 15 "PartGraphs$Product" "grams" "[J", Cond.fieldLink RX1 31 "PartGraphs$Product" "damages" "[I", Cond.methodLink RX1 108 yX1_addCover, Cond.instanceMethod yX1_addCover, Cond.selects RX1 yX1_addCover yX1_addCover, Cond.code yX1_addCover cX1_addCover 3 (some .boolean), Cond.methodLink RX1 111 yX1_addBar, Cond.instanceMethod yX1_addBar, Cond.selects RX1 yX1_addBar yX1_addBar, Cond.code yX1_addBar cX1_addBar 4 (some .boolean)]
def wsX2_readAll_r8 : List Cond := [Cond.methodLink RX1 114 yX1_addFastening, Cond.instanceMethod yX1_addFastening, Cond.selects RX1 yX1_addFastening yX1_addFastening, Cond.code yX1_addFastening cX1_addFastening 5 (some .int), Cond.fieldLink RX1 34 "PartGraphs$Product" "firstEnds" "[I", Cond.fieldLink RX1 37 "PartGraphs$Product" "secondEnds" "[I", Cond.fieldLink RX1 40 "PartGraphs$Product" "fasteningKinds" "[I", Cond.methodLink RX1 118 yX1_addHazard, Cond.instanceMethod yX1_addHazard, Cond.selects RX1 yX1_addHazard yX1_addHazard, Cond.code yX1_addHazard cX1_addHazard 3 (some .boolean), Cond.methodLink RX1 121 yX1_addOption, Cond.instanceMethod yX1_addOption, Cond.selects RX1 yX1_addOption yX1_addOption, Cond.code yX1_addOption cX1_addOption 3 (some .boolean), Cond.methodLink RX1 124 yX1_setDamage, Cond.instanceMethod yX1_setDamage, Cond.selects RX1 yX1_setDamage yX1_setDamage, Cond.code yX1_setDamage cX1_setDamage 4 (some .int)]
def wsX2_readAll : List Cond := .code yX2_readAll cX2_readAll 3 (some .boolean) :: ((wsX2_readAll_r1 ++ (wsX2_readAll_r2 ++ (wsX2_readAll_r3 ++ (wsX2_readAll_r4 ++ (wsX2_readAll_r5 ++ (wsX2_readAll_r6 ++ (wsX2_readAll_r7 ++ wsX2_readAll_r8))))))) ++ wsX20 ++ wsX10)
def wsX3_init : List Cond := .code yX3_init cX3_init 1 none :: ([.methodLink RX3 3 objectInit, .instanceMethod objectInit, .code objectInit ⟨#[0xb1]⟩ 1 none])
def wsX3_tellByte : List Cond := .code yX3_tellByte cX3_tellByte 2 none :: ([.fieldLink RX3 9 "PartGraphs$Teller" "left" "I", .fieldLink RX3 15 "PartGraphs$Teller" "found" "I"] ++ wsX30)
def wsX3_tellWord_r1 : List Cond := [Cond.fieldLink RX3 121 "PartGraphs$Verb" "word" "Ljava/lang/String;", Cond.methodLink RX3 125 yJ0_length_8abf5, Cond.instanceMethod yJ0_length_8abf5, Cond.selects RJ0 yJ0_length_8abf5 yJ0_length_8abf5, Cond.initialized RJ0, Cond.code yJ0_length_8abf5 cJ0_length_8abf5 1 (some .int), Cond.fieldLink RJ0 9 "java/lang/String" "value" "[B", Cond.methodLink RJ0 335 yJ0_coder_7d493, Cond.instanceMethod yJ0_coder_7d493, Cond.selects RJ0 yJ0_coder_7d493 yJ0_coder_7d493, Cond.code yJ0_coder_7d493 cJ0_coder_7d493 1 (some .byte), Cond.fieldLink RJ0 38 "java/lang/String" "COMPACT_STRINGS" "Z", Cond.fieldLink RJ0 15 "java/lang/String" "coder" "B", Cond.methodLink RX3 131 yJ0_charAt_5068e, Cond.instanceMethod yJ0_charAt_5068e, Cond.selects RJ0 yJ0_charAt_5068e yJ0_charAt_5068e, Cond.code yJ0_charAt_5068e cJ0_charAt_5068e 2 (some .char), Cond.methodLink RJ0 492 yJ0_isLatin1_aae02, Cond.instanceMethod yJ0_isLatin1_aae02, Cond.selects RJ0 yJ0_isLatin1_aae02 yJ0_isLatin1_aae02, Cond.code yJ0_isLatin1_aae02 cJ0_isLatin1_aae02 1 (some .boolean), Cond.methodLink RJ0 495 yJ1_charAt_3b067, Cond.static yJ1_charAt_3b067, Cond.initialized RJ1]
def wsX3_tellWord_r2 : List Cond := [Cond.code yJ1_charAt_3b067 cJ1_charAt_3b067 2 (some .char), Cond.methodLink RJ1 9 yJ0_checkIndex_df160, Cond.static yJ0_checkIndex_df160, Cond.code yJ0_checkIndex_df160 cJ0_checkIndex_df160 2 none, Cond.fieldLink RJ0 1053 "jdk/internal/util/Preconditions" "SIOOBE_FORMATTER" "Ljava/util/function/BiFunction;", Cond.methodLink RJ0 1059 yJ3_checkIndex_8e157, Cond.static yJ3_checkIndex_8e157, Cond.initialized RJ3, Cond.code yJ3_checkIndex_8e157 cJ3_checkIndex_8e157 3 (some .int), Cond.methodLink RJ0 498 yJ2_charAt_3b067, Cond.static yJ2_charAt_3b067, Cond.initialized RJ2, Cond.code yJ2_charAt_3b067 cJ2_charAt_3b067 2 (some .char), Cond.methodLink RJ2 67 yJ2_checkIndex_2214a, Cond.static yJ2_checkIndex_2214a, Cond.code yJ2_checkIndex_2214a cJ2_checkIndex_2214a 2 none, Cond.methodLink RJ2 48 yJ2_length_9d52b, Cond.static yJ2_length_9d52b, Cond.code yJ2_length_9d52b cJ2_length_9d52b 1 (some .int), Cond.methodLink RJ2 414 yJ0_checkIndex_df160, Cond.methodLink RJ2 71 yJ2_getChar_3b067, Cond.static yJ2_getChar_3b067, Cond.code yJ2_getChar_3b067 cJ2_getChar_3b067 2 (some .char), Cond.fieldLink RJ2 44 "java/lang/StringUTF16" "$assertionsDisabled" "Z"]
def wsX3_tellWord_r3 : List Cond := [Cond.fieldLink RJ2 59 "java/lang/StringUTF16" "HI_BYTE_SHIFT" "I", Cond.fieldLink RJ2 63 "java/lang/StringUTF16" "LO_BYTE_SHIFT" "I", Cond.methodLink RX3 135 yX3_tellByte, Cond.instanceMethod yX3_tellByte, Cond.selects RX3 yX3_tellByte yX3_tellByte, Cond.initialized RX3, Cond.code yX3_tellByte cX3_tellByte 2 none, Cond.fieldLink RX3 9 "PartGraphs$Teller" "left" "I", Cond.fieldLink RX3 15 "PartGraphs$Teller" "found" "I"]
def wsX3_tellWord : List Cond := .code yX3_tellWord cX3_tellWord 3 none :: ((wsX3_tellWord_r1 ++ (wsX3_tellWord_r2 ++ wsX3_tellWord_r3)) ++ wsX30)
def wsX3_tellNumber : List Cond := .code yX3_tellNumber cX3_tellNumber 6 none :: ([.constantLong RX3 139 (10), .methodLink RX3 135 yX3_tellByte, .instanceMethod yX3_tellByte, .selects RX3 yX3_tellByte yX3_tellByte, .initialized RX3, .code yX3_tellByte cX3_tellByte 2 none, .fieldLink RX3 9 "PartGraphs$Teller" "left" "I", .fieldLink RX3 15 "PartGraphs$Teller" "found" "I"] ++ wsX30)
def wsX3_tellParts_r1 : List Cond := [Cond.fieldLink RX3 22 "PartGraphs$Product" "partCount" "I", Cond.fieldLink RX3 9 "PartGraphs$Teller" "left" "I", Cond.fieldLink RX3 34 "PartGraphs$Verb" "PART" "LPartGraphs$Verb;", Cond.fieldLink RX3 44 "PartGraphs$Product" "kinds" "[I", Cond.fieldLink RX3 52 "PartGraphs$Product" "grams" "[J", Cond.methodLink RX3 40 yX3_tellWord, Cond.instanceMethod yX3_tellWord, Cond.selects RX3 yX3_tellWord yX3_tellWord, Cond.initialized RX3, Cond.code yX3_tellWord cX3_tellWord 3 none, Cond.fieldLink RX3 121 "PartGraphs$Verb" "word" "Ljava/lang/String;", Cond.methodLink RX3 125 yJ0_length_8abf5, Cond.instanceMethod yJ0_length_8abf5, Cond.selects RJ0 yJ0_length_8abf5 yJ0_length_8abf5, Cond.initialized RJ0, Cond.code yJ0_length_8abf5 cJ0_length_8abf5 1 (some .int), Cond.fieldLink RJ0 9 "java/lang/String" "value" "[B", Cond.methodLink RJ0 335 yJ0_coder_7d493, Cond.instanceMethod yJ0_coder_7d493, Cond.selects RJ0 yJ0_coder_7d493 yJ0_coder_7d493, Cond.code yJ0_coder_7d493 cJ0_coder_7d493 1 (some .byte), Cond.fieldLink RJ0 38 "java/lang/String" "COMPACT_STRINGS" "Z", Cond.fieldLink RJ0 15 "java/lang/String" "coder" "B", Cond.methodLink RX3 131 yJ0_charAt_5068e]
def wsX3_tellParts_r2 : List Cond := [Cond.instanceMethod yJ0_charAt_5068e, Cond.selects RJ0 yJ0_charAt_5068e yJ0_charAt_5068e, Cond.code yJ0_charAt_5068e cJ0_charAt_5068e 2 (some .char), Cond.methodLink RJ0 492 yJ0_isLatin1_aae02, Cond.instanceMethod yJ0_isLatin1_aae02, Cond.selects RJ0 yJ0_isLatin1_aae02 yJ0_isLatin1_aae02, Cond.code yJ0_isLatin1_aae02 cJ0_isLatin1_aae02 1 (some .boolean), Cond.methodLink RJ0 495 yJ1_charAt_3b067, Cond.static yJ1_charAt_3b067, Cond.initialized RJ1, Cond.code yJ1_charAt_3b067 cJ1_charAt_3b067 2 (some .char), Cond.methodLink RJ1 9 yJ0_checkIndex_df160, Cond.static yJ0_checkIndex_df160, Cond.code yJ0_checkIndex_df160 cJ0_checkIndex_df160 2 none, Cond.fieldLink RJ0 1053 "jdk/internal/util/Preconditions" "SIOOBE_FORMATTER" "Ljava/util/function/BiFunction;", Cond.methodLink RJ0 1059 yJ3_checkIndex_8e157, Cond.static yJ3_checkIndex_8e157, Cond.initialized RJ3, Cond.code yJ3_checkIndex_8e157 cJ3_checkIndex_8e157 3 (some .int), Cond.methodLink RJ0 498 yJ2_charAt_3b067, Cond.static yJ2_charAt_3b067, Cond.initialized RJ2, Cond.code yJ2_charAt_3b067 cJ2_charAt_3b067 2 (some .char), Cond.methodLink RJ2 67 yJ2_checkIndex_2214a]
def wsX3_tellParts_r3 : List Cond := [Cond.static yJ2_checkIndex_2214a, Cond.code yJ2_checkIndex_2214a cJ2_checkIndex_2214a 2 none, Cond.methodLink RJ2 48 yJ2_length_9d52b, Cond.static yJ2_length_9d52b, Cond.code yJ2_length_9d52b cJ2_length_9d52b 1 (some .int), Cond.methodLink RJ2 414 yJ0_checkIndex_df160, Cond.methodLink RJ2 71 yJ2_getChar_3b067, Cond.static yJ2_getChar_3b067, Cond.code yJ2_getChar_3b067 cJ2_getChar_3b067 2 (some .char), Cond.fieldLink RJ2 44 "java/lang/StringUTF16" "$assertionsDisabled" "Z", Cond.fieldLink RJ2 59 "java/lang/StringUTF16" "HI_BYTE_SHIFT" "I", Cond.fieldLink RJ2 63 "java/lang/StringUTF16" "LO_BYTE_SHIFT" "I", Cond.methodLink RX3 135 yX3_tellByte, Cond.instanceMethod yX3_tellByte, Cond.selects RX3 yX3_tellByte yX3_tellByte, Cond.code yX3_tellByte cX3_tellByte 2 none, Cond.fieldLink RX3 15 "PartGraphs$Teller" "found" "I", Cond.methodLink RX3 48 yX3_tellNumber, Cond.instanceMethod yX3_tellNumber, Cond.selects RX3 yX3_tellNumber yX3_tellNumber, Cond.code yX3_tellNumber cX3_tellNumber 6 none, Cond.constantLong RX3 139 (10)]
def wsX3_tellParts : List Cond := .code yX3_tellParts cX3_tellParts 3 none :: ((wsX3_tellParts_r1 ++ (wsX3_tellParts_r2 ++ wsX3_tellParts_r3)) ++ wsX10 ++ wsX30)
def wsX3_tellPair_r1 : List Cond := [Cond.methodLink RX3 40 yX3_tellWord, Cond.instanceMethod yX3_tellWord, Cond.selects RX3 yX3_tellWord yX3_tellWord, Cond.initialized RX3, Cond.code yX3_tellWord cX3_tellWord 3 none, Cond.fieldLink RX3 121 "PartGraphs$Verb" "word" "Ljava/lang/String;", Cond.methodLink RX3 125 yJ0_length_8abf5, Cond.instanceMethod yJ0_length_8abf5, Cond.selects RJ0 yJ0_length_8abf5 yJ0_length_8abf5, Cond.initialized RJ0, Cond.code yJ0_length_8abf5 cJ0_length_8abf5 1 (some .int), Cond.fieldLink RJ0 9 "java/lang/String" "value" "[B", Cond.methodLink RJ0 335 yJ0_coder_7d493, Cond.instanceMethod yJ0_coder_7d493, Cond.selects RJ0 yJ0_coder_7d493 yJ0_coder_7d493, Cond.code yJ0_coder_7d493 cJ0_coder_7d493 1 (some .byte), Cond.fieldLink RJ0 38 "java/lang/String" "COMPACT_STRINGS" "Z", Cond.fieldLink RJ0 15 "java/lang/String" "coder" "B", Cond.methodLink RX3 131 yJ0_charAt_5068e, Cond.instanceMethod yJ0_charAt_5068e, Cond.selects RJ0 yJ0_charAt_5068e yJ0_charAt_5068e, Cond.code yJ0_charAt_5068e cJ0_charAt_5068e 2 (some .char), Cond.methodLink RJ0 492 yJ0_isLatin1_aae02, Cond.instanceMethod yJ0_isLatin1_aae02]
def wsX3_tellPair_r2 : List Cond := [Cond.selects RJ0 yJ0_isLatin1_aae02 yJ0_isLatin1_aae02, Cond.code yJ0_isLatin1_aae02 cJ0_isLatin1_aae02 1 (some .boolean), Cond.methodLink RJ0 495 yJ1_charAt_3b067, Cond.static yJ1_charAt_3b067, Cond.initialized RJ1, Cond.code yJ1_charAt_3b067 cJ1_charAt_3b067 2 (some .char), Cond.methodLink RJ1 9 yJ0_checkIndex_df160, Cond.static yJ0_checkIndex_df160, Cond.code yJ0_checkIndex_df160 cJ0_checkIndex_df160 2 none, Cond.fieldLink RJ0 1053 "jdk/internal/util/Preconditions" "SIOOBE_FORMATTER" "Ljava/util/function/BiFunction;", Cond.methodLink RJ0 1059 yJ3_checkIndex_8e157, Cond.static yJ3_checkIndex_8e157, Cond.initialized RJ3, Cond.code yJ3_checkIndex_8e157 cJ3_checkIndex_8e157 3 (some .int), Cond.methodLink RJ0 498 yJ2_charAt_3b067, Cond.static yJ2_charAt_3b067, Cond.initialized RJ2, Cond.code yJ2_charAt_3b067 cJ2_charAt_3b067 2 (some .char), Cond.methodLink RJ2 67 yJ2_checkIndex_2214a, Cond.static yJ2_checkIndex_2214a, Cond.code yJ2_checkIndex_2214a cJ2_checkIndex_2214a 2 none, Cond.methodLink RJ2 48 yJ2_length_9d52b, Cond.static yJ2_length_9d52b, Cond.code yJ2_length_9d52b cJ2_length_9d52b 1 (some .int)]
def wsX3_tellPair_r3 : List Cond := [Cond.methodLink RJ2 414 yJ0_checkIndex_df160, Cond.methodLink RJ2 71 yJ2_getChar_3b067, Cond.static yJ2_getChar_3b067, Cond.code yJ2_getChar_3b067 cJ2_getChar_3b067 2 (some .char), Cond.fieldLink RJ2 44 "java/lang/StringUTF16" "$assertionsDisabled" "Z", Cond.fieldLink RJ2 59 "java/lang/StringUTF16" "HI_BYTE_SHIFT" "I", Cond.fieldLink RJ2 63 "java/lang/StringUTF16" "LO_BYTE_SHIFT" "I", Cond.methodLink RX3 135 yX3_tellByte, Cond.instanceMethod yX3_tellByte, Cond.selects RX3 yX3_tellByte yX3_tellByte, Cond.code yX3_tellByte cX3_tellByte 2 none, Cond.fieldLink RX3 9 "PartGraphs$Teller" "left" "I", Cond.fieldLink RX3 15 "PartGraphs$Teller" "found" "I", Cond.methodLink RX3 48 yX3_tellNumber, Cond.instanceMethod yX3_tellNumber, Cond.selects RX3 yX3_tellNumber yX3_tellNumber, Cond.code yX3_tellNumber cX3_tellNumber 6 none, Cond.constantLong RX3 139 (10)]
def wsX3_tellPair : List Cond := .code yX3_tellPair cX3_tellPair 4 none :: ((wsX3_tellPair_r1 ++ (wsX3_tellPair_r2 ++ wsX3_tellPair_r3)) ++ wsX30)
def wsX3_tellEach_r1 : List Cond := [Cond.static yX5_contains, Cond.initialized RX5, Cond.code yX5_contains cX5_contains 2 (some .boolean), Cond.methodLink RX3 90 yX3_tellPair, Cond.instanceMethod yX3_tellPair, Cond.selects RX3 yX3_tellPair yX3_tellPair, Cond.initialized RX3, Cond.code yX3_tellPair cX3_tellPair 4 none, Cond.methodLink RX3 40 yX3_tellWord, Cond.instanceMethod yX3_tellWord, Cond.selects RX3 yX3_tellWord yX3_tellWord, Cond.code yX3_tellWord cX3_tellWord 3 none, Cond.fieldLink RX3 121 "PartGraphs$Verb" "word" "Ljava/lang/String;", Cond.methodLink RX3 125 yJ0_length_8abf5, Cond.instanceMethod yJ0_length_8abf5, Cond.selects RJ0 yJ0_length_8abf5 yJ0_length_8abf5, Cond.initialized RJ0, Cond.code yJ0_length_8abf5 cJ0_length_8abf5 1 (some .int), Cond.fieldLink RJ0 9 "java/lang/String" "value" "[B", Cond.methodLink RJ0 335 yJ0_coder_7d493, Cond.instanceMethod yJ0_coder_7d493, Cond.selects RJ0 yJ0_coder_7d493 yJ0_coder_7d493, Cond.code yJ0_coder_7d493 cJ0_coder_7d493 1 (some .byte), Cond.fieldLink RJ0 38 "java/lang/String" "COMPACT_STRINGS" "Z"]
def wsX3_tellEach_r2 : List Cond := [Cond.fieldLink RJ0 15 "java/lang/String" "coder" "B", Cond.methodLink RX3 131 yJ0_charAt_5068e, Cond.instanceMethod yJ0_charAt_5068e, Cond.selects RJ0 yJ0_charAt_5068e yJ0_charAt_5068e, Cond.code yJ0_charAt_5068e cJ0_charAt_5068e 2 (some .char), Cond.methodLink RJ0 492 yJ0_isLatin1_aae02, Cond.instanceMethod yJ0_isLatin1_aae02, Cond.selects RJ0 yJ0_isLatin1_aae02 yJ0_isLatin1_aae02, Cond.code yJ0_isLatin1_aae02 cJ0_isLatin1_aae02 1 (some .boolean), Cond.methodLink RJ0 495 yJ1_charAt_3b067, Cond.static yJ1_charAt_3b067, Cond.initialized RJ1, Cond.code yJ1_charAt_3b067 cJ1_charAt_3b067 2 (some .char), Cond.methodLink RJ1 9 yJ0_checkIndex_df160, Cond.static yJ0_checkIndex_df160, Cond.code yJ0_checkIndex_df160 cJ0_checkIndex_df160 2 none, Cond.fieldLink RJ0 1053 "jdk/internal/util/Preconditions" "SIOOBE_FORMATTER" "Ljava/util/function/BiFunction;", Cond.methodLink RJ0 1059 yJ3_checkIndex_8e157, Cond.static yJ3_checkIndex_8e157, Cond.initialized RJ3, Cond.code yJ3_checkIndex_8e157 cJ3_checkIndex_8e157 3 (some .int), Cond.methodLink RJ0 498 yJ2_charAt_3b067, Cond.static yJ2_charAt_3b067, Cond.initialized RJ2]
def wsX3_tellEach_r3 : List Cond := [Cond.code yJ2_charAt_3b067 cJ2_charAt_3b067 2 (some .char), Cond.methodLink RJ2 67 yJ2_checkIndex_2214a, Cond.static yJ2_checkIndex_2214a, Cond.code yJ2_checkIndex_2214a cJ2_checkIndex_2214a 2 none, Cond.methodLink RJ2 48 yJ2_length_9d52b, Cond.static yJ2_length_9d52b, Cond.code yJ2_length_9d52b cJ2_length_9d52b 1 (some .int), Cond.methodLink RJ2 414 yJ0_checkIndex_df160, Cond.methodLink RJ2 71 yJ2_getChar_3b067, Cond.static yJ2_getChar_3b067, Cond.code yJ2_getChar_3b067 cJ2_getChar_3b067 2 (some .char), Cond.fieldLink RJ2 44 "java/lang/StringUTF16" "$assertionsDisabled" "Z", Cond.fieldLink RJ2 59 "java/lang/StringUTF16" "HI_BYTE_SHIFT" "I", Cond.fieldLink RJ2 63 "java/lang/StringUTF16" "LO_BYTE_SHIFT" "I", Cond.methodLink RX3 135 yX3_tellByte, Cond.instanceMethod yX3_tellByte, Cond.selects RX3 yX3_tellByte yX3_tellByte, Cond.code yX3_tellByte cX3_tellByte 2 none, Cond.fieldLink RX3 9 "PartGraphs$Teller" "left" "I", Cond.fieldLink RX3 15 "PartGraphs$Teller" "found" "I", Cond.methodLink RX3 48 yX3_tellNumber, Cond.instanceMethod yX3_tellNumber, Cond.selects RX3 yX3_tellNumber yX3_tellNumber, Cond.code yX3_tellNumber cX3_tellNumber 6 none]
def wsX3_tellEach_r4 : List Cond := [Cond.constantLong RX3 139 (10)]
def wsX3_tellEach : List Cond := .code yX3_tellEach cX3_tellEach 5 none :: ((wsX3_tellEach_r1 ++ (wsX3_tellEach_r2 ++ (wsX3_tellEach_r3 ++ wsX3_tellEach_r4))) ++ wsX30)
def wsX3_tellBars_r1 : List Cond := [Cond.fieldLink RX3 118 "PartGraphs$Verb" "WAY" "LPartGraphs$Verb;", Cond.static yX5_contains, Cond.initialized RX5, Cond.code yX5_contains cX5_contains 2 (some .boolean), Cond.methodLink RX3 90 yX3_tellPair, Cond.instanceMethod yX3_tellPair, Cond.selects RX3 yX3_tellPair yX3_tellPair, Cond.initialized RX3, Cond.code yX3_tellPair cX3_tellPair 4 none, Cond.methodLink RX3 40 yX3_tellWord, Cond.instanceMethod yX3_tellWord, Cond.selects RX3 yX3_tellWord yX3_tellWord, Cond.code yX3_tellWord cX3_tellWord 3 none, Cond.fieldLink RX3 121 "PartGraphs$Verb" "word" "Ljava/lang/String;", Cond.methodLink RX3 125 yJ0_length_8abf5, Cond.instanceMethod yJ0_length_8abf5, Cond.selects RJ0 yJ0_length_8abf5 yJ0_length_8abf5, Cond.initialized RJ0, Cond.code yJ0_length_8abf5 cJ0_length_8abf5 1 (some .int), Cond.fieldLink RJ0 9 "java/lang/String" "value" "[B", Cond.methodLink RJ0 335 yJ0_coder_7d493, Cond.instanceMethod yJ0_coder_7d493, Cond.selects RJ0 yJ0_coder_7d493 yJ0_coder_7d493, Cond.code yJ0_coder_7d493 cJ0_coder_7d493 1 (some .byte)]
def wsX3_tellBars_r2 : List Cond := [Cond.fieldLink RJ0 38 "java/lang/String" "COMPACT_STRINGS" "Z", Cond.fieldLink RJ0 15 "java/lang/String" "coder" "B", Cond.methodLink RX3 131 yJ0_charAt_5068e, Cond.instanceMethod yJ0_charAt_5068e, Cond.selects RJ0 yJ0_charAt_5068e yJ0_charAt_5068e, Cond.code yJ0_charAt_5068e cJ0_charAt_5068e 2 (some .char), Cond.methodLink RJ0 492 yJ0_isLatin1_aae02, Cond.instanceMethod yJ0_isLatin1_aae02, Cond.selects RJ0 yJ0_isLatin1_aae02 yJ0_isLatin1_aae02, Cond.code yJ0_isLatin1_aae02 cJ0_isLatin1_aae02 1 (some .boolean), Cond.methodLink RJ0 495 yJ1_charAt_3b067, Cond.static yJ1_charAt_3b067, Cond.initialized RJ1, Cond.code yJ1_charAt_3b067 cJ1_charAt_3b067 2 (some .char), Cond.methodLink RJ1 9 yJ0_checkIndex_df160, Cond.static yJ0_checkIndex_df160, Cond.code yJ0_checkIndex_df160 cJ0_checkIndex_df160 2 none, Cond.fieldLink RJ0 1053 "jdk/internal/util/Preconditions" "SIOOBE_FORMATTER" "Ljava/util/function/BiFunction;", Cond.methodLink RJ0 1059 yJ3_checkIndex_8e157, Cond.static yJ3_checkIndex_8e157, Cond.initialized RJ3, Cond.code yJ3_checkIndex_8e157 cJ3_checkIndex_8e157 3 (some .int), Cond.methodLink RJ0 498 yJ2_charAt_3b067, Cond.static yJ2_charAt_3b067]
def wsX3_tellBars_r3 : List Cond := [Cond.initialized RJ2, Cond.code yJ2_charAt_3b067 cJ2_charAt_3b067 2 (some .char), Cond.methodLink RJ2 67 yJ2_checkIndex_2214a, Cond.static yJ2_checkIndex_2214a, Cond.code yJ2_checkIndex_2214a cJ2_checkIndex_2214a 2 none, Cond.methodLink RJ2 48 yJ2_length_9d52b, Cond.static yJ2_length_9d52b, Cond.code yJ2_length_9d52b cJ2_length_9d52b 1 (some .int), Cond.methodLink RJ2 414 yJ0_checkIndex_df160, Cond.methodLink RJ2 71 yJ2_getChar_3b067, Cond.static yJ2_getChar_3b067, Cond.code yJ2_getChar_3b067 cJ2_getChar_3b067 2 (some .char), Cond.fieldLink RJ2 44 "java/lang/StringUTF16" "$assertionsDisabled" "Z", Cond.fieldLink RJ2 59 "java/lang/StringUTF16" "HI_BYTE_SHIFT" "I", Cond.fieldLink RJ2 63 "java/lang/StringUTF16" "LO_BYTE_SHIFT" "I", Cond.methodLink RX3 135 yX3_tellByte, Cond.instanceMethod yX3_tellByte, Cond.selects RX3 yX3_tellByte yX3_tellByte, Cond.code yX3_tellByte cX3_tellByte 2 none, Cond.fieldLink RX3 9 "PartGraphs$Teller" "left" "I", Cond.fieldLink RX3 15 "PartGraphs$Teller" "found" "I", Cond.methodLink RX3 48 yX3_tellNumber, Cond.instanceMethod yX3_tellNumber, Cond.selects RX3 yX3_tellNumber yX3_tellNumber]
def wsX3_tellBars_r4 : List Cond := [Cond.code yX3_tellNumber cX3_tellNumber 6 none, Cond.constantLong RX3 139 (10)]
def wsX3_tellBars : List Cond := .code yX3_tellBars cX3_tellBars 5 none :: ((wsX3_tellBars_r1 ++ (wsX3_tellBars_r2 ++ (wsX3_tellBars_r3 ++ wsX3_tellBars_r4))) ++ wsX30)
def wsX3_tellDetails_r1 : List Cond := [Cond.fieldLink RX3 56 "PartGraphs$Verb" "COVER" "LPartGraphs$Verb;", Cond.fieldLink RX3 67 "PartGraphs$Product" "bars" "[I", Cond.fieldLink RX3 78 "PartGraphs$Verb" "HAZARD" "LPartGraphs$Verb;", Cond.fieldLink RX3 81 "PartGraphs$Product" "hazards" "[I", Cond.fieldLink RX3 84 "PartGraphs$Product" "families" "[I", Cond.fieldLink RX3 87 "PartGraphs$Verb" "OPTION" "LPartGraphs$Verb;", Cond.fieldLink RX3 93 "PartGraphs$Product" "damages" "[I", Cond.fieldLink RX3 96 "PartGraphs$Verb" "DAMAGE" "LPartGraphs$Verb;", Cond.methodLink RX3 59 yX1_coveredBy, Cond.instanceMethod yX1_coveredBy, Cond.selects RX1 yX1_coveredBy yX1_coveredBy, Cond.initialized RX1, Cond.code yX1_coveredBy cX1_coveredBy 4 (some .int), Cond.fieldLink RX1 43 "PartGraphs$Product" "partCount" "I", Cond.fieldLink RX1 19 "PartGraphs$Product" "coverers" "[I", Cond.static yX5_contains, Cond.initialized RX5, Cond.code yX5_contains cX5_contains 2 (some .boolean), Cond.methodLink RX3 63 yX3_tellEach, Cond.instanceMethod yX3_tellEach, Cond.selects RX3 yX3_tellEach yX3_tellEach, Cond.initialized RX3, Cond.code yX3_tellEach cX3_tellEach 5 none, Cond.methodLink RX3 90 yX3_tellPair]
def wsX3_tellDetails_r2 : List Cond := [Cond.instanceMethod yX3_tellPair, Cond.selects RX3 yX3_tellPair yX3_tellPair, Cond.code yX3_tellPair cX3_tellPair 4 none, Cond.methodLink RX3 40 yX3_tellWord, Cond.instanceMethod yX3_tellWord, Cond.selects RX3 yX3_tellWord yX3_tellWord, Cond.code yX3_tellWord cX3_tellWord 3 none, Cond.fieldLink RX3 121 "PartGraphs$Verb" "word" "Ljava/lang/String;", Cond.methodLink RX3 125 yJ0_length_8abf5, Cond.instanceMethod yJ0_length_8abf5, Cond.selects RJ0 yJ0_length_8abf5 yJ0_length_8abf5, Cond.initialized RJ0, Cond.code yJ0_length_8abf5 cJ0_length_8abf5 1 (some .int), Cond.fieldLink RJ0 9 "java/lang/String" "value" "[B", Cond.methodLink RJ0 335 yJ0_coder_7d493, Cond.instanceMethod yJ0_coder_7d493, Cond.selects RJ0 yJ0_coder_7d493 yJ0_coder_7d493, Cond.code yJ0_coder_7d493 cJ0_coder_7d493 1 (some .byte), Cond.fieldLink RJ0 38 "java/lang/String" "COMPACT_STRINGS" "Z", Cond.fieldLink RJ0 15 "java/lang/String" "coder" "B", Cond.methodLink RX3 131 yJ0_charAt_5068e, Cond.instanceMethod yJ0_charAt_5068e, Cond.selects RJ0 yJ0_charAt_5068e yJ0_charAt_5068e, Cond.code yJ0_charAt_5068e cJ0_charAt_5068e 2 (some .char)]
def wsX3_tellDetails_r3 : List Cond := [Cond.methodLink RJ0 492 yJ0_isLatin1_aae02, Cond.instanceMethod yJ0_isLatin1_aae02, Cond.selects RJ0 yJ0_isLatin1_aae02 yJ0_isLatin1_aae02, Cond.code yJ0_isLatin1_aae02 cJ0_isLatin1_aae02 1 (some .boolean), Cond.methodLink RJ0 495 yJ1_charAt_3b067, Cond.static yJ1_charAt_3b067, Cond.initialized RJ1, Cond.code yJ1_charAt_3b067 cJ1_charAt_3b067 2 (some .char), Cond.methodLink RJ1 9 yJ0_checkIndex_df160, Cond.static yJ0_checkIndex_df160, Cond.code yJ0_checkIndex_df160 cJ0_checkIndex_df160 2 none, Cond.fieldLink RJ0 1053 "jdk/internal/util/Preconditions" "SIOOBE_FORMATTER" "Ljava/util/function/BiFunction;", Cond.methodLink RJ0 1059 yJ3_checkIndex_8e157, Cond.static yJ3_checkIndex_8e157, Cond.initialized RJ3, Cond.code yJ3_checkIndex_8e157 cJ3_checkIndex_8e157 3 (some .int), Cond.methodLink RJ0 498 yJ2_charAt_3b067, Cond.static yJ2_charAt_3b067, Cond.initialized RJ2, Cond.code yJ2_charAt_3b067 cJ2_charAt_3b067 2 (some .char), Cond.methodLink RJ2 67 yJ2_checkIndex_2214a, Cond.static yJ2_checkIndex_2214a, Cond.code yJ2_checkIndex_2214a cJ2_checkIndex_2214a 2 none, Cond.methodLink RJ2 48 yJ2_length_9d52b]
def wsX3_tellDetails_r4 : List Cond := [Cond.static yJ2_length_9d52b, Cond.code yJ2_length_9d52b cJ2_length_9d52b 1 (some .int), Cond.methodLink RJ2 414 yJ0_checkIndex_df160, Cond.methodLink RJ2 71 yJ2_getChar_3b067, Cond.static yJ2_getChar_3b067, Cond.code yJ2_getChar_3b067 cJ2_getChar_3b067 2 (some .char), Cond.fieldLink RJ2 44 "java/lang/StringUTF16" "$assertionsDisabled" "Z", Cond.fieldLink RJ2 59 "java/lang/StringUTF16" "HI_BYTE_SHIFT" "I", Cond.fieldLink RJ2 63 "java/lang/StringUTF16" "LO_BYTE_SHIFT" "I", Cond.methodLink RX3 135 yX3_tellByte, Cond.instanceMethod yX3_tellByte, Cond.selects RX3 yX3_tellByte yX3_tellByte, Cond.code yX3_tellByte cX3_tellByte 2 none, Cond.fieldLink RX3 9 "PartGraphs$Teller" "left" "I", Cond.fieldLink RX3 15 "PartGraphs$Teller" "found" "I", Cond.methodLink RX3 48 yX3_tellNumber, Cond.instanceMethod yX3_tellNumber, Cond.selects RX3 yX3_tellNumber yX3_tellNumber, Cond.code yX3_tellNumber cX3_tellNumber 6 none, Cond.constantLong RX3 139 (10), Cond.static yX1_barIndex, Cond.code yX1_barIndex cX1_barIndex 2 (some .int), Cond.methodLink RX3 74 yX3_tellBars, Cond.instanceMethod yX3_tellBars]
def wsX3_tellDetails_r5 : List Cond := [Cond.selects RX3 yX3_tellBars yX3_tellBars, Cond.code yX3_tellBars cX3_tellBars 5 none, Cond.fieldLink RX3 118 "PartGraphs$Verb" "WAY" "LPartGraphs$Verb;"]
def wsX3_tellDetails : List Cond := .code yX3_tellDetails cX3_tellDetails 4 none :: ((wsX3_tellDetails_r1 ++ (wsX3_tellDetails_r2 ++ (wsX3_tellDetails_r3 ++ (wsX3_tellDetails_r4 ++ wsX3_tellDetails_r5)))) ++ wsX10 ++ wsX30)
def wsX3_tellFastenings_r1 : List Cond := [Cond.fieldLink RX3 99 "PartGraphs$Product" "fasteningCount" "I", Cond.fieldLink RX3 9 "PartGraphs$Teller" "left" "I", Cond.fieldLink RX3 102 "PartGraphs$Verb" "FASTEN" "LPartGraphs$Verb;", Cond.fieldLink RX3 105 "PartGraphs$Product" "firstEnds" "[I", Cond.fieldLink RX3 108 "PartGraphs$Product" "secondEnds" "[I", Cond.fieldLink RX3 111 "PartGraphs$Product" "fasteningKinds" "[I", Cond.methodLink RX3 90 yX3_tellPair, Cond.instanceMethod yX3_tellPair, Cond.selects RX3 yX3_tellPair yX3_tellPair, Cond.initialized RX3, Cond.code yX3_tellPair cX3_tellPair 4 none, Cond.methodLink RX3 40 yX3_tellWord, Cond.instanceMethod yX3_tellWord, Cond.selects RX3 yX3_tellWord yX3_tellWord, Cond.code yX3_tellWord cX3_tellWord 3 none, Cond.fieldLink RX3 121 "PartGraphs$Verb" "word" "Ljava/lang/String;", Cond.methodLink RX3 125 yJ0_length_8abf5, Cond.instanceMethod yJ0_length_8abf5, Cond.selects RJ0 yJ0_length_8abf5 yJ0_length_8abf5, Cond.initialized RJ0, Cond.code yJ0_length_8abf5 cJ0_length_8abf5 1 (some .int), Cond.fieldLink RJ0 9 "java/lang/String" "value" "[B", Cond.methodLink RJ0 335 yJ0_coder_7d493, Cond.instanceMethod yJ0_coder_7d493]
def wsX3_tellFastenings_r2 : List Cond := [Cond.selects RJ0 yJ0_coder_7d493 yJ0_coder_7d493, Cond.code yJ0_coder_7d493 cJ0_coder_7d493 1 (some .byte), Cond.fieldLink RJ0 38 "java/lang/String" "COMPACT_STRINGS" "Z", Cond.fieldLink RJ0 15 "java/lang/String" "coder" "B", Cond.methodLink RX3 131 yJ0_charAt_5068e, Cond.instanceMethod yJ0_charAt_5068e, Cond.selects RJ0 yJ0_charAt_5068e yJ0_charAt_5068e, Cond.code yJ0_charAt_5068e cJ0_charAt_5068e 2 (some .char), Cond.methodLink RJ0 492 yJ0_isLatin1_aae02, Cond.instanceMethod yJ0_isLatin1_aae02, Cond.selects RJ0 yJ0_isLatin1_aae02 yJ0_isLatin1_aae02, Cond.code yJ0_isLatin1_aae02 cJ0_isLatin1_aae02 1 (some .boolean), Cond.methodLink RJ0 495 yJ1_charAt_3b067, Cond.static yJ1_charAt_3b067, Cond.initialized RJ1, Cond.code yJ1_charAt_3b067 cJ1_charAt_3b067 2 (some .char), Cond.methodLink RJ1 9 yJ0_checkIndex_df160, Cond.static yJ0_checkIndex_df160, Cond.code yJ0_checkIndex_df160 cJ0_checkIndex_df160 2 none, Cond.fieldLink RJ0 1053 "jdk/internal/util/Preconditions" "SIOOBE_FORMATTER" "Ljava/util/function/BiFunction;", Cond.methodLink RJ0 1059 yJ3_checkIndex_8e157, Cond.static yJ3_checkIndex_8e157, Cond.initialized RJ3, Cond.code yJ3_checkIndex_8e157 cJ3_checkIndex_8e157 3 (some .int)]
def wsX3_tellFastenings_r3 : List Cond := [Cond.methodLink RJ0 498 yJ2_charAt_3b067, Cond.static yJ2_charAt_3b067, Cond.initialized RJ2, Cond.code yJ2_charAt_3b067 cJ2_charAt_3b067 2 (some .char), Cond.methodLink RJ2 67 yJ2_checkIndex_2214a, Cond.static yJ2_checkIndex_2214a, Cond.code yJ2_checkIndex_2214a cJ2_checkIndex_2214a 2 none, Cond.methodLink RJ2 48 yJ2_length_9d52b, Cond.static yJ2_length_9d52b, Cond.code yJ2_length_9d52b cJ2_length_9d52b 1 (some .int), Cond.methodLink RJ2 414 yJ0_checkIndex_df160, Cond.methodLink RJ2 71 yJ2_getChar_3b067, Cond.static yJ2_getChar_3b067, Cond.code yJ2_getChar_3b067 cJ2_getChar_3b067 2 (some .char), Cond.fieldLink RJ2 44 "java/lang/StringUTF16" "$assertionsDisabled" "Z", Cond.fieldLink RJ2 59 "java/lang/StringUTF16" "HI_BYTE_SHIFT" "I", Cond.fieldLink RJ2 63 "java/lang/StringUTF16" "LO_BYTE_SHIFT" "I", Cond.methodLink RX3 135 yX3_tellByte, Cond.instanceMethod yX3_tellByte, Cond.selects RX3 yX3_tellByte yX3_tellByte, Cond.code yX3_tellByte cX3_tellByte 2 none, Cond.fieldLink RX3 15 "PartGraphs$Teller" "found" "I", Cond.methodLink RX3 48 yX3_tellNumber, Cond.instanceMethod yX3_tellNumber]
def wsX3_tellFastenings_r4 : List Cond := [Cond.selects RX3 yX3_tellNumber yX3_tellNumber, Cond.code yX3_tellNumber cX3_tellNumber 6 none, Cond.constantLong RX3 139 (10)]
def wsX3_tellFastenings : List Cond := .code yX3_tellFastenings cX3_tellFastenings 3 none :: ((wsX3_tellFastenings_r1 ++ (wsX3_tellFastenings_r2 ++ (wsX3_tellFastenings_r3 ++ wsX3_tellFastenings_r4))) ++ wsX10 ++ wsX30)
def wsX3_byteAt_r1 : List Cond := [Cond.fieldLink RX3 9 "PartGraphs$Teller" "left" "I", Cond.fieldLink RX3 15 "PartGraphs$Teller" "found" "I", Cond.fieldLink RX3 22 "PartGraphs$Product" "partCount" "I", Cond.methodLink RX3 18 yX3_tellParts, Cond.instanceMethod yX3_tellParts, Cond.selects RX3 yX3_tellParts yX3_tellParts, Cond.initialized RX3, Cond.code yX3_tellParts cX3_tellParts 3 none, Cond.fieldLink RX3 34 "PartGraphs$Verb" "PART" "LPartGraphs$Verb;", Cond.fieldLink RX3 44 "PartGraphs$Product" "kinds" "[I", Cond.fieldLink RX3 52 "PartGraphs$Product" "grams" "[J", Cond.methodLink RX3 40 yX3_tellWord, Cond.instanceMethod yX3_tellWord, Cond.selects RX3 yX3_tellWord yX3_tellWord, Cond.code yX3_tellWord cX3_tellWord 3 none, Cond.fieldLink RX3 121 "PartGraphs$Verb" "word" "Ljava/lang/String;", Cond.methodLink RX3 125 yJ0_length_8abf5, Cond.instanceMethod yJ0_length_8abf5, Cond.selects RJ0 yJ0_length_8abf5 yJ0_length_8abf5, Cond.initialized RJ0, Cond.code yJ0_length_8abf5 cJ0_length_8abf5 1 (some .int), Cond.fieldLink RJ0 9 "java/lang/String" "value" "[B", Cond.methodLink RJ0 335 yJ0_coder_7d493, Cond.instanceMethod yJ0_coder_7d493]
def wsX3_byteAt_r2 : List Cond := [Cond.selects RJ0 yJ0_coder_7d493 yJ0_coder_7d493, Cond.code yJ0_coder_7d493 cJ0_coder_7d493 1 (some .byte), Cond.fieldLink RJ0 38 "java/lang/String" "COMPACT_STRINGS" "Z", Cond.fieldLink RJ0 15 "java/lang/String" "coder" "B", Cond.methodLink RX3 131 yJ0_charAt_5068e, Cond.instanceMethod yJ0_charAt_5068e, Cond.selects RJ0 yJ0_charAt_5068e yJ0_charAt_5068e, Cond.code yJ0_charAt_5068e cJ0_charAt_5068e 2 (some .char), Cond.methodLink RJ0 492 yJ0_isLatin1_aae02, Cond.instanceMethod yJ0_isLatin1_aae02, Cond.selects RJ0 yJ0_isLatin1_aae02 yJ0_isLatin1_aae02, Cond.code yJ0_isLatin1_aae02 cJ0_isLatin1_aae02 1 (some .boolean), Cond.methodLink RJ0 495 yJ1_charAt_3b067, Cond.static yJ1_charAt_3b067, Cond.initialized RJ1, Cond.code yJ1_charAt_3b067 cJ1_charAt_3b067 2 (some .char), Cond.methodLink RJ1 9 yJ0_checkIndex_df160, Cond.static yJ0_checkIndex_df160, Cond.code yJ0_checkIndex_df160 cJ0_checkIndex_df160 2 none, Cond.fieldLink RJ0 1053 "jdk/internal/util/Preconditions" "SIOOBE_FORMATTER" "Ljava/util/function/BiFunction;", Cond.methodLink RJ0 1059 yJ3_checkIndex_8e157, Cond.static yJ3_checkIndex_8e157, Cond.initialized RJ3, Cond.code yJ3_checkIndex_8e157 cJ3_checkIndex_8e157 3 (some .int)]
def wsX3_byteAt_r3 : List Cond := [Cond.methodLink RJ0 498 yJ2_charAt_3b067, Cond.static yJ2_charAt_3b067, Cond.initialized RJ2, Cond.code yJ2_charAt_3b067 cJ2_charAt_3b067 2 (some .char), Cond.methodLink RJ2 67 yJ2_checkIndex_2214a, Cond.static yJ2_checkIndex_2214a, Cond.code yJ2_checkIndex_2214a cJ2_checkIndex_2214a 2 none, Cond.methodLink RJ2 48 yJ2_length_9d52b, Cond.static yJ2_length_9d52b, Cond.code yJ2_length_9d52b cJ2_length_9d52b 1 (some .int), Cond.methodLink RJ2 414 yJ0_checkIndex_df160, Cond.methodLink RJ2 71 yJ2_getChar_3b067, Cond.static yJ2_getChar_3b067, Cond.code yJ2_getChar_3b067 cJ2_getChar_3b067 2 (some .char), Cond.fieldLink RJ2 44 "java/lang/StringUTF16" "$assertionsDisabled" "Z", Cond.fieldLink RJ2 59 "java/lang/StringUTF16" "HI_BYTE_SHIFT" "I", Cond.fieldLink RJ2 63 "java/lang/StringUTF16" "LO_BYTE_SHIFT" "I", Cond.methodLink RX3 135 yX3_tellByte, Cond.instanceMethod yX3_tellByte, Cond.selects RX3 yX3_tellByte yX3_tellByte, Cond.code yX3_tellByte cX3_tellByte 2 none, Cond.methodLink RX3 48 yX3_tellNumber, Cond.instanceMethod yX3_tellNumber, Cond.selects RX3 yX3_tellNumber yX3_tellNumber]
def wsX3_byteAt_r4 : List Cond := [Cond.code yX3_tellNumber cX3_tellNumber 6 none, Cond.constantLong RX3 139 (10), Cond.methodLink RX3 27 yX3_tellDetails, Cond.instanceMethod yX3_tellDetails, Cond.selects RX3 yX3_tellDetails yX3_tellDetails, Cond.code yX3_tellDetails cX3_tellDetails 4 none, Cond.fieldLink RX3 56 "PartGraphs$Verb" "COVER" "LPartGraphs$Verb;", Cond.fieldLink RX3 67 "PartGraphs$Product" "bars" "[I", Cond.fieldLink RX3 78 "PartGraphs$Verb" "HAZARD" "LPartGraphs$Verb;", Cond.fieldLink RX3 81 "PartGraphs$Product" "hazards" "[I", Cond.fieldLink RX3 84 "PartGraphs$Product" "families" "[I", Cond.fieldLink RX3 87 "PartGraphs$Verb" "OPTION" "LPartGraphs$Verb;", Cond.fieldLink RX3 93 "PartGraphs$Product" "damages" "[I", Cond.fieldLink RX3 96 "PartGraphs$Verb" "DAMAGE" "LPartGraphs$Verb;", Cond.methodLink RX3 59 yX1_coveredBy, Cond.instanceMethod yX1_coveredBy, Cond.selects RX1 yX1_coveredBy yX1_coveredBy, Cond.initialized RX1, Cond.code yX1_coveredBy cX1_coveredBy 4 (some .int), Cond.fieldLink RX1 43 "PartGraphs$Product" "partCount" "I", Cond.fieldLink RX1 19 "PartGraphs$Product" "coverers" "[I", Cond.static yX5_contains, Cond.initialized RX5, Cond.code yX5_contains cX5_contains 2 (some .boolean)]
def wsX3_byteAt_r5 : List Cond := [Cond.methodLink RX3 63 yX3_tellEach, Cond.instanceMethod yX3_tellEach, Cond.selects RX3 yX3_tellEach yX3_tellEach, Cond.code yX3_tellEach cX3_tellEach 5 none, Cond.methodLink RX3 90 yX3_tellPair, Cond.instanceMethod yX3_tellPair, Cond.selects RX3 yX3_tellPair yX3_tellPair, Cond.code yX3_tellPair cX3_tellPair 4 none, Cond.static yX1_barIndex, Cond.code yX1_barIndex cX1_barIndex 2 (some .int), Cond.methodLink RX3 74 yX3_tellBars, Cond.instanceMethod yX3_tellBars, Cond.selects RX3 yX3_tellBars yX3_tellBars, Cond.code yX3_tellBars cX3_tellBars 5 none, Cond.fieldLink RX3 118 "PartGraphs$Verb" "WAY" "LPartGraphs$Verb;", Cond.methodLink RX3 31 yX3_tellFastenings, Cond.instanceMethod yX3_tellFastenings, Cond.selects RX3 yX3_tellFastenings yX3_tellFastenings, Cond.code yX3_tellFastenings cX3_tellFastenings 3 none, Cond.fieldLink RX3 99 "PartGraphs$Product" "fasteningCount" "I", Cond.fieldLink RX3 102 "PartGraphs$Verb" "FASTEN" "LPartGraphs$Verb;", Cond.fieldLink RX3 105 "PartGraphs$Product" "firstEnds" "[I", Cond.fieldLink RX3 108 "PartGraphs$Product" "secondEnds" "[I", Cond.fieldLink RX3 111 "PartGraphs$Product" "fasteningKinds" "[I"]
def wsX3_byteAt : List Cond := .code yX3_byteAt cX3_byteAt 4 (some .int) :: ((wsX3_byteAt_r1 ++ (wsX3_byteAt_r2 ++ (wsX3_byteAt_r3 ++ (wsX3_byteAt_r4 ++ wsX3_byteAt_r5)))) ++ wsX30 ++ wsX10)
def wsX5_init_r1 : List Cond := [Cond.methodLink RX5 1 objectInit, Cond.instanceMethod objectInit, Cond.code objectInit ⟨#[0xb1]⟩ 1 none, Cond.classLink RX5 7 RX2, Cond.instantiable RX2 5, Cond.initialized RX2, Cond.fieldLink RX5 10 "PartGraphs" "reader" "LPartGraphs$Reader;", Cond.classLink RX5 16 RX3, Cond.instantiable RX3 2, Cond.initialized RX3, Cond.fieldLink RX5 19 "PartGraphs" "teller" "LPartGraphs$Teller;", Cond.classLink RX5 23 RX1, Cond.instantiable RX1 12, Cond.initialized RX1, Cond.fieldLink RX5 26 "PartGraphs" "product" "LPartGraphs$Product;", Cond.fieldLink RX5 30 "PartGraphs" "draft" "LPartGraphs$Product;", Cond.methodLink RX5 9 yX2_init, Cond.instanceMethod yX2_init, Cond.code yX2_init cX2_init 1 none, Cond.methodLink RX2 3 objectInit, Cond.arrayClass .char, Cond.fieldLink RX2 9 "PartGraphs$Reader" "text" "[C", Cond.arrayClass .int, Cond.fieldLink RX2 15 "PartGraphs$Reader" "numbers" "[I"]
def wsX5_init_r2 : List Cond := [Cond.instanceMethod yX3_init, Cond.code yX3_init cX3_init 1 none, Cond.methodLink RX3 3 objectInit, Cond.methodLink RX5 25 yX1_init, Cond.instanceMethod yX1_init, Cond.code yX1_init cX1_init 1 none, Cond.methodLink RX1 3 objectInit, Cond.fieldLink RX1 9 "PartGraphs$Product" "kinds" "[I", Cond.arrayClass .long, Cond.fieldLink RX1 15 "PartGraphs$Product" "grams" "[J", Cond.fieldLink RX1 19 "PartGraphs$Product" "coverers" "[I", Cond.fieldLink RX1 22 "PartGraphs$Product" "bars" "[I", Cond.fieldLink RX1 25 "PartGraphs$Product" "hazards" "[I", Cond.fieldLink RX1 28 "PartGraphs$Product" "families" "[I", Cond.fieldLink RX1 31 "PartGraphs$Product" "damages" "[I", Cond.fieldLink RX1 34 "PartGraphs$Product" "firstEnds" "[I", Cond.fieldLink RX1 37 "PartGraphs$Product" "secondEnds" "[I", Cond.fieldLink RX1 40 "PartGraphs$Product" "fasteningKinds" "[I"]
def wsX5_init : List Cond := .code yX5_init cX5_init 1 none :: ((wsX5_init_r1 ++ wsX5_init_r2) ++ wsX20 ++ wsX50 ++ wsX30 ++ wsX10)
def wsX5_unit : List Cond := .code yX5_unit cX5_unit 2 (some .boolean) :: ([.fieldLink RX5 10 "PartGraphs" "reader" "LPartGraphs$Reader;", .methodLink RX5 33 yX2_take, .instanceMethod yX2_take, .selects RX2 yX2_take yX2_take, .initialized RX2, .code yX2_take cX2_take 2 (some .boolean), .fieldLink RX2 19 "PartGraphs$Reader" "length" "I", .fieldLink RX2 9 "PartGraphs$Reader" "text" "[C"] ++ wsX50 ++ wsX20)
def wsX5_read_r1 : List Cond := [Cond.fieldLink RX5 30 "PartGraphs" "draft" "LPartGraphs$Product;", Cond.fieldLink RX5 10 "PartGraphs" "reader" "LPartGraphs$Reader;", Cond.fieldLink RX5 26 "PartGraphs" "product" "LPartGraphs$Product;", Cond.fieldLink RX5 49 "PartGraphs$Product" "partCount" "I", Cond.methodLink RX5 37 yX1_clear, Cond.instanceMethod yX1_clear, Cond.selects RX1 yX1_clear yX1_clear, Cond.initialized RX1, Cond.code yX1_clear cX1_clear 1 none, Cond.fieldLink RX1 43 "PartGraphs$Product" "partCount" "I", Cond.fieldLink RX1 47 "PartGraphs$Product" "fasteningCount" "I", Cond.methodLink RX5 40 yX2_readAll, Cond.instanceMethod yX2_readAll, Cond.selects RX2 yX2_readAll yX2_readAll, Cond.initialized RX2, Cond.code yX2_readAll cX2_readAll 3 (some .boolean), Cond.fieldLink RX2 23 "PartGraphs$Reader" "begin" "I", Cond.fieldLink RX2 26 "PartGraphs$Reader" "end" "I", Cond.methodLink RX2 29 yX2_findWord, Cond.instanceMethod yX2_findWord, Cond.selects RX2 yX2_findWord yX2_findWord, Cond.code yX2_findWord cX2_findWord 1 (some .boolean), Cond.fieldLink RX2 19 "PartGraphs$Reader" "length" "I", Cond.methodLink RX2 63 yX2_isBlankAt]
def wsX5_read_r2 : List Cond := [Cond.instanceMethod yX2_isBlankAt, Cond.selects RX2 yX2_isBlankAt yX2_isBlankAt, Cond.code yX2_isBlankAt cX2_isBlankAt 2 (some .boolean), Cond.fieldLink RX2 9 "PartGraphs$Reader" "text" "[C", Cond.methodLink RX2 33 yX2_readSentence, Cond.instanceMethod yX2_readSentence, Cond.selects RX2 yX2_readSentence yX2_readSentence, Cond.code yX2_readSentence cX2_readSentence 5 (some .boolean), Cond.fieldLink RX2 45 "PartGraphs$Verb" "numbers" "I", Cond.fieldLink RX2 15 "PartGraphs$Reader" "numbers" "[I", Cond.methodLink RX2 37 yX2_verbHere, Cond.instanceMethod yX2_verbHere, Cond.selects RX2 yX2_verbHere yX2_verbHere, Cond.code yX2_verbHere cX2_verbHere 2 (some (.object "PartGraphs$Verb")), Cond.fieldLink RX2 71 "PartGraphs$Verb" "word" "Ljava/lang/String;", Cond.methodLink RX2 75 yX2_isWordHere, Cond.instanceMethod yX2_isWordHere, Cond.selects RX2 yX2_isWordHere yX2_isWordHere, Cond.code yX2_isWordHere cX2_isWordHere 3 (some .boolean), Cond.methodLink RX2 79 yJ0_length_8abf5, Cond.instanceMethod yJ0_length_8abf5, Cond.selects RJ0 yJ0_length_8abf5 yJ0_length_8abf5, Cond.initialized RJ0, Cond.code yJ0_length_8abf5 cJ0_length_8abf5 1 (some .int)]
def wsX5_read_r3 : List Cond := [Cond.fieldLink RJ0 9 "java/lang/String" "value" "[B", Cond.methodLink RJ0 335 yJ0_coder_7d493, Cond.instanceMethod yJ0_coder_7d493, Cond.selects RJ0 yJ0_coder_7d493 yJ0_coder_7d493, Cond.code yJ0_coder_7d493 cJ0_coder_7d493 1 (some .byte), Cond.fieldLink RJ0 38 "java/lang/String" "COMPACT_STRINGS" "Z", Cond.fieldLink RJ0 15 "java/lang/String" "coder" "B", Cond.methodLink RX2 83 yJ0_charAt_5068e, Cond.instanceMethod yJ0_charAt_5068e, Cond.selects RJ0 yJ0_charAt_5068e yJ0_charAt_5068e, Cond.code yJ0_charAt_5068e cJ0_charAt_5068e 2 (some .char), Cond.methodLink RJ0 492 yJ0_isLatin1_aae02, Cond.instanceMethod yJ0_isLatin1_aae02, Cond.selects RJ0 yJ0_isLatin1_aae02 yJ0_isLatin1_aae02, Cond.code yJ0_isLatin1_aae02 cJ0_isLatin1_aae02 1 (some .boolean), Cond.methodLink RJ0 495 yJ1_charAt_3b067, Cond.static yJ1_charAt_3b067, Cond.initialized RJ1, Cond.code yJ1_charAt_3b067 cJ1_charAt_3b067 2 (some .char), Cond.methodLink RJ1 9 yJ0_checkIndex_df160, Cond.static yJ0_checkIndex_df160, Cond.code yJ0_checkIndex_df160 cJ0_checkIndex_df160 2 none, Cond.fieldLink RJ0 1053 "jdk/internal/util/Preconditions" "SIOOBE_FORMATTER" "Ljava/util/function/BiFunction;", Cond.methodLink RJ0 1059 yJ3_checkIndex_8e157]
def wsX5_read_r4 : List Cond := [Cond.static yJ3_checkIndex_8e157, Cond.initialized RJ3, Cond.code yJ3_checkIndex_8e157 cJ3_checkIndex_8e157 3 (some .int), Cond.methodLink RJ0 498 yJ2_charAt_3b067, Cond.static yJ2_charAt_3b067, Cond.initialized RJ2, Cond.code yJ2_charAt_3b067 cJ2_charAt_3b067 2 (some .char), Cond.methodLink RJ2 67 yJ2_checkIndex_2214a, Cond.static yJ2_checkIndex_2214a, Cond.code yJ2_checkIndex_2214a cJ2_checkIndex_2214a 2 none, Cond.methodLink RJ2 48 yJ2_length_9d52b, Cond.static yJ2_length_9d52b, Cond.code yJ2_length_9d52b cJ2_length_9d52b 1 (some .int), Cond.methodLink RJ2 414 yJ0_checkIndex_df160, Cond.methodLink RJ2 71 yJ2_getChar_3b067, Cond.static yJ2_getChar_3b067, Cond.code yJ2_getChar_3b067 cJ2_getChar_3b067 2 (some .char), Cond.fieldLink RJ2 44 "java/lang/StringUTF16" "$assertionsDisabled" "Z", Cond.fieldLink RJ2 59 "java/lang/StringUTF16" "HI_BYTE_SHIFT" "I", Cond.fieldLink RJ2 63 "java/lang/StringUTF16" "LO_BYTE_SHIFT" "I", Cond.methodLink RX2 41 yX2_canGoOn, Cond.instanceMethod yX2_canGoOn, Cond.selects RX2 yX2_canGoOn yX2_canGoOn, Cond.code yX2_canGoOn cX2_canGoOn 5 (some .boolean)]
def wsX5_read_r5 : List Cond := [Cond.methodLink RX2 59 yX1_allows, Cond.instanceMethod yX1_allows, Cond.selects RX1 yX1_allows yX1_allows, Cond.code yX1_allows cX1_allows 5 (some .boolean), Cond.fieldLink RX1 93 "PartGraphs$1" "$SwitchMap$PartGraphs$Verb" "[I", Cond.methodLink RX1 98 ⟨"PartGraphs$Verb", "ordinal", "()I"⟩, Cond.sameMethod "PartGraphs$Verb" "java/lang/Enum" "ordinal" "()I", Cond.selects RX4 ⟨"PartGraphs$Verb", "ordinal", "()I"⟩ yJx29ce0_ordinal_8abf5, Cond.instanceMethod yJx29ce0_ordinal_8abf5, Cond.initialized RJx29ce0, Cond.code yJx29ce0_ordinal_8abf5 cJx29ce0_ordinal_8abf5 1 (some .int), Cond.fieldLink RJx29ce0 7 "java/lang/Enum" "ordinal" "I", Cond.methodLink RX1 56 yX1_allowsPart, Cond.instanceMethod yX1_allowsPart, Cond.selects RX1 yX1_allowsPart yX1_allowsPart, Cond.code yX1_allowsPart cX1_allowsPart 4 (some .boolean), Cond.constantLong RX1 54 (1000000), Cond.static yX5_isBelow, Cond.initialized RX5, Cond.code yX5_isBelow cX5_isBelow 2 (some .boolean), Cond.methodLink RX1 74 yX1_allowsCover, Cond.instanceMethod yX1_allowsCover, Cond.selects RX1 yX1_allowsCover yX1_allowsCover, Cond.code yX1_allowsCover cX1_allowsCover 3 (some .boolean)]
def wsX5_read_r6 : List Cond := [Cond.fieldLink RX1 19 "PartGraphs$Product" "coverers" "[I", Cond.methodLink RX1 64 yX1_areTwoParts, Cond.instanceMethod yX1_areTwoParts, Cond.selects RX1 yX1_areTwoParts yX1_areTwoParts, Cond.code yX1_areTwoParts cX1_areTwoParts 3 (some .boolean), Cond.static yX5_contains, Cond.code yX5_contains cX5_contains 2 (some .boolean), Cond.methodLink RX1 77 yX1_allowsBar, Cond.instanceMethod yX1_allowsBar, Cond.selects RX1 yX1_allowsBar yX1_allowsBar, Cond.code yX1_allowsBar cX1_allowsBar 4 (some .boolean), Cond.fieldLink RX1 22 "PartGraphs$Product" "bars" "[I", Cond.methodLink RX1 60 yX1_barIndex, Cond.static yX1_barIndex, Cond.code yX1_barIndex cX1_barIndex 2 (some .int), Cond.methodLink RX1 67 yX1_allowsFastening, Cond.instanceMethod yX1_allowsFastening, Cond.selects RX1 yX1_allowsFastening yX1_allowsFastening, Cond.code yX1_allowsFastening cX1_allowsFastening 4 (some .boolean), Cond.methodLink RX1 84 yX1_allowsHazard, Cond.instanceMethod yX1_allowsHazard, Cond.selects RX1 yX1_allowsHazard yX1_allowsHazard, Cond.code yX1_allowsHazard cX1_allowsHazard 3 (some .boolean), Cond.fieldLink RX1 25 "PartGraphs$Product" "hazards" "[I"]
def wsX5_read_r7 : List Cond := [Cond.methodLink RX1 80 yX1_hasPart, Cond.instanceMethod yX1_hasPart, Cond.selects RX1 yX1_hasPart yX1_hasPart, Cond.code yX1_hasPart cX1_hasPart 2 (some .boolean), Cond.methodLink RX1 87 yX1_allowsOption, Cond.instanceMethod yX1_allowsOption, Cond.selects RX1 yX1_allowsOption yX1_allowsOption, Cond.code yX1_allowsOption cX1_allowsOption 3 (some .boolean), Cond.fieldLink RX1 28 "PartGraphs$Product" "families" "[I", Cond.methodLink RX1 90 yX1_allowsDamage, Cond.instanceMethod yX1_allowsDamage, Cond.selects RX1 yX1_allowsDamage yX1_allowsDamage, Cond.code yX1_allowsDamage cX1_allowsDamage 3 (some .boolean), Cond.methodLink RX2 49 yX2_numberHere, Cond.instanceMethod yX2_numberHere, Cond.selects RX2 yX2_numberHere yX2_numberHere, Cond.code yX2_numberHere cX2_numberHere 3 (some .int), Cond.methodLink RX2 53 yX1_carryOut, Cond.instanceMethod yX1_carryOut, Cond.selects RX1 yX1_carryOut yX1_carryOut, Cond.code yX1_carryOut cX1_carryOut 5 none, Cond.methodLink RX1 104 yX1_addPart, Cond.instanceMethod yX1_addPart, Cond.selects RX1 yX1_addPart yX1_addPart]
def wsX5_read_r8 : List Cond := [Cond.code yX1_addPart cX1_addPart 6 (some .int), Cond.fieldLink RX1 9 "PartGraphs$Product" "kinds" "[I", Cond.fieldLink RX1 15 "PartGraphs$Product" "grams" "[J", Cond.fieldLink RX1 31 "PartGraphs$Product" "damages" "[I", Cond.methodLink RX1 108 yX1_addCover, Cond.instanceMethod yX1_addCover, Cond.selects RX1 yX1_addCover yX1_addCover, Cond.code yX1_addCover cX1_addCover 3 (some .boolean), Cond.methodLink RX1 111 yX1_addBar, Cond.instanceMethod yX1_addBar, Cond.selects RX1 yX1_addBar yX1_addBar, Cond.code yX1_addBar cX1_addBar 4 (some .boolean), Cond.methodLink RX1 114 yX1_addFastening, Cond.instanceMethod yX1_addFastening, Cond.selects RX1 yX1_addFastening yX1_addFastening, Cond.code yX1_addFastening cX1_addFastening 5 (some .int), Cond.fieldLink RX1 34 "PartGraphs$Product" "firstEnds" "[I", Cond.fieldLink RX1 37 "PartGraphs$Product" "secondEnds" "[I", Cond.fieldLink RX1 40 "PartGraphs$Product" "fasteningKinds" "[I", Cond.methodLink RX1 118 yX1_addHazard, Cond.instanceMethod yX1_addHazard, Cond.selects RX1 yX1_addHazard yX1_addHazard, Cond.code yX1_addHazard cX1_addHazard 3 (some .boolean), Cond.methodLink RX1 121 yX1_addOption]
def wsX5_read_r9 : List Cond := [Cond.instanceMethod yX1_addOption, Cond.selects RX1 yX1_addOption yX1_addOption, Cond.code yX1_addOption cX1_addOption 3 (some .boolean), Cond.methodLink RX1 124 yX1_setDamage, Cond.instanceMethod yX1_setDamage, Cond.selects RX1 yX1_setDamage yX1_setDamage, Cond.code yX1_setDamage cX1_setDamage 4 (some .int), Cond.methodLink RX5 44 yX2_wordBegin, Cond.instanceMethod yX2_wordBegin, Cond.selects RX2 yX2_wordBegin yX2_wordBegin, Cond.code yX2_wordBegin cX2_wordBegin 1 (some .int), Cond.methodLink RX5 48 yX2_clear, Cond.instanceMethod yX2_clear, Cond.selects RX2 yX2_clear yX2_clear, Cond.code yX2_clear cX2_clear 1 none]
def wsX5_read : List Cond := .code yX5_read cX5_read 4 (some .int) :: ((wsX5_read_r1 ++ (wsX5_read_r2 ++ (wsX5_read_r3 ++ (wsX5_read_r4 ++ (wsX5_read_r5 ++ (wsX5_read_r6 ++ (wsX5_read_r7 ++ (wsX5_read_r8 ++ wsX5_read_r9)))))))) ++ wsX50 ++ wsX10 ++ wsX20)
def wsX5_part_r1 : List Cond := [Cond.fieldLink RX5 26 "PartGraphs" "product" "LPartGraphs$Product;", Cond.methodLink RX5 53 yX1_addPart, Cond.instanceMethod yX1_addPart, Cond.selects RX1 yX1_addPart yX1_addPart, Cond.initialized RX1, Cond.code yX1_addPart cX1_addPart 6 (some .int), Cond.fieldLink RX1 43 "PartGraphs$Product" "partCount" "I", Cond.fieldLink RX1 9 "PartGraphs$Product" "kinds" "[I", Cond.fieldLink RX1 15 "PartGraphs$Product" "grams" "[J", Cond.fieldLink RX1 19 "PartGraphs$Product" "coverers" "[I", Cond.fieldLink RX1 22 "PartGraphs$Product" "bars" "[I", Cond.fieldLink RX1 25 "PartGraphs$Product" "hazards" "[I", Cond.fieldLink RX1 28 "PartGraphs$Product" "families" "[I", Cond.fieldLink RX1 31 "PartGraphs$Product" "damages" "[I", Cond.methodLink RX1 56 yX1_allowsPart, Cond.instanceMethod yX1_allowsPart, Cond.selects RX1 yX1_allowsPart yX1_allowsPart, Cond.code yX1_allowsPart cX1_allowsPart 4 (some .boolean), Cond.constantLong RX1 54 (1000000), Cond.static yX5_isBelow, Cond.initialized RX5, Cond.code yX5_isBelow cX5_isBelow 2 (some .boolean), Cond.methodLink RX1 60 yX1_barIndex, Cond.static yX1_barIndex]
def wsX5_part_r2 : List Cond := [Cond.code yX1_barIndex cX1_barIndex 2 (some .int)]
def wsX5_part : List Cond := .code yX5_part cX5_part 4 (some .int) :: ((wsX5_part_r1 ++ wsX5_part_r2) ++ wsX50 ++ wsX10)
def wsX5_fasten : List Cond := .code yX5_fasten cX5_fasten 4 (some .int) :: ([.fieldLink RX5 26 "PartGraphs" "product" "LPartGraphs$Product;", .methodLink RX5 57 yX1_addFastening, .instanceMethod yX1_addFastening, .selects RX1 yX1_addFastening yX1_addFastening, .initialized RX1, .code yX1_addFastening cX1_addFastening 5 (some .int), .fieldLink RX1 47 "PartGraphs$Product" "fasteningCount" "I", .fieldLink RX1 34 "PartGraphs$Product" "firstEnds" "[I", .fieldLink RX1 37 "PartGraphs$Product" "secondEnds" "[I", .fieldLink RX1 40 "PartGraphs$Product" "fasteningKinds" "[I", .methodLink RX1 67 yX1_allowsFastening, .instanceMethod yX1_allowsFastening, .selects RX1 yX1_allowsFastening yX1_allowsFastening, .code yX1_allowsFastening cX1_allowsFastening 4 (some .boolean), .methodLink RX1 64 yX1_areTwoParts, .instanceMethod yX1_areTwoParts, .selects RX1 yX1_areTwoParts yX1_areTwoParts, .code yX1_areTwoParts cX1_areTwoParts 3 (some .boolean), .fieldLink RX1 43 "PartGraphs$Product" "partCount" "I", .static yX5_isBelow, .initialized RX5, .code yX5_isBelow cX5_isBelow 2 (some .boolean)] ++ wsX50 ++ wsX10)
def wsX5_cover : List Cond := .code yX5_cover cX5_cover 3 (some .boolean) :: ([.fieldLink RX5 26 "PartGraphs" "product" "LPartGraphs$Product;", .methodLink RX5 61 yX1_addCover, .instanceMethod yX1_addCover, .selects RX1 yX1_addCover yX1_addCover, .initialized RX1, .code yX1_addCover cX1_addCover 3 (some .boolean), .fieldLink RX1 19 "PartGraphs$Product" "coverers" "[I", .methodLink RX1 74 yX1_allowsCover, .instanceMethod yX1_allowsCover, .selects RX1 yX1_allowsCover yX1_allowsCover, .code yX1_allowsCover cX1_allowsCover 3 (some .boolean), .methodLink RX1 64 yX1_areTwoParts, .instanceMethod yX1_areTwoParts, .selects RX1 yX1_areTwoParts yX1_areTwoParts, .code yX1_areTwoParts cX1_areTwoParts 3 (some .boolean), .fieldLink RX1 43 "PartGraphs$Product" "partCount" "I", .static yX5_contains, .initialized RX5, .code yX5_contains cX5_contains 2 (some .boolean)] ++ wsX50 ++ wsX10)
def wsX5_way_r1 : List Cond := [Cond.fieldLink RX5 26 "PartGraphs" "product" "LPartGraphs$Product;", Cond.classLink RX5 71 RJx00060, Cond.instantiable RJx00060 6, Cond.initialized RJx00060, Cond.methodLink RX5 65 yX1_hasPart, Cond.instanceMethod yX1_hasPart, Cond.selects RX1 yX1_hasPart yX1_hasPart, Cond.initialized RX1, Cond.code yX1_hasPart cX1_hasPart 2 (some .boolean), Cond.fieldLink RX1 43 "PartGraphs$Product" "partCount" "I", Cond.methodLink RX5 68 yX5_isBelow, Cond.static yX5_isBelow, Cond.initialized RX5, Cond.code yX5_isBelow cX5_isBelow 2 (some .boolean), Cond.methodLink RX5 78 yX1_addBar, Cond.instanceMethod yX1_addBar, Cond.selects RX1 yX1_addBar yX1_addBar, Cond.code yX1_addBar cX1_addBar 4 (some .boolean), Cond.fieldLink RX1 22 "PartGraphs$Product" "bars" "[I", Cond.methodLink RX1 77 yX1_allowsBar, Cond.instanceMethod yX1_allowsBar, Cond.selects RX1 yX1_allowsBar yX1_allowsBar, Cond.code yX1_allowsBar cX1_allowsBar 4 (some .boolean), Cond.methodLink RX1 64 yX1_areTwoParts]
def wsX5_way_r2 : List Cond := [Cond.instanceMethod yX1_areTwoParts, Cond.selects RX1 yX1_areTwoParts yX1_areTwoParts, Cond.code yX1_areTwoParts cX1_areTwoParts 3 (some .boolean), Cond.methodLink RX1 60 yX1_barIndex, Cond.static yX1_barIndex, Cond.code yX1_barIndex cX1_barIndex 2 (some .int), Cond.static yX5_contains, Cond.code yX5_contains cX5_contains 2 (some .boolean)]
def wsX5_way : List Cond := .code yX5_way cX5_way 4 (some .boolean) :: ((wsX5_way_r1 ++ wsX5_way_r2) ++ wsX50 ++ wsJx000600 ++ wsX10)
def wsX5_before_r1 : List Cond := [Cond.fieldLink RX5 26 "PartGraphs" "product" "LPartGraphs$Product;", Cond.methodLink RX5 82 yX1_mustComeOffBefore, Cond.instanceMethod yX1_mustComeOffBefore, Cond.selects RX1 yX1_mustComeOffBefore yX1_mustComeOffBefore, Cond.initialized RX1, Cond.code yX1_mustComeOffBefore cX1_mustComeOffBefore 4 (some .int), Cond.fieldLink RX1 43 "PartGraphs$Product" "partCount" "I", Cond.methodLink RX1 80 yX1_hasPart, Cond.instanceMethod yX1_hasPart, Cond.selects RX1 yX1_hasPart yX1_hasPart, Cond.code yX1_hasPart cX1_hasPart 2 (some .boolean), Cond.methodLink RX1 133 yX1_comingOff, Cond.instanceMethod yX1_comingOff, Cond.selects RX1 yX1_comingOff yX1_comingOff, Cond.code yX1_comingOff cX1_comingOff 6 (some .int), Cond.methodLink RX1 130 yX1_isFree, Cond.instanceMethod yX1_isFree, Cond.selects RX1 yX1_isFree yX1_isFree, Cond.code yX1_isFree cX1_isFree 4 (some .boolean), Cond.fieldLink RX1 22 "PartGraphs$Product" "bars" "[I", Cond.methodLink RX1 127 yX1_isPlain, Cond.instanceMethod yX1_isPlain, Cond.selects RX1 yX1_isPlain yX1_isPlain, Cond.code yX1_isPlain cX1_isPlain 3 (some .boolean)]
def wsX5_before_r2 : List Cond := [Cond.fieldLink RX1 19 "PartGraphs$Product" "coverers" "[I", Cond.static yX5_contains, Cond.initialized RX5, Cond.code yX5_contains cX5_contains 2 (some .boolean), Cond.methodLink RX1 60 yX1_barIndex, Cond.static yX1_barIndex, Cond.code yX1_barIndex cX1_barIndex 2 (some .int), Cond.methodLink RX5 86 yX5_memberOf, Cond.static yX5_memberOf, Cond.code yX5_memberOf cX5_memberOf 4 (some .int), Cond.methodLink RX5 102 yX5_contains]
def wsX5_before : List Cond := .code yX5_before cX5_before 3 (some .int) :: ((wsX5_before_r1 ++ wsX5_before_r2) ++ wsX50 ++ wsX10)
def wsX5_ring_r1 : List Cond := [Cond.fieldLink RX5 26 "PartGraphs" "product" "LPartGraphs$Product;", Cond.methodLink RX5 90 yX1_neverComingOff, Cond.instanceMethod yX1_neverComingOff, Cond.selects RX1 yX1_neverComingOff yX1_neverComingOff, Cond.initialized RX1, Cond.code yX1_neverComingOff cX1_neverComingOff 1 (some .int), Cond.fieldLink RX1 43 "PartGraphs$Product" "partCount" "I", Cond.methodLink RX1 133 yX1_comingOff, Cond.instanceMethod yX1_comingOff, Cond.selects RX1 yX1_comingOff yX1_comingOff, Cond.code yX1_comingOff cX1_comingOff 6 (some .int), Cond.methodLink RX1 130 yX1_isFree, Cond.instanceMethod yX1_isFree, Cond.selects RX1 yX1_isFree yX1_isFree, Cond.code yX1_isFree cX1_isFree 4 (some .boolean), Cond.fieldLink RX1 22 "PartGraphs$Product" "bars" "[I", Cond.methodLink RX1 127 yX1_isPlain, Cond.instanceMethod yX1_isPlain, Cond.selects RX1 yX1_isPlain yX1_isPlain, Cond.code yX1_isPlain cX1_isPlain 3 (some .boolean), Cond.fieldLink RX1 19 "PartGraphs$Product" "coverers" "[I", Cond.methodLink RX1 80 yX1_hasPart, Cond.instanceMethod yX1_hasPart, Cond.selects RX1 yX1_hasPart yX1_hasPart]
def wsX5_ring_r2 : List Cond := [Cond.code yX1_hasPart cX1_hasPart 2 (some .boolean), Cond.static yX5_contains, Cond.initialized RX5, Cond.code yX5_contains cX5_contains 2 (some .boolean), Cond.methodLink RX1 60 yX1_barIndex, Cond.static yX1_barIndex, Cond.code yX1_barIndex cX1_barIndex 2 (some .int), Cond.methodLink RX5 86 yX5_memberOf, Cond.static yX5_memberOf, Cond.code yX5_memberOf cX5_memberOf 4 (some .int), Cond.methodLink RX5 102 yX5_contains]
def wsX5_ring : List Cond := .code yX5_ring cX5_ring 2 (some .int) :: ((wsX5_ring_r1 ++ wsX5_ring_r2) ++ wsX50 ++ wsX10)
def wsX5_option : List Cond := .code yX5_option cX5_option 3 (some .boolean) :: ([.fieldLink RX5 26 "PartGraphs" "product" "LPartGraphs$Product;", .methodLink RX5 93 yX1_addOption, .instanceMethod yX1_addOption, .selects RX1 yX1_addOption yX1_addOption, .initialized RX1, .code yX1_addOption cX1_addOption 3 (some .boolean), .fieldLink RX1 28 "PartGraphs$Product" "families" "[I", .methodLink RX1 87 yX1_allowsOption, .instanceMethod yX1_allowsOption, .selects RX1 yX1_allowsOption yX1_allowsOption, .code yX1_allowsOption cX1_allowsOption 3 (some .boolean), .methodLink RX1 80 yX1_hasPart, .instanceMethod yX1_hasPart, .selects RX1 yX1_hasPart yX1_hasPart, .code yX1_hasPart cX1_hasPart 2 (some .boolean), .fieldLink RX1 43 "PartGraphs$Product" "partCount" "I", .static yX5_isBelow, .initialized RX5, .code yX5_isBelow cX5_isBelow 2 (some .boolean)] ++ wsX50 ++ wsX10)
def wsX5_family_r1 : List Cond := [Cond.fieldLink RX5 26 "PartGraphs" "product" "LPartGraphs$Product;", Cond.methodLink RX5 96 yX1_variant, Cond.instanceMethod yX1_variant, Cond.selects RX1 yX1_variant yX1_variant, Cond.initialized RX1, Cond.code yX1_variant cX1_variant 7 (some .int), Cond.methodLink RX1 137 yX1_membersOf, Cond.instanceMethod yX1_membersOf, Cond.selects RX1 yX1_membersOf yX1_membersOf, Cond.code yX1_membersOf cX1_membersOf 4 (some .int), Cond.fieldLink RX1 43 "PartGraphs$Product" "partCount" "I", Cond.fieldLink RX1 28 "PartGraphs$Product" "families" "[I", Cond.methodLink RX1 140 yJ6_bitCount_0f7a4, Cond.static yJ6_bitCount_0f7a4, Cond.initialized RJ6, Cond.code yJ6_bitCount_0f7a4 cJ6_bitCount_0f7a4 1 (some .int), Cond.constant RJ6 265 (1431655765), Cond.constant RJ6 266 (858993459), Cond.constant RJ6 267 (252645135), Cond.static yX5_memberOf, Cond.initialized RX5, Cond.code yX5_memberOf cX5_memberOf 4 (some .int), Cond.methodLink RX5 102 yX5_contains, Cond.static yX5_contains]
def wsX5_family_r2 : List Cond := [Cond.code yX5_contains cX5_contains 2 (some .boolean), Cond.methodLink RX5 86 yX5_memberOf]
def wsX5_family : List Cond := .code yX5_family cX5_family 3 (some .int) :: ((wsX5_family_r1 ++ wsX5_family_r2) ++ wsX50 ++ wsX10)
def wsX5_holds : List Cond := .code yX5_holds cX5_holds 4 (some .boolean) :: ([.fieldLink RX5 26 "PartGraphs" "product" "LPartGraphs$Product;", .methodLink RX5 65 yX1_hasPart, .instanceMethod yX1_hasPart, .selects RX1 yX1_hasPart yX1_hasPart, .initialized RX1, .code yX1_hasPart cX1_hasPart 2 (some .boolean), .fieldLink RX1 43 "PartGraphs$Product" "partCount" "I", .methodLink RX5 99 yX1_piece, .instanceMethod yX1_piece, .selects RX1 yX1_piece yX1_piece, .code yX1_piece cX1_piece 8 (some .int), .fieldLink RX1 47 "PartGraphs$Product" "fasteningCount" "I", .fieldLink RX1 34 "PartGraphs$Product" "firstEnds" "[I", .fieldLink RX1 37 "PartGraphs$Product" "secondEnds" "[I", .methodLink RX1 80 yX1_hasPart, .static yX5_contains, .initialized RX5, .code yX5_contains cX5_contains 2 (some .boolean), .methodLink RX5 102 yX5_contains] ++ wsX50 ++ wsX10)
def wsX5_alike : List Cond := .code yX5_alike cX5_alike 3 (some .int) :: ([.fieldLink RX5 26 "PartGraphs" "product" "LPartGraphs$Product;", .methodLink RX5 105 yX1_partsLike, .instanceMethod yX1_partsLike, .selects RX1 yX1_partsLike yX1_partsLike, .initialized RX1, .code yX1_partsLike cX1_partsLike 4 (some .int), .fieldLink RX1 43 "PartGraphs$Product" "partCount" "I", .fieldLink RX1 9 "PartGraphs$Product" "kinds" "[I", .fieldLink RX1 15 "PartGraphs$Product" "grams" "[J", .fieldLink RX1 25 "PartGraphs$Product" "hazards" "[I", .methodLink RX1 80 yX1_hasPart, .instanceMethod yX1_hasPart, .selects RX1 yX1_hasPart yX1_hasPart, .code yX1_hasPart cX1_hasPart 2 (some .boolean), .methodLink RX5 86 yX5_memberOf, .static yX5_memberOf, .initialized RX5, .code yX5_memberOf cX5_memberOf 4 (some .int), .methodLink RX5 102 yX5_contains, .static yX5_contains, .code yX5_contains cX5_contains 2 (some .boolean)] ++ wsX50 ++ wsX10)
def wsX5_weight_r1 : List Cond := [Cond.fieldLink RX5 26 "PartGraphs" "product" "LPartGraphs$Product;", Cond.classLink RX5 71 RJx00060, Cond.instantiable RJx00060 6, Cond.initialized RJx00060, Cond.methodLink RX5 65 yX1_hasPart, Cond.instanceMethod yX1_hasPart, Cond.selects RX1 yX1_hasPart yX1_hasPart, Cond.initialized RX1, Cond.code yX1_hasPart cX1_hasPart 2 (some .boolean), Cond.fieldLink RX1 43 "PartGraphs$Product" "partCount" "I", Cond.methodLink RX5 99 yX1_piece, Cond.instanceMethod yX1_piece, Cond.selects RX1 yX1_piece yX1_piece, Cond.code yX1_piece cX1_piece 8 (some .int), Cond.fieldLink RX1 47 "PartGraphs$Product" "fasteningCount" "I", Cond.fieldLink RX1 34 "PartGraphs$Product" "firstEnds" "[I", Cond.fieldLink RX1 37 "PartGraphs$Product" "secondEnds" "[I", Cond.methodLink RX1 80 yX1_hasPart, Cond.static yX5_contains, Cond.initialized RX5, Cond.code yX5_contains cX5_contains 2 (some .boolean), Cond.methodLink RX5 110 yX1_gramsOf, Cond.instanceMethod yX1_gramsOf, Cond.selects RX1 yX1_gramsOf yX1_gramsOf]
def wsX5_weight_r2 : List Cond := [Cond.code yX1_gramsOf cX1_gramsOf 5 (some .long), Cond.fieldLink RX1 15 "PartGraphs$Product" "grams" "[J"]
def wsX5_weight : List Cond := .code yX5_weight cX5_weight 2 (some .long) :: ((wsX5_weight_r1 ++ wsX5_weight_r2) ++ wsX50 ++ wsJx000600 ++ wsX10)
def wsX5_hazard : List Cond := .code yX5_hazard cX5_hazard 3 (some .boolean) :: ([.fieldLink RX5 26 "PartGraphs" "product" "LPartGraphs$Product;", .methodLink RX5 114 yX1_addHazard, .instanceMethod yX1_addHazard, .selects RX1 yX1_addHazard yX1_addHazard, .initialized RX1, .code yX1_addHazard cX1_addHazard 3 (some .boolean), .fieldLink RX1 25 "PartGraphs$Product" "hazards" "[I", .methodLink RX1 84 yX1_allowsHazard, .instanceMethod yX1_allowsHazard, .selects RX1 yX1_allowsHazard yX1_allowsHazard, .code yX1_allowsHazard cX1_allowsHazard 3 (some .boolean), .methodLink RX1 80 yX1_hasPart, .instanceMethod yX1_hasPart, .selects RX1 yX1_hasPart yX1_hasPart, .code yX1_hasPart cX1_hasPart 2 (some .boolean), .fieldLink RX1 43 "PartGraphs$Product" "partCount" "I", .static yX5_isBelow, .initialized RX5, .code yX5_isBelow cX5_isBelow 2 (some .boolean), .static yX5_contains, .code yX5_contains cX5_contains 2 (some .boolean)] ++ wsX50 ++ wsX10)
def wsX5_damage : List Cond := .code yX5_damage cX5_damage 3 (some .int) :: ([.fieldLink RX5 26 "PartGraphs" "product" "LPartGraphs$Product;", .methodLink RX5 117 yX1_setDamage, .instanceMethod yX1_setDamage, .selects RX1 yX1_setDamage yX1_setDamage, .initialized RX1, .code yX1_setDamage cX1_setDamage 4 (some .int), .fieldLink RX1 31 "PartGraphs$Product" "damages" "[I", .methodLink RX1 90 yX1_allowsDamage, .instanceMethod yX1_allowsDamage, .selects RX1 yX1_allowsDamage yX1_allowsDamage, .code yX1_allowsDamage cX1_allowsDamage 3 (some .boolean), .methodLink RX1 80 yX1_hasPart, .instanceMethod yX1_hasPart, .selects RX1 yX1_hasPart yX1_hasPart, .code yX1_hasPart cX1_hasPart 2 (some .boolean), .fieldLink RX1 43 "PartGraphs$Product" "partCount" "I", .static yX5_isBelow, .initialized RX5, .code yX5_isBelow cX5_isBelow 2 (some .boolean)] ++ wsX50 ++ wsX10)
def wsX5_lowBits : List Cond := .code yX5_lowBits cX5_lowBits 2 (some .int) :: ([.constantLong RX5 137 (1023)])
def wsX5_free_r1 : List Cond := [Cond.fieldLink RX5 26 "PartGraphs" "product" "LPartGraphs$Product;", Cond.methodLink RX5 120 yX5_lowBits, Cond.static yX5_lowBits, Cond.initialized RX5, Cond.code yX5_lowBits cX5_lowBits 2 (some .int), Cond.constantLong RX5 137 (1023), Cond.methodLink RX5 124 yX1_isFree, Cond.instanceMethod yX1_isFree, Cond.selects RX1 yX1_isFree yX1_isFree, Cond.initialized RX1, Cond.code yX1_isFree cX1_isFree 4 (some .boolean), Cond.fieldLink RX1 22 "PartGraphs$Product" "bars" "[I", Cond.methodLink RX1 127 yX1_isPlain, Cond.instanceMethod yX1_isPlain, Cond.selects RX1 yX1_isPlain yX1_isPlain, Cond.code yX1_isPlain cX1_isPlain 3 (some .boolean), Cond.fieldLink RX1 19 "PartGraphs$Product" "coverers" "[I", Cond.methodLink RX1 80 yX1_hasPart, Cond.instanceMethod yX1_hasPart, Cond.selects RX1 yX1_hasPart yX1_hasPart, Cond.code yX1_hasPart cX1_hasPart 2 (some .boolean), Cond.fieldLink RX1 43 "PartGraphs$Product" "partCount" "I", Cond.static yX5_contains, Cond.code yX5_contains cX5_contains 2 (some .boolean)]
def wsX5_free_r2 : List Cond := [Cond.methodLink RX1 60 yX1_barIndex, Cond.static yX1_barIndex, Cond.code yX1_barIndex cX1_barIndex 2 (some .int)]
def wsX5_free : List Cond := .code yX5_free cX5_free 4 (some .boolean) :: ((wsX5_free_r1 ++ wsX5_free_r2) ++ wsX50 ++ wsX10)
def wsX5_plain : List Cond := .code yX5_plain cX5_plain 4 (some .boolean) :: ([.fieldLink RX5 26 "PartGraphs" "product" "LPartGraphs$Product;", .methodLink RX5 120 yX5_lowBits, .static yX5_lowBits, .initialized RX5, .code yX5_lowBits cX5_lowBits 2 (some .int), .constantLong RX5 137 (1023), .methodLink RX5 127 yX1_isPlain, .instanceMethod yX1_isPlain, .selects RX1 yX1_isPlain yX1_isPlain, .initialized RX1, .code yX1_isPlain cX1_isPlain 3 (some .boolean), .fieldLink RX1 19 "PartGraphs$Product" "coverers" "[I", .methodLink RX1 80 yX1_hasPart, .instanceMethod yX1_hasPart, .selects RX1 yX1_hasPart yX1_hasPart, .code yX1_hasPart cX1_hasPart 2 (some .boolean), .fieldLink RX1 43 "PartGraphs$Product" "partCount" "I", .static yX5_contains, .code yX5_contains cX5_contains 2 (some .boolean)] ++ wsX50 ++ wsX10)
def wsX5_write_r1 : List Cond := [Cond.fieldLink RX5 19 "PartGraphs" "teller" "LPartGraphs$Teller;", Cond.fieldLink RX5 26 "PartGraphs" "product" "LPartGraphs$Product;", Cond.methodLink RX5 130 yX3_byteAt, Cond.instanceMethod yX3_byteAt, Cond.selects RX3 yX3_byteAt yX3_byteAt, Cond.initialized RX3, Cond.code yX3_byteAt cX3_byteAt 4 (some .int), Cond.fieldLink RX3 9 "PartGraphs$Teller" "left" "I", Cond.fieldLink RX3 15 "PartGraphs$Teller" "found" "I", Cond.fieldLink RX3 22 "PartGraphs$Product" "partCount" "I", Cond.methodLink RX3 18 yX3_tellParts, Cond.instanceMethod yX3_tellParts, Cond.selects RX3 yX3_tellParts yX3_tellParts, Cond.code yX3_tellParts cX3_tellParts 3 none, Cond.fieldLink RX3 34 "PartGraphs$Verb" "PART" "LPartGraphs$Verb;", Cond.fieldLink RX3 44 "PartGraphs$Product" "kinds" "[I", Cond.fieldLink RX3 52 "PartGraphs$Product" "grams" "[J", Cond.methodLink RX3 40 yX3_tellWord, Cond.instanceMethod yX3_tellWord, Cond.selects RX3 yX3_tellWord yX3_tellWord, Cond.code yX3_tellWord cX3_tellWord 3 none, Cond.fieldLink RX3 121 "PartGraphs$Verb" "word" "Ljava/lang/String;", Cond.methodLink RX3 125 yJ0_length_8abf5, Cond.instanceMethod yJ0_length_8abf5]
def wsX5_write_r2 : List Cond := [Cond.selects RJ0 yJ0_length_8abf5 yJ0_length_8abf5, Cond.initialized RJ0, Cond.code yJ0_length_8abf5 cJ0_length_8abf5 1 (some .int), Cond.fieldLink RJ0 9 "java/lang/String" "value" "[B", Cond.methodLink RJ0 335 yJ0_coder_7d493, Cond.instanceMethod yJ0_coder_7d493, Cond.selects RJ0 yJ0_coder_7d493 yJ0_coder_7d493, Cond.code yJ0_coder_7d493 cJ0_coder_7d493 1 (some .byte), Cond.fieldLink RJ0 38 "java/lang/String" "COMPACT_STRINGS" "Z", Cond.fieldLink RJ0 15 "java/lang/String" "coder" "B", Cond.methodLink RX3 131 yJ0_charAt_5068e, Cond.instanceMethod yJ0_charAt_5068e, Cond.selects RJ0 yJ0_charAt_5068e yJ0_charAt_5068e, Cond.code yJ0_charAt_5068e cJ0_charAt_5068e 2 (some .char), Cond.methodLink RJ0 492 yJ0_isLatin1_aae02, Cond.instanceMethod yJ0_isLatin1_aae02, Cond.selects RJ0 yJ0_isLatin1_aae02 yJ0_isLatin1_aae02, Cond.code yJ0_isLatin1_aae02 cJ0_isLatin1_aae02 1 (some .boolean), Cond.methodLink RJ0 495 yJ1_charAt_3b067, Cond.static yJ1_charAt_3b067, Cond.initialized RJ1, Cond.code yJ1_charAt_3b067 cJ1_charAt_3b067 2 (some .char), Cond.methodLink RJ1 9 yJ0_checkIndex_df160, Cond.static yJ0_checkIndex_df160]
def wsX5_write_r3 : List Cond := [Cond.code yJ0_checkIndex_df160 cJ0_checkIndex_df160 2 none, Cond.fieldLink RJ0 1053 "jdk/internal/util/Preconditions" "SIOOBE_FORMATTER" "Ljava/util/function/BiFunction;", Cond.methodLink RJ0 1059 yJ3_checkIndex_8e157, Cond.static yJ3_checkIndex_8e157, Cond.initialized RJ3, Cond.code yJ3_checkIndex_8e157 cJ3_checkIndex_8e157 3 (some .int), Cond.methodLink RJ0 498 yJ2_charAt_3b067, Cond.static yJ2_charAt_3b067, Cond.initialized RJ2, Cond.code yJ2_charAt_3b067 cJ2_charAt_3b067 2 (some .char), Cond.methodLink RJ2 67 yJ2_checkIndex_2214a, Cond.static yJ2_checkIndex_2214a, Cond.code yJ2_checkIndex_2214a cJ2_checkIndex_2214a 2 none, Cond.methodLink RJ2 48 yJ2_length_9d52b, Cond.static yJ2_length_9d52b, Cond.code yJ2_length_9d52b cJ2_length_9d52b 1 (some .int), Cond.methodLink RJ2 414 yJ0_checkIndex_df160, Cond.methodLink RJ2 71 yJ2_getChar_3b067, Cond.static yJ2_getChar_3b067, Cond.code yJ2_getChar_3b067 cJ2_getChar_3b067 2 (some .char), Cond.fieldLink RJ2 44 "java/lang/StringUTF16" "$assertionsDisabled" "Z", Cond.fieldLink RJ2 59 "java/lang/StringUTF16" "HI_BYTE_SHIFT" "I", Cond.fieldLink RJ2 63 "java/lang/StringUTF16" "LO_BYTE_SHIFT" "I", Cond.methodLink RX3 135 yX3_tellByte]
def wsX5_write_r4 : List Cond := [Cond.instanceMethod yX3_tellByte, Cond.selects RX3 yX3_tellByte yX3_tellByte, Cond.code yX3_tellByte cX3_tellByte 2 none, Cond.methodLink RX3 48 yX3_tellNumber, Cond.instanceMethod yX3_tellNumber, Cond.selects RX3 yX3_tellNumber yX3_tellNumber, Cond.code yX3_tellNumber cX3_tellNumber 6 none, Cond.constantLong RX3 139 (10), Cond.methodLink RX3 27 yX3_tellDetails, Cond.instanceMethod yX3_tellDetails, Cond.selects RX3 yX3_tellDetails yX3_tellDetails, Cond.code yX3_tellDetails cX3_tellDetails 4 none, Cond.fieldLink RX3 56 "PartGraphs$Verb" "COVER" "LPartGraphs$Verb;", Cond.fieldLink RX3 67 "PartGraphs$Product" "bars" "[I", Cond.fieldLink RX3 78 "PartGraphs$Verb" "HAZARD" "LPartGraphs$Verb;", Cond.fieldLink RX3 81 "PartGraphs$Product" "hazards" "[I", Cond.fieldLink RX3 84 "PartGraphs$Product" "families" "[I", Cond.fieldLink RX3 87 "PartGraphs$Verb" "OPTION" "LPartGraphs$Verb;", Cond.fieldLink RX3 93 "PartGraphs$Product" "damages" "[I", Cond.fieldLink RX3 96 "PartGraphs$Verb" "DAMAGE" "LPartGraphs$Verb;", Cond.methodLink RX3 59 yX1_coveredBy, Cond.instanceMethod yX1_coveredBy, Cond.selects RX1 yX1_coveredBy yX1_coveredBy, Cond.initialized RX1]
def wsX5_write_r5 : List Cond := [Cond.code yX1_coveredBy cX1_coveredBy 4 (some .int), Cond.fieldLink RX1 43 "PartGraphs$Product" "partCount" "I", Cond.fieldLink RX1 19 "PartGraphs$Product" "coverers" "[I", Cond.static yX5_contains, Cond.initialized RX5, Cond.code yX5_contains cX5_contains 2 (some .boolean), Cond.methodLink RX3 63 yX3_tellEach, Cond.instanceMethod yX3_tellEach, Cond.selects RX3 yX3_tellEach yX3_tellEach, Cond.code yX3_tellEach cX3_tellEach 5 none, Cond.methodLink RX3 90 yX3_tellPair, Cond.instanceMethod yX3_tellPair, Cond.selects RX3 yX3_tellPair yX3_tellPair, Cond.code yX3_tellPair cX3_tellPair 4 none, Cond.static yX1_barIndex, Cond.code yX1_barIndex cX1_barIndex 2 (some .int), Cond.methodLink RX3 74 yX3_tellBars, Cond.instanceMethod yX3_tellBars, Cond.selects RX3 yX3_tellBars yX3_tellBars, Cond.code yX3_tellBars cX3_tellBars 5 none, Cond.fieldLink RX3 118 "PartGraphs$Verb" "WAY" "LPartGraphs$Verb;", Cond.methodLink RX3 31 yX3_tellFastenings, Cond.instanceMethod yX3_tellFastenings, Cond.selects RX3 yX3_tellFastenings yX3_tellFastenings]
def wsX5_write_r6 : List Cond := [Cond.code yX3_tellFastenings cX3_tellFastenings 3 none, Cond.fieldLink RX3 99 "PartGraphs$Product" "fasteningCount" "I", Cond.fieldLink RX3 102 "PartGraphs$Verb" "FASTEN" "LPartGraphs$Verb;", Cond.fieldLink RX3 105 "PartGraphs$Product" "firstEnds" "[I", Cond.fieldLink RX3 108 "PartGraphs$Product" "secondEnds" "[I", Cond.fieldLink RX3 111 "PartGraphs$Product" "fasteningKinds" "[I"]
def wsX5_write : List Cond := .code yX5_write cX5_write 2 (some .int) :: ((wsX5_write_r1 ++ (wsX5_write_r2 ++ (wsX5_write_r3 ++ (wsX5_write_r4 ++ (wsX5_write_r5 ++ wsX5_write_r6))))) ++ wsX50 ++ wsX30 ++ wsX10)
def wsX5_loose : List Cond := .code yX5_loose cX5_loose 1 (some .int) :: ([.fieldLink RX5 26 "PartGraphs" "product" "LPartGraphs$Product;", .methodLink RX5 134 yX1_pieces, .instanceMethod yX1_pieces, .selects RX1 yX1_pieces yX1_pieces, .initialized RX1, .code yX1_pieces cX1_pieces 4 (some .int), .fieldLink RX1 43 "PartGraphs$Product" "partCount" "I", .static yX5_contains, .initialized RX5, .code yX5_contains cX5_contains 2 (some .boolean), .methodLink RX1 148 yX1_piece, .instanceMethod yX1_piece, .selects RX1 yX1_piece yX1_piece, .code yX1_piece cX1_piece 8 (some .int), .fieldLink RX1 47 "PartGraphs$Product" "fasteningCount" "I", .fieldLink RX1 34 "PartGraphs$Product" "firstEnds" "[I", .fieldLink RX1 37 "PartGraphs$Product" "secondEnds" "[I", .methodLink RX1 80 yX1_hasPart, .instanceMethod yX1_hasPart, .selects RX1 yX1_hasPart yX1_hasPart, .code yX1_hasPart cX1_hasPart 2 (some .boolean)] ++ wsX50 ++ wsX10)
def wsX6_clear : List Cond := .code yX6_clear cX6_clear 3 none :: ([.fieldLink RX6 7 "PartGraphsModel" "parts" "[I", .fieldLink RX6 26 "PartGraphsModel" "fastenings" "[I", .fieldLink RX6 19 "PartGraphsModel" "covers" "[Z", .fieldLink RX6 23 "PartGraphsModel" "ways" "[Z", .fieldLink RX6 32 "PartGraphsModel" "hazards" "[Z", .fieldLink RX6 35 "PartGraphsModel" "families" "[I", .fieldLink RX6 38 "PartGraphsModel" "damages" "[I"] ++ wsX60)
def wsX6_init : List Cond := .code yX6_init cX6_init 1 none :: ([.methodLink RX6 1 objectInit, .instanceMethod objectInit, .code objectInit ⟨#[0xb1]⟩ 1 none, .arrayClass .int, .fieldLink RX6 7 "PartGraphsModel" "parts" "[I", .fieldLink RX6 13 "PartGraphsModel" "kinds" "[I", .fieldLink RX6 16 "PartGraphsModel" "grams" "[I", .arrayClass .boolean, .fieldLink RX6 19 "PartGraphsModel" "covers" "[Z", .fieldLink RX6 23 "PartGraphsModel" "ways" "[Z", .fieldLink RX6 26 "PartGraphsModel" "fastenings" "[I", .fieldLink RX6 29 "PartGraphsModel" "ties" "[I", .fieldLink RX6 32 "PartGraphsModel" "hazards" "[Z", .fieldLink RX6 35 "PartGraphsModel" "families" "[I", .fieldLink RX6 38 "PartGraphsModel" "damages" "[I", .arrayClass .byte, .fieldLink RX6 41 "PartGraphsModel" "text" "[B", .fieldLink RX6 45 "PartGraphsModel" "numbers" "[I", .methodLink RX6 48 yX6_clear, .instanceMethod yX6_clear, .selects RX6 yX6_clear yX6_clear, .initialized RX6, .code yX6_clear cX6_clear 3 none] ++ wsX60)
def wsX6_thrown : List Cond := .code yX6_thrown cX6_thrown 1 (some .int) :: ([.fieldLink RX6 52 "PartGraphsModel" "fault" "I"] ++ wsX60)
def wsX6_take : List Cond := .code yX6_take cX6_take 2 none :: ([.fieldLink RX6 7 "PartGraphsModel" "parts" "[I", .fieldLink RX6 26 "PartGraphsModel" "fastenings" "[I", .fieldLink RX6 19 "PartGraphsModel" "covers" "[Z", .fieldLink RX6 23 "PartGraphsModel" "ways" "[Z", .fieldLink RX6 32 "PartGraphsModel" "hazards" "[Z", .fieldLink RX6 13 "PartGraphsModel" "kinds" "[I", .fieldLink RX6 16 "PartGraphsModel" "grams" "[I", .fieldLink RX6 35 "PartGraphsModel" "families" "[I", .fieldLink RX6 38 "PartGraphsModel" "damages" "[I", .fieldLink RX6 29 "PartGraphsModel" "ties" "[I"] ++ wsX60)
def wsX6_isPart : List Cond := .code yX6_isPart cX6_isPart 3 (some .boolean) :: ([.fieldLink RX6 7 "PartGraphsModel" "parts" "[I"] ++ wsX60)
def wsX6_wayAt : List Cond := .code yX6_wayAt cX6_wayAt 4 (some .int) :: ([])
def wsX6_isAllowed : List Cond := .code yX6_isAllowed cX6_isAllowed 6 (some .boolean) :: ([.fieldLink RX6 7 "PartGraphsModel" "parts" "[I", .constant RX6 56 (1000000), .fieldLink RX6 19 "PartGraphsModel" "covers" "[Z", .fieldLink RX6 23 "PartGraphsModel" "ways" "[Z", .fieldLink RX6 26 "PartGraphsModel" "fastenings" "[I", .fieldLink RX6 32 "PartGraphsModel" "hazards" "[Z", .fieldLink RX6 35 "PartGraphsModel" "families" "[I", .methodLink RX6 57 yX6_isPart, .instanceMethod yX6_isPart, .selects RX6 yX6_isPart yX6_isPart, .initialized RX6, .code yX6_isPart cX6_isPart 3 (some .boolean), .methodLink RX6 61 yX6_wayAt, .static yX6_wayAt, .code yX6_wayAt cX6_wayAt 4 (some .int)] ++ wsX60)
def wsX6_make : List Cond := .code yX6_make cX6_make 6 none :: ([.fieldLink RX6 13 "PartGraphsModel" "kinds" "[I", .fieldLink RX6 7 "PartGraphsModel" "parts" "[I", .fieldLink RX6 16 "PartGraphsModel" "grams" "[I", .fieldLink RX6 19 "PartGraphsModel" "covers" "[Z", .fieldLink RX6 23 "PartGraphsModel" "ways" "[Z", .fieldLink RX6 29 "PartGraphsModel" "ties" "[I", .fieldLink RX6 26 "PartGraphsModel" "fastenings" "[I", .fieldLink RX6 32 "PartGraphsModel" "hazards" "[Z", .fieldLink RX6 35 "PartGraphsModel" "families" "[I", .fieldLink RX6 38 "PartGraphsModel" "damages" "[I", .methodLink RX6 61 yX6_wayAt, .static yX6_wayAt, .initialized RX6, .code yX6_wayAt cX6_wayAt 4 (some .int)] ++ wsX60)
def wsX6_numbersOf : List Cond := .code yX6_numbersOf cX6_numbersOf 1 (some .int) :: ([])
def wsX6_canBe : List Cond := .code yX6_canBe cX6_canBe 10 (some .boolean) :: ([.methodLink RX6 65 yX6_isAllowed, .instanceMethod yX6_isAllowed, .selects RX6 yX6_isAllowed yX6_isAllowed, .initialized RX6, .code yX6_isAllowed cX6_isAllowed 6 (some .boolean), .fieldLink RX6 7 "PartGraphsModel" "parts" "[I", .constant RX6 56 (1000000), .fieldLink RX6 19 "PartGraphsModel" "covers" "[Z", .fieldLink RX6 23 "PartGraphsModel" "ways" "[Z", .fieldLink RX6 26 "PartGraphsModel" "fastenings" "[I", .fieldLink RX6 32 "PartGraphsModel" "hazards" "[Z", .fieldLink RX6 35 "PartGraphsModel" "families" "[I", .methodLink RX6 57 yX6_isPart, .instanceMethod yX6_isPart, .selects RX6 yX6_isPart yX6_isPart, .code yX6_isPart cX6_isPart 3 (some .boolean), .methodLink RX6 61 yX6_wayAt, .static yX6_wayAt, .code yX6_wayAt cX6_wayAt 4 (some .int)] ++ wsX60)
def wsX6_unit : List Cond := .code yX6_unit cX6_unit 2 (some .boolean) :: ([.fieldLink RX6 52 "PartGraphsModel" "fault" "I", .fieldLink RX6 69 "PartGraphsModel" "size" "I", .fieldLink RX6 41 "PartGraphsModel" "text" "[B"] ++ wsX60)
def wsX6_isGap : List Cond := .code yX6_isGap cX6_isGap 2 (some .boolean) :: ([.fieldLink RX6 41 "PartGraphsModel" "text" "[B"] ++ wsX60)
def wsX6_wordBegin : List Cond := .code yX6_wordBegin cX6_wordBegin 3 (some .int) :: ([.fieldLink RX6 69 "PartGraphsModel" "size" "I", .methodLink RX6 72 yX6_isGap, .instanceMethod yX6_isGap, .selects RX6 yX6_isGap yX6_isGap, .initialized RX6, .code yX6_isGap cX6_isGap 2 (some .boolean), .fieldLink RX6 41 "PartGraphsModel" "text" "[B"] ++ wsX60)
def wsX6_wordEnd : List Cond := .code yX6_wordEnd cX6_wordEnd 3 (some .int) :: ([.fieldLink RX6 69 "PartGraphsModel" "size" "I", .methodLink RX6 72 yX6_isGap, .instanceMethod yX6_isGap, .selects RX6 yX6_isGap yX6_isGap, .initialized RX6, .code yX6_isGap cX6_isGap 2 (some .boolean), .fieldLink RX6 41 "PartGraphsModel" "text" "[B"] ++ wsX60)
def wsX6_wordOf : List Cond := .code yX6_wordOf cX6_wordOf 6 (some .long) :: ([.constantLong RX6 76 (256), .fieldLink RX6 41 "PartGraphsModel" "text" "[B"] ++ wsX60)
def wsX6_numberOf : List Cond := .code yX6_numberOf cX6_numberOf 6 (some .int) :: ([.fieldLink RX6 41 "PartGraphsModel" "text" "[B"] ++ wsX60)
def wsX6_nameOf : List Cond := .code yX6_nameOf cX6_nameOf 1 (some .long) :: ([.constantLong RX6 78 (6180401780), .constantLong RX6 80 (1526583420274), .constantLong RX6 82 (24600953), .constantLong RX6 84 (394043711579502), .constantLong RX6 86 (396242851033700), .constantLong RX6 88 (404003756797806), .constantLong RX6 90 (391844586415973)])
def wsX6_readSentence_r1 : List Cond := [Cond.fieldLink RX6 92 "PartGraphsModel" "at" "I", Cond.fieldLink RX6 45 "PartGraphsModel" "numbers" "[I", Cond.fieldLink RX6 69 "PartGraphsModel" "size" "I", Cond.methodLink RX6 95 yX6_wordEnd, Cond.instanceMethod yX6_wordEnd, Cond.selects RX6 yX6_wordEnd yX6_wordEnd, Cond.initialized RX6, Cond.code yX6_wordEnd cX6_wordEnd 3 (some .int), Cond.methodLink RX6 72 yX6_isGap, Cond.instanceMethod yX6_isGap, Cond.selects RX6 yX6_isGap yX6_isGap, Cond.code yX6_isGap cX6_isGap 2 (some .boolean), Cond.fieldLink RX6 41 "PartGraphsModel" "text" "[B", Cond.methodLink RX6 99 yX6_wordOf, Cond.instanceMethod yX6_wordOf, Cond.selects RX6 yX6_wordOf yX6_wordOf, Cond.code yX6_wordOf cX6_wordOf 6 (some .long), Cond.constantLong RX6 76 (256), Cond.methodLink RX6 103 yX6_nameOf, Cond.static yX6_nameOf, Cond.code yX6_nameOf cX6_nameOf 1 (some .long), Cond.constantLong RX6 78 (6180401780), Cond.constantLong RX6 80 (1526583420274), Cond.constantLong RX6 82 (24600953)]
def wsX6_readSentence_r2 : List Cond := [Cond.constantLong RX6 84 (394043711579502), Cond.constantLong RX6 86 (396242851033700), Cond.constantLong RX6 88 (404003756797806), Cond.constantLong RX6 90 (391844586415973), Cond.methodLink RX6 107 yX6_canBe, Cond.instanceMethod yX6_canBe, Cond.selects RX6 yX6_canBe yX6_canBe, Cond.code yX6_canBe cX6_canBe 10 (some .boolean), Cond.methodLink RX6 65 yX6_isAllowed, Cond.instanceMethod yX6_isAllowed, Cond.selects RX6 yX6_isAllowed yX6_isAllowed, Cond.code yX6_isAllowed cX6_isAllowed 6 (some .boolean), Cond.fieldLink RX6 7 "PartGraphsModel" "parts" "[I", Cond.constant RX6 56 (1000000), Cond.fieldLink RX6 19 "PartGraphsModel" "covers" "[Z", Cond.fieldLink RX6 23 "PartGraphsModel" "ways" "[Z", Cond.fieldLink RX6 26 "PartGraphsModel" "fastenings" "[I", Cond.fieldLink RX6 32 "PartGraphsModel" "hazards" "[Z", Cond.fieldLink RX6 35 "PartGraphsModel" "families" "[I", Cond.methodLink RX6 57 yX6_isPart, Cond.instanceMethod yX6_isPart, Cond.selects RX6 yX6_isPart yX6_isPart, Cond.code yX6_isPart cX6_isPart 3 (some .boolean), Cond.methodLink RX6 61 yX6_wayAt]
def wsX6_readSentence_r3 : List Cond := [Cond.static yX6_wayAt, Cond.code yX6_wayAt cX6_wayAt 4 (some .int), Cond.methodLink RX6 111 yX6_wordBegin, Cond.instanceMethod yX6_wordBegin, Cond.selects RX6 yX6_wordBegin yX6_wordBegin, Cond.code yX6_wordBegin cX6_wordBegin 3 (some .int), Cond.methodLink RX6 114 yX6_numbersOf, Cond.static yX6_numbersOf, Cond.code yX6_numbersOf cX6_numbersOf 1 (some .int), Cond.methodLink RX6 117 yX6_numberOf, Cond.instanceMethod yX6_numberOf, Cond.selects RX6 yX6_numberOf yX6_numberOf, Cond.code yX6_numberOf cX6_numberOf 6 (some .int), Cond.methodLink RX6 121 yX6_make, Cond.instanceMethod yX6_make, Cond.selects RX6 yX6_make yX6_make, Cond.code yX6_make cX6_make 6 none, Cond.fieldLink RX6 13 "PartGraphsModel" "kinds" "[I", Cond.fieldLink RX6 16 "PartGraphsModel" "grams" "[I", Cond.fieldLink RX6 29 "PartGraphsModel" "ties" "[I", Cond.fieldLink RX6 38 "PartGraphsModel" "damages" "[I"]
def wsX6_readSentence : List Cond := .code yX6_readSentence cX6_readSentence 6 (some .boolean) :: ((wsX6_readSentence_r1 ++ (wsX6_readSentence_r2 ++ wsX6_readSentence_r3)) ++ wsX60)
def wsX6_read_r1 : List Cond := [Cond.fieldLink RX6 52 "PartGraphsModel" "fault" "I", Cond.fieldLink RX6 92 "PartGraphsModel" "at" "I", Cond.fieldLink RX6 69 "PartGraphsModel" "size" "I", Cond.fieldLink RX6 7 "PartGraphsModel" "parts" "[I", Cond.methodLink RX6 48 yX6_clear, Cond.instanceMethod yX6_clear, Cond.selects RX6 yX6_clear yX6_clear, Cond.initialized RX6, Cond.code yX6_clear cX6_clear 3 none, Cond.fieldLink RX6 26 "PartGraphsModel" "fastenings" "[I", Cond.fieldLink RX6 19 "PartGraphsModel" "covers" "[Z", Cond.fieldLink RX6 23 "PartGraphsModel" "ways" "[Z", Cond.fieldLink RX6 32 "PartGraphsModel" "hazards" "[Z", Cond.fieldLink RX6 35 "PartGraphsModel" "families" "[I", Cond.fieldLink RX6 38 "PartGraphsModel" "damages" "[I", Cond.methodLink RX6 111 yX6_wordBegin, Cond.instanceMethod yX6_wordBegin, Cond.selects RX6 yX6_wordBegin yX6_wordBegin, Cond.code yX6_wordBegin cX6_wordBegin 3 (some .int), Cond.methodLink RX6 72 yX6_isGap, Cond.instanceMethod yX6_isGap, Cond.selects RX6 yX6_isGap yX6_isGap, Cond.code yX6_isGap cX6_isGap 2 (some .boolean), Cond.fieldLink RX6 41 "PartGraphsModel" "text" "[B"]
def wsX6_read_r2 : List Cond := [Cond.methodLink RX6 125 yX6_readSentence, Cond.instanceMethod yX6_readSentence, Cond.selects RX6 yX6_readSentence yX6_readSentence, Cond.code yX6_readSentence cX6_readSentence 6 (some .boolean), Cond.fieldLink RX6 45 "PartGraphsModel" "numbers" "[I", Cond.methodLink RX6 95 yX6_wordEnd, Cond.instanceMethod yX6_wordEnd, Cond.selects RX6 yX6_wordEnd yX6_wordEnd, Cond.code yX6_wordEnd cX6_wordEnd 3 (some .int), Cond.methodLink RX6 99 yX6_wordOf, Cond.instanceMethod yX6_wordOf, Cond.selects RX6 yX6_wordOf yX6_wordOf, Cond.code yX6_wordOf cX6_wordOf 6 (some .long), Cond.constantLong RX6 76 (256), Cond.methodLink RX6 103 yX6_nameOf, Cond.static yX6_nameOf, Cond.code yX6_nameOf cX6_nameOf 1 (some .long), Cond.constantLong RX6 78 (6180401780), Cond.constantLong RX6 80 (1526583420274), Cond.constantLong RX6 82 (24600953), Cond.constantLong RX6 84 (394043711579502), Cond.constantLong RX6 86 (396242851033700), Cond.constantLong RX6 88 (404003756797806), Cond.constantLong RX6 90 (391844586415973)]
def wsX6_read_r3 : List Cond := [Cond.methodLink RX6 107 yX6_canBe, Cond.instanceMethod yX6_canBe, Cond.selects RX6 yX6_canBe yX6_canBe, Cond.code yX6_canBe cX6_canBe 10 (some .boolean), Cond.methodLink RX6 65 yX6_isAllowed, Cond.instanceMethod yX6_isAllowed, Cond.selects RX6 yX6_isAllowed yX6_isAllowed, Cond.code yX6_isAllowed cX6_isAllowed 6 (some .boolean), Cond.constant RX6 56 (1000000), Cond.methodLink RX6 57 yX6_isPart, Cond.instanceMethod yX6_isPart, Cond.selects RX6 yX6_isPart yX6_isPart, Cond.code yX6_isPart cX6_isPart 3 (some .boolean), Cond.methodLink RX6 61 yX6_wayAt, Cond.static yX6_wayAt, Cond.code yX6_wayAt cX6_wayAt 4 (some .int), Cond.methodLink RX6 114 yX6_numbersOf, Cond.static yX6_numbersOf, Cond.code yX6_numbersOf cX6_numbersOf 1 (some .int), Cond.methodLink RX6 117 yX6_numberOf, Cond.instanceMethod yX6_numberOf, Cond.selects RX6 yX6_numberOf yX6_numberOf, Cond.code yX6_numberOf cX6_numberOf 6 (some .int), Cond.methodLink RX6 121 yX6_make]
def wsX6_read_r4 : List Cond := [Cond.instanceMethod yX6_make, Cond.selects RX6 yX6_make yX6_make, Cond.code yX6_make cX6_make 6 none, Cond.fieldLink RX6 13 "PartGraphsModel" "kinds" "[I", Cond.fieldLink RX6 16 "PartGraphsModel" "grams" "[I", Cond.fieldLink RX6 29 "PartGraphsModel" "ties" "[I", Cond.methodLink RX6 129 yX6_take, Cond.instanceMethod yX6_take, Cond.selects RX6 yX6_take yX6_take, Cond.code yX6_take cX6_take 2 none]
def wsX6_read : List Cond := .code yX6_read cX6_read 2 (some .int) :: ((wsX6_read_r1 ++ (wsX6_read_r2 ++ (wsX6_read_r3 ++ wsX6_read_r4))) ++ wsX60)
def wsX6_part_r1 : List Cond := [Cond.fieldLink RX6 52 "PartGraphsModel" "fault" "I", Cond.constantLong RX6 132 (1000000), Cond.fieldLink RX6 7 "PartGraphsModel" "parts" "[I", Cond.methodLink RX6 65 yX6_isAllowed, Cond.instanceMethod yX6_isAllowed, Cond.selects RX6 yX6_isAllowed yX6_isAllowed, Cond.initialized RX6, Cond.code yX6_isAllowed cX6_isAllowed 6 (some .boolean), Cond.constant RX6 56 (1000000), Cond.fieldLink RX6 19 "PartGraphsModel" "covers" "[Z", Cond.fieldLink RX6 23 "PartGraphsModel" "ways" "[Z", Cond.fieldLink RX6 26 "PartGraphsModel" "fastenings" "[I", Cond.fieldLink RX6 32 "PartGraphsModel" "hazards" "[Z", Cond.fieldLink RX6 35 "PartGraphsModel" "families" "[I", Cond.methodLink RX6 57 yX6_isPart, Cond.instanceMethod yX6_isPart, Cond.selects RX6 yX6_isPart yX6_isPart, Cond.code yX6_isPart cX6_isPart 3 (some .boolean), Cond.methodLink RX6 61 yX6_wayAt, Cond.static yX6_wayAt, Cond.code yX6_wayAt cX6_wayAt 4 (some .int), Cond.methodLink RX6 121 yX6_make, Cond.instanceMethod yX6_make, Cond.selects RX6 yX6_make yX6_make]
def wsX6_part_r2 : List Cond := [Cond.code yX6_make cX6_make 6 none, Cond.fieldLink RX6 13 "PartGraphsModel" "kinds" "[I", Cond.fieldLink RX6 16 "PartGraphsModel" "grams" "[I", Cond.fieldLink RX6 29 "PartGraphsModel" "ties" "[I", Cond.fieldLink RX6 38 "PartGraphsModel" "damages" "[I"]
def wsX6_part : List Cond := .code yX6_part cX6_part 4 (some .int) :: ((wsX6_part_r1 ++ wsX6_part_r2) ++ wsX60)
def wsX6_fasten_r1 : List Cond := [Cond.fieldLink RX6 52 "PartGraphsModel" "fault" "I", Cond.fieldLink RX6 26 "PartGraphsModel" "fastenings" "[I", Cond.methodLink RX6 65 yX6_isAllowed, Cond.instanceMethod yX6_isAllowed, Cond.selects RX6 yX6_isAllowed yX6_isAllowed, Cond.initialized RX6, Cond.code yX6_isAllowed cX6_isAllowed 6 (some .boolean), Cond.fieldLink RX6 7 "PartGraphsModel" "parts" "[I", Cond.constant RX6 56 (1000000), Cond.fieldLink RX6 19 "PartGraphsModel" "covers" "[Z", Cond.fieldLink RX6 23 "PartGraphsModel" "ways" "[Z", Cond.fieldLink RX6 32 "PartGraphsModel" "hazards" "[Z", Cond.fieldLink RX6 35 "PartGraphsModel" "families" "[I", Cond.methodLink RX6 57 yX6_isPart, Cond.instanceMethod yX6_isPart, Cond.selects RX6 yX6_isPart yX6_isPart, Cond.code yX6_isPart cX6_isPart 3 (some .boolean), Cond.methodLink RX6 61 yX6_wayAt, Cond.static yX6_wayAt, Cond.code yX6_wayAt cX6_wayAt 4 (some .int), Cond.methodLink RX6 121 yX6_make, Cond.instanceMethod yX6_make, Cond.selects RX6 yX6_make yX6_make, Cond.code yX6_make cX6_make 6 none]
def wsX6_fasten_r2 : List Cond := [Cond.fieldLink RX6 13 "PartGraphsModel" "kinds" "[I", Cond.fieldLink RX6 16 "PartGraphsModel" "grams" "[I", Cond.fieldLink RX6 29 "PartGraphsModel" "ties" "[I", Cond.fieldLink RX6 38 "PartGraphsModel" "damages" "[I"]
def wsX6_fasten : List Cond := .code yX6_fasten cX6_fasten 4 (some .int) :: ((wsX6_fasten_r1 ++ wsX6_fasten_r2) ++ wsX60)
def wsX6_tell_r1 : List Cond := [Cond.methodLink RX6 65 yX6_isAllowed, Cond.instanceMethod yX6_isAllowed, Cond.selects RX6 yX6_isAllowed yX6_isAllowed, Cond.initialized RX6, Cond.code yX6_isAllowed cX6_isAllowed 6 (some .boolean), Cond.fieldLink RX6 7 "PartGraphsModel" "parts" "[I", Cond.constant RX6 56 (1000000), Cond.fieldLink RX6 19 "PartGraphsModel" "covers" "[Z", Cond.fieldLink RX6 23 "PartGraphsModel" "ways" "[Z", Cond.fieldLink RX6 26 "PartGraphsModel" "fastenings" "[I", Cond.fieldLink RX6 32 "PartGraphsModel" "hazards" "[Z", Cond.fieldLink RX6 35 "PartGraphsModel" "families" "[I", Cond.methodLink RX6 57 yX6_isPart, Cond.instanceMethod yX6_isPart, Cond.selects RX6 yX6_isPart yX6_isPart, Cond.code yX6_isPart cX6_isPart 3 (some .boolean), Cond.methodLink RX6 61 yX6_wayAt, Cond.static yX6_wayAt, Cond.code yX6_wayAt cX6_wayAt 4 (some .int), Cond.methodLink RX6 121 yX6_make, Cond.instanceMethod yX6_make, Cond.selects RX6 yX6_make yX6_make, Cond.code yX6_make cX6_make 6 none, Cond.fieldLink RX6 13 "PartGraphsModel" "kinds" "[I"]
def wsX6_tell_r2 : List Cond := [Cond.fieldLink RX6 16 "PartGraphsModel" "grams" "[I", Cond.fieldLink RX6 29 "PartGraphsModel" "ties" "[I", Cond.fieldLink RX6 38 "PartGraphsModel" "damages" "[I"]
def wsX6_tell : List Cond := .code yX6_tell cX6_tell 6 (some .boolean) :: ((wsX6_tell_r1 ++ wsX6_tell_r2) ++ wsX60)
def wsX6_cover_r1 : List Cond := [Cond.fieldLink RX6 52 "PartGraphsModel" "fault" "I", Cond.methodLink RX6 134 yX6_tell, Cond.instanceMethod yX6_tell, Cond.selects RX6 yX6_tell yX6_tell, Cond.initialized RX6, Cond.code yX6_tell cX6_tell 6 (some .boolean), Cond.methodLink RX6 65 yX6_isAllowed, Cond.instanceMethod yX6_isAllowed, Cond.selects RX6 yX6_isAllowed yX6_isAllowed, Cond.code yX6_isAllowed cX6_isAllowed 6 (some .boolean), Cond.fieldLink RX6 7 "PartGraphsModel" "parts" "[I", Cond.constant RX6 56 (1000000), Cond.fieldLink RX6 19 "PartGraphsModel" "covers" "[Z", Cond.fieldLink RX6 23 "PartGraphsModel" "ways" "[Z", Cond.fieldLink RX6 26 "PartGraphsModel" "fastenings" "[I", Cond.fieldLink RX6 32 "PartGraphsModel" "hazards" "[Z", Cond.fieldLink RX6 35 "PartGraphsModel" "families" "[I", Cond.methodLink RX6 57 yX6_isPart, Cond.instanceMethod yX6_isPart, Cond.selects RX6 yX6_isPart yX6_isPart, Cond.code yX6_isPart cX6_isPart 3 (some .boolean), Cond.methodLink RX6 61 yX6_wayAt, Cond.static yX6_wayAt, Cond.code yX6_wayAt cX6_wayAt 4 (some .int)]
def wsX6_cover_r2 : List Cond := [Cond.methodLink RX6 121 yX6_make, Cond.instanceMethod yX6_make, Cond.selects RX6 yX6_make yX6_make, Cond.code yX6_make cX6_make 6 none, Cond.fieldLink RX6 13 "PartGraphsModel" "kinds" "[I", Cond.fieldLink RX6 16 "PartGraphsModel" "grams" "[I", Cond.fieldLink RX6 29 "PartGraphsModel" "ties" "[I", Cond.fieldLink RX6 38 "PartGraphsModel" "damages" "[I"]
def wsX6_cover : List Cond := .code yX6_cover cX6_cover 3 (some .boolean) :: ((wsX6_cover_r1 ++ wsX6_cover_r2) ++ wsX60)
def wsX6_way_r1 : List Cond := [Cond.fieldLink RX6 52 "PartGraphsModel" "fault" "I", Cond.methodLink RX6 57 yX6_isPart, Cond.instanceMethod yX6_isPart, Cond.selects RX6 yX6_isPart yX6_isPart, Cond.initialized RX6, Cond.code yX6_isPart cX6_isPart 3 (some .boolean), Cond.fieldLink RX6 7 "PartGraphsModel" "parts" "[I", Cond.methodLink RX6 134 yX6_tell, Cond.instanceMethod yX6_tell, Cond.selects RX6 yX6_tell yX6_tell, Cond.code yX6_tell cX6_tell 6 (some .boolean), Cond.methodLink RX6 65 yX6_isAllowed, Cond.instanceMethod yX6_isAllowed, Cond.selects RX6 yX6_isAllowed yX6_isAllowed, Cond.code yX6_isAllowed cX6_isAllowed 6 (some .boolean), Cond.constant RX6 56 (1000000), Cond.fieldLink RX6 19 "PartGraphsModel" "covers" "[Z", Cond.fieldLink RX6 23 "PartGraphsModel" "ways" "[Z", Cond.fieldLink RX6 26 "PartGraphsModel" "fastenings" "[I", Cond.fieldLink RX6 32 "PartGraphsModel" "hazards" "[Z", Cond.fieldLink RX6 35 "PartGraphsModel" "families" "[I", Cond.methodLink RX6 61 yX6_wayAt, Cond.static yX6_wayAt, Cond.code yX6_wayAt cX6_wayAt 4 (some .int)]
def wsX6_way_r2 : List Cond := [Cond.methodLink RX6 121 yX6_make, Cond.instanceMethod yX6_make, Cond.selects RX6 yX6_make yX6_make, Cond.code yX6_make cX6_make 6 none, Cond.fieldLink RX6 13 "PartGraphsModel" "kinds" "[I", Cond.fieldLink RX6 16 "PartGraphsModel" "grams" "[I", Cond.fieldLink RX6 29 "PartGraphsModel" "ties" "[I", Cond.fieldLink RX6 38 "PartGraphsModel" "damages" "[I"]
def wsX6_way : List Cond := .code yX6_way cX6_way 4 (some .boolean) :: ((wsX6_way_r1 ++ wsX6_way_r2) ++ wsX60)
def wsX6_option_r1 : List Cond := [Cond.fieldLink RX6 52 "PartGraphsModel" "fault" "I", Cond.methodLink RX6 134 yX6_tell, Cond.instanceMethod yX6_tell, Cond.selects RX6 yX6_tell yX6_tell, Cond.initialized RX6, Cond.code yX6_tell cX6_tell 6 (some .boolean), Cond.methodLink RX6 65 yX6_isAllowed, Cond.instanceMethod yX6_isAllowed, Cond.selects RX6 yX6_isAllowed yX6_isAllowed, Cond.code yX6_isAllowed cX6_isAllowed 6 (some .boolean), Cond.fieldLink RX6 7 "PartGraphsModel" "parts" "[I", Cond.constant RX6 56 (1000000), Cond.fieldLink RX6 19 "PartGraphsModel" "covers" "[Z", Cond.fieldLink RX6 23 "PartGraphsModel" "ways" "[Z", Cond.fieldLink RX6 26 "PartGraphsModel" "fastenings" "[I", Cond.fieldLink RX6 32 "PartGraphsModel" "hazards" "[Z", Cond.fieldLink RX6 35 "PartGraphsModel" "families" "[I", Cond.methodLink RX6 57 yX6_isPart, Cond.instanceMethod yX6_isPart, Cond.selects RX6 yX6_isPart yX6_isPart, Cond.code yX6_isPart cX6_isPart 3 (some .boolean), Cond.methodLink RX6 61 yX6_wayAt, Cond.static yX6_wayAt, Cond.code yX6_wayAt cX6_wayAt 4 (some .int)]
def wsX6_option_r2 : List Cond := [Cond.methodLink RX6 121 yX6_make, Cond.instanceMethod yX6_make, Cond.selects RX6 yX6_make yX6_make, Cond.code yX6_make cX6_make 6 none, Cond.fieldLink RX6 13 "PartGraphsModel" "kinds" "[I", Cond.fieldLink RX6 16 "PartGraphsModel" "grams" "[I", Cond.fieldLink RX6 29 "PartGraphsModel" "ties" "[I", Cond.fieldLink RX6 38 "PartGraphsModel" "damages" "[I"]
def wsX6_option : List Cond := .code yX6_option cX6_option 3 (some .boolean) :: ((wsX6_option_r1 ++ wsX6_option_r2) ++ wsX60)
def wsX6_hazard_r1 : List Cond := [Cond.fieldLink RX6 52 "PartGraphsModel" "fault" "I", Cond.methodLink RX6 134 yX6_tell, Cond.instanceMethod yX6_tell, Cond.selects RX6 yX6_tell yX6_tell, Cond.initialized RX6, Cond.code yX6_tell cX6_tell 6 (some .boolean), Cond.methodLink RX6 65 yX6_isAllowed, Cond.instanceMethod yX6_isAllowed, Cond.selects RX6 yX6_isAllowed yX6_isAllowed, Cond.code yX6_isAllowed cX6_isAllowed 6 (some .boolean), Cond.fieldLink RX6 7 "PartGraphsModel" "parts" "[I", Cond.constant RX6 56 (1000000), Cond.fieldLink RX6 19 "PartGraphsModel" "covers" "[Z", Cond.fieldLink RX6 23 "PartGraphsModel" "ways" "[Z", Cond.fieldLink RX6 26 "PartGraphsModel" "fastenings" "[I", Cond.fieldLink RX6 32 "PartGraphsModel" "hazards" "[Z", Cond.fieldLink RX6 35 "PartGraphsModel" "families" "[I", Cond.methodLink RX6 57 yX6_isPart, Cond.instanceMethod yX6_isPart, Cond.selects RX6 yX6_isPart yX6_isPart, Cond.code yX6_isPart cX6_isPart 3 (some .boolean), Cond.methodLink RX6 61 yX6_wayAt, Cond.static yX6_wayAt, Cond.code yX6_wayAt cX6_wayAt 4 (some .int)]
def wsX6_hazard_r2 : List Cond := [Cond.methodLink RX6 121 yX6_make, Cond.instanceMethod yX6_make, Cond.selects RX6 yX6_make yX6_make, Cond.code yX6_make cX6_make 6 none, Cond.fieldLink RX6 13 "PartGraphsModel" "kinds" "[I", Cond.fieldLink RX6 16 "PartGraphsModel" "grams" "[I", Cond.fieldLink RX6 29 "PartGraphsModel" "ties" "[I", Cond.fieldLink RX6 38 "PartGraphsModel" "damages" "[I"]
def wsX6_hazard : List Cond := .code yX6_hazard cX6_hazard 3 (some .boolean) :: ((wsX6_hazard_r1 ++ wsX6_hazard_r2) ++ wsX60)
def wsX6_damage : List Cond := .code yX6_damage cX6_damage 4 (some .int) :: ([.fieldLink RX6 52 "PartGraphsModel" "fault" "I", .fieldLink RX6 38 "PartGraphsModel" "damages" "[I", .methodLink RX6 65 yX6_isAllowed, .instanceMethod yX6_isAllowed, .selects RX6 yX6_isAllowed yX6_isAllowed, .initialized RX6, .code yX6_isAllowed cX6_isAllowed 6 (some .boolean), .fieldLink RX6 7 "PartGraphsModel" "parts" "[I", .constant RX6 56 (1000000), .fieldLink RX6 19 "PartGraphsModel" "covers" "[Z", .fieldLink RX6 23 "PartGraphsModel" "ways" "[Z", .fieldLink RX6 26 "PartGraphsModel" "fastenings" "[I", .fieldLink RX6 32 "PartGraphsModel" "hazards" "[Z", .fieldLink RX6 35 "PartGraphsModel" "families" "[I", .methodLink RX6 57 yX6_isPart, .instanceMethod yX6_isPart, .selects RX6 yX6_isPart yX6_isPart, .code yX6_isPart cX6_isPart 3 (some .boolean), .methodLink RX6 61 yX6_wayAt, .static yX6_wayAt, .code yX6_wayAt cX6_wayAt 4 (some .int)] ++ wsX60)
def wsX6_isOff : List Cond := .code yX6_isOff cX6_isOff 3 (some .boolean) :: ([])
def wsX6_isPlain : List Cond := .code yX6_isPlain cX6_isPlain 6 (some .boolean) :: ([.fieldLink RX6 7 "PartGraphsModel" "parts" "[I", .fieldLink RX6 19 "PartGraphsModel" "covers" "[Z", .methodLink RX6 138 yX6_isOff, .static yX6_isOff, .initialized RX6, .code yX6_isOff cX6_isOff 3 (some .boolean)] ++ wsX60)
def wsX6_isFree : List Cond := .code yX6_isFree cX6_isFree 8 (some .boolean) :: ([.fieldLink RX6 7 "PartGraphsModel" "parts" "[I", .fieldLink RX6 23 "PartGraphsModel" "ways" "[Z", .methodLink RX6 61 yX6_wayAt, .static yX6_wayAt, .initialized RX6, .code yX6_wayAt cX6_wayAt 4 (some .int), .methodLink RX6 138 yX6_isOff, .static yX6_isOff, .code yX6_isOff cX6_isOff 3 (some .boolean), .methodLink RX6 142 yX6_isPlain, .instanceMethod yX6_isPlain, .selects RX6 yX6_isPlain yX6_isPlain, .code yX6_isPlain cX6_isPlain 6 (some .boolean), .fieldLink RX6 19 "PartGraphsModel" "covers" "[Z"] ++ wsX60)
def wsX6_free : List Cond := .code yX6_free cX6_free 4 (some .boolean) :: ([.fieldLink RX6 52 "PartGraphsModel" "fault" "I", .methodLink RX6 57 yX6_isPart, .instanceMethod yX6_isPart, .selects RX6 yX6_isPart yX6_isPart, .initialized RX6, .code yX6_isPart cX6_isPart 3 (some .boolean), .fieldLink RX6 7 "PartGraphsModel" "parts" "[I", .methodLink RX6 146 yX6_isFree, .instanceMethod yX6_isFree, .selects RX6 yX6_isFree yX6_isFree, .code yX6_isFree cX6_isFree 8 (some .boolean), .fieldLink RX6 23 "PartGraphsModel" "ways" "[Z", .methodLink RX6 61 yX6_wayAt, .static yX6_wayAt, .code yX6_wayAt cX6_wayAt 4 (some .int), .methodLink RX6 138 yX6_isOff, .static yX6_isOff, .code yX6_isOff cX6_isOff 3 (some .boolean), .methodLink RX6 142 yX6_isPlain, .instanceMethod yX6_isPlain, .selects RX6 yX6_isPlain yX6_isPlain, .code yX6_isPlain cX6_isPlain 6 (some .boolean), .fieldLink RX6 19 "PartGraphsModel" "covers" "[Z"] ++ wsX60)
def wsX6_plain : List Cond := .code yX6_plain cX6_plain 4 (some .boolean) :: ([.fieldLink RX6 52 "PartGraphsModel" "fault" "I", .methodLink RX6 57 yX6_isPart, .instanceMethod yX6_isPart, .selects RX6 yX6_isPart yX6_isPart, .initialized RX6, .code yX6_isPart cX6_isPart 3 (some .boolean), .fieldLink RX6 7 "PartGraphsModel" "parts" "[I", .methodLink RX6 142 yX6_isPlain, .instanceMethod yX6_isPlain, .selects RX6 yX6_isPlain yX6_isPlain, .code yX6_isPlain cX6_isPlain 6 (some .boolean), .fieldLink RX6 19 "PartGraphsModel" "covers" "[Z", .methodLink RX6 138 yX6_isOff, .static yX6_isOff, .code yX6_isOff cX6_isOff 3 (some .boolean)] ++ wsX60)
def wsX6_allOff : List Cond := .code yX6_allOff cX6_allOff 6 (some .long) :: ([.fieldLink RX6 7 "PartGraphsModel" "parts" "[I", .methodLink RX6 146 yX6_isFree, .instanceMethod yX6_isFree, .selects RX6 yX6_isFree yX6_isFree, .initialized RX6, .code yX6_isFree cX6_isFree 8 (some .boolean), .fieldLink RX6 23 "PartGraphsModel" "ways" "[Z", .methodLink RX6 61 yX6_wayAt, .static yX6_wayAt, .code yX6_wayAt cX6_wayAt 4 (some .int), .methodLink RX6 138 yX6_isOff, .static yX6_isOff, .code yX6_isOff cX6_isOff 3 (some .boolean), .methodLink RX6 142 yX6_isPlain, .instanceMethod yX6_isPlain, .selects RX6 yX6_isPlain yX6_isPlain, .code yX6_isPlain cX6_isPlain 6 (some .boolean), .fieldLink RX6 19 "PartGraphsModel" "covers" "[Z"] ++ wsX60)
def wsX6_before_r1 : List Cond := [Cond.fieldLink RX6 52 "PartGraphsModel" "fault" "I", Cond.fieldLink RX6 7 "PartGraphsModel" "parts" "[I", Cond.methodLink RX6 57 yX6_isPart, Cond.instanceMethod yX6_isPart, Cond.selects RX6 yX6_isPart yX6_isPart, Cond.initialized RX6, Cond.code yX6_isPart cX6_isPart 3 (some .boolean), Cond.methodLink RX6 149 yX6_allOff, Cond.instanceMethod yX6_allOff, Cond.selects RX6 yX6_allOff yX6_allOff, Cond.code yX6_allOff cX6_allOff 6 (some .long), Cond.methodLink RX6 146 yX6_isFree, Cond.instanceMethod yX6_isFree, Cond.selects RX6 yX6_isFree yX6_isFree, Cond.code yX6_isFree cX6_isFree 8 (some .boolean), Cond.fieldLink RX6 23 "PartGraphsModel" "ways" "[Z", Cond.methodLink RX6 61 yX6_wayAt, Cond.static yX6_wayAt, Cond.code yX6_wayAt cX6_wayAt 4 (some .int), Cond.methodLink RX6 138 yX6_isOff, Cond.static yX6_isOff, Cond.code yX6_isOff cX6_isOff 3 (some .boolean), Cond.methodLink RX6 142 yX6_isPlain, Cond.instanceMethod yX6_isPlain]
def wsX6_before_r2 : List Cond := [Cond.selects RX6 yX6_isPlain yX6_isPlain, Cond.code yX6_isPlain cX6_isPlain 6 (some .boolean), Cond.fieldLink RX6 19 "PartGraphsModel" "covers" "[Z"]
def wsX6_before : List Cond := .code yX6_before cX6_before 5 (some .int) :: ((wsX6_before_r1 ++ wsX6_before_r2) ++ wsX60)
def wsX6_ring : List Cond := .code yX6_ring cX6_ring 6 (some .int) :: ([.fieldLink RX6 52 "PartGraphsModel" "fault" "I", .fieldLink RX6 7 "PartGraphsModel" "parts" "[I", .methodLink RX6 149 yX6_allOff, .instanceMethod yX6_allOff, .selects RX6 yX6_allOff yX6_allOff, .initialized RX6, .code yX6_allOff cX6_allOff 6 (some .long), .methodLink RX6 146 yX6_isFree, .instanceMethod yX6_isFree, .selects RX6 yX6_isFree yX6_isFree, .code yX6_isFree cX6_isFree 8 (some .boolean), .fieldLink RX6 23 "PartGraphsModel" "ways" "[Z", .methodLink RX6 61 yX6_wayAt, .static yX6_wayAt, .code yX6_wayAt cX6_wayAt 4 (some .int), .methodLink RX6 138 yX6_isOff, .static yX6_isOff, .code yX6_isOff cX6_isOff 3 (some .boolean), .methodLink RX6 142 yX6_isPlain, .instanceMethod yX6_isPlain, .selects RX6 yX6_isPlain yX6_isPlain, .code yX6_isPlain cX6_isPlain 6 (some .boolean), .fieldLink RX6 19 "PartGraphsModel" "covers" "[Z"] ++ wsX60)
def wsX6_sizeOf : List Cond := .code yX6_sizeOf cX6_sizeOf 4 (some .int) :: ([.fieldLink RX6 7 "PartGraphsModel" "parts" "[I", .fieldLink RX6 35 "PartGraphsModel" "families" "[I"] ++ wsX60)
def wsX6_orderOf : List Cond := .code yX6_orderOf cX6_orderOf 4 (some .int) :: ([.fieldLink RX6 35 "PartGraphsModel" "families" "[I"] ++ wsX60)
def wsX6_isIn : List Cond := .code yX6_isIn cX6_isIn 5 (some .boolean) :: ([.fieldLink RX6 35 "PartGraphsModel" "families" "[I", .methodLink RX6 152 yX6_sizeOf, .instanceMethod yX6_sizeOf, .selects RX6 yX6_sizeOf yX6_sizeOf, .initialized RX6, .code yX6_sizeOf cX6_sizeOf 4 (some .int), .fieldLink RX6 7 "PartGraphsModel" "parts" "[I", .methodLink RX6 158 yX6_orderOf, .instanceMethod yX6_orderOf, .selects RX6 yX6_orderOf yX6_orderOf, .code yX6_orderOf cX6_orderOf 4 (some .int)] ++ wsX60)
def wsX6_family : List Cond := .code yX6_family cX6_family 6 (some .int) :: ([.fieldLink RX6 52 "PartGraphsModel" "fault" "I", .fieldLink RX6 7 "PartGraphsModel" "parts" "[I", .methodLink RX6 152 yX6_sizeOf, .instanceMethod yX6_sizeOf, .selects RX6 yX6_sizeOf yX6_sizeOf, .initialized RX6, .code yX6_sizeOf cX6_sizeOf 4 (some .int), .fieldLink RX6 35 "PartGraphsModel" "families" "[I", .methodLink RX6 155 yX6_isIn, .instanceMethod yX6_isIn, .selects RX6 yX6_isIn yX6_isIn, .code yX6_isIn cX6_isIn 5 (some .boolean), .methodLink RX6 158 yX6_orderOf, .instanceMethod yX6_orderOf, .selects RX6 yX6_orderOf yX6_orderOf, .code yX6_orderOf cX6_orderOf 4 (some .int)] ++ wsX60)
def wsX6_pieceOf : List Cond := .code yX6_pieceOf cX6_pieceOf 11 (some .long) :: ([.fieldLink RX6 26 "PartGraphsModel" "fastenings" "[I", .fieldLink RX6 29 "PartGraphsModel" "ties" "[I", .methodLink RX6 138 yX6_isOff, .static yX6_isOff, .initialized RX6, .code yX6_isOff cX6_isOff 3 (some .boolean)] ++ wsX60)
def wsX6_holds : List Cond := .code yX6_holds cX6_holds 4 (some .boolean) :: ([.fieldLink RX6 52 "PartGraphsModel" "fault" "I", .methodLink RX6 57 yX6_isPart, .instanceMethod yX6_isPart, .selects RX6 yX6_isPart yX6_isPart, .initialized RX6, .code yX6_isPart cX6_isPart 3 (some .boolean), .fieldLink RX6 7 "PartGraphsModel" "parts" "[I", .methodLink RX6 161 yX6_pieceOf, .instanceMethod yX6_pieceOf, .selects RX6 yX6_pieceOf yX6_pieceOf, .code yX6_pieceOf cX6_pieceOf 11 (some .long), .fieldLink RX6 26 "PartGraphsModel" "fastenings" "[I", .fieldLink RX6 29 "PartGraphsModel" "ties" "[I", .methodLink RX6 138 yX6_isOff, .static yX6_isOff, .code yX6_isOff cX6_isOff 3 (some .boolean)] ++ wsX60)
def wsX6_weight : List Cond := .code yX6_weight cX6_weight 5 (some .long) :: ([.fieldLink RX6 52 "PartGraphsModel" "fault" "I", .fieldLink RX6 7 "PartGraphsModel" "parts" "[I", .fieldLink RX6 16 "PartGraphsModel" "grams" "[I", .methodLink RX6 57 yX6_isPart, .instanceMethod yX6_isPart, .selects RX6 yX6_isPart yX6_isPart, .initialized RX6, .code yX6_isPart cX6_isPart 3 (some .boolean), .methodLink RX6 161 yX6_pieceOf, .instanceMethod yX6_pieceOf, .selects RX6 yX6_pieceOf yX6_pieceOf, .code yX6_pieceOf cX6_pieceOf 11 (some .long), .fieldLink RX6 26 "PartGraphsModel" "fastenings" "[I", .fieldLink RX6 29 "PartGraphsModel" "ties" "[I", .methodLink RX6 138 yX6_isOff, .static yX6_isOff, .code yX6_isOff cX6_isOff 3 (some .boolean)] ++ wsX60)
def wsX6_loose : List Cond := .code yX6_loose cX6_loose 5 (some .int) :: ([.fieldLink RX6 52 "PartGraphsModel" "fault" "I", .fieldLink RX6 7 "PartGraphsModel" "parts" "[I", .methodLink RX6 161 yX6_pieceOf, .instanceMethod yX6_pieceOf, .selects RX6 yX6_pieceOf yX6_pieceOf, .initialized RX6, .code yX6_pieceOf cX6_pieceOf 11 (some .long), .fieldLink RX6 26 "PartGraphsModel" "fastenings" "[I", .fieldLink RX6 29 "PartGraphsModel" "ties" "[I", .methodLink RX6 138 yX6_isOff, .static yX6_isOff, .code yX6_isOff cX6_isOff 3 (some .boolean)] ++ wsX60)
def wsX6_alike : List Cond := .code yX6_alike cX6_alike 7 (some .int) :: ([.fieldLink RX6 52 "PartGraphsModel" "fault" "I", .fieldLink RX6 7 "PartGraphsModel" "parts" "[I", .fieldLink RX6 13 "PartGraphsModel" "kinds" "[I", .fieldLink RX6 16 "PartGraphsModel" "grams" "[I", .fieldLink RX6 32 "PartGraphsModel" "hazards" "[Z", .methodLink RX6 57 yX6_isPart, .instanceMethod yX6_isPart, .selects RX6 yX6_isPart yX6_isPart, .initialized RX6, .code yX6_isPart cX6_isPart 3 (some .boolean)] ++ wsX60)
def wsX6_put : List Cond := .code yX6_put cX6_put 2 none :: ([.fieldLink RX6 165 "PartGraphsModel" "written" "I", .fieldLink RX6 168 "PartGraphsModel" "wanted" "I", .fieldLink RX6 171 "PartGraphsModel" "found" "I"] ++ wsX60)
def wsX6_putWord : List Cond := .code yX6_putWord cX6_putWord 7 none :: ([.constantLong RX6 174 (255), .constantLong RX6 76 (256), .methodLink RX6 103 yX6_nameOf, .static yX6_nameOf, .initialized RX6, .code yX6_nameOf cX6_nameOf 1 (some .long), .constantLong RX6 78 (6180401780), .constantLong RX6 80 (1526583420274), .constantLong RX6 82 (24600953), .constantLong RX6 84 (394043711579502), .constantLong RX6 86 (396242851033700), .constantLong RX6 88 (404003756797806), .constantLong RX6 90 (391844586415973), .methodLink RX6 176 yX6_put, .instanceMethod yX6_put, .selects RX6 yX6_put yX6_put, .code yX6_put cX6_put 2 none, .fieldLink RX6 165 "PartGraphsModel" "written" "I", .fieldLink RX6 168 "PartGraphsModel" "wanted" "I", .fieldLink RX6 171 "PartGraphsModel" "found" "I"] ++ wsX60)
def wsX6_putNumber : List Cond := .code yX6_putNumber cX6_putNumber 3 none :: ([.methodLink RX6 176 yX6_put, .instanceMethod yX6_put, .selects RX6 yX6_put yX6_put, .initialized RX6, .code yX6_put cX6_put 2 none, .fieldLink RX6 165 "PartGraphsModel" "written" "I", .fieldLink RX6 168 "PartGraphsModel" "wanted" "I", .fieldLink RX6 171 "PartGraphsModel" "found" "I"] ++ wsX60)
def wsX6_putTwo_r1 : List Cond := [Cond.methodLink RX6 179 yX6_putWord, Cond.instanceMethod yX6_putWord, Cond.selects RX6 yX6_putWord yX6_putWord, Cond.initialized RX6, Cond.code yX6_putWord cX6_putWord 7 none, Cond.constantLong RX6 174 (255), Cond.constantLong RX6 76 (256), Cond.methodLink RX6 103 yX6_nameOf, Cond.static yX6_nameOf, Cond.code yX6_nameOf cX6_nameOf 1 (some .long), Cond.constantLong RX6 78 (6180401780), Cond.constantLong RX6 80 (1526583420274), Cond.constantLong RX6 82 (24600953), Cond.constantLong RX6 84 (394043711579502), Cond.constantLong RX6 86 (396242851033700), Cond.constantLong RX6 88 (404003756797806), Cond.constantLong RX6 90 (391844586415973), Cond.methodLink RX6 176 yX6_put, Cond.instanceMethod yX6_put, Cond.selects RX6 yX6_put yX6_put, Cond.code yX6_put cX6_put 2 none, Cond.fieldLink RX6 165 "PartGraphsModel" "written" "I", Cond.fieldLink RX6 168 "PartGraphsModel" "wanted" "I", Cond.fieldLink RX6 171 "PartGraphsModel" "found" "I"]
def wsX6_putTwo_r2 : List Cond := [Cond.methodLink RX6 182 yX6_putNumber, Cond.instanceMethod yX6_putNumber, Cond.selects RX6 yX6_putNumber yX6_putNumber, Cond.code yX6_putNumber cX6_putNumber 3 none]
def wsX6_putTwo : List Cond := .code yX6_putTwo cX6_putTwo 4 none :: ((wsX6_putTwo_r1 ++ wsX6_putTwo_r2) ++ wsX60)
def wsX6_putPart_r1 : List Cond := [Cond.fieldLink RX6 7 "PartGraphsModel" "parts" "[I", Cond.fieldLink RX6 19 "PartGraphsModel" "covers" "[Z", Cond.fieldLink RX6 23 "PartGraphsModel" "ways" "[Z", Cond.fieldLink RX6 32 "PartGraphsModel" "hazards" "[Z", Cond.fieldLink RX6 35 "PartGraphsModel" "families" "[I", Cond.fieldLink RX6 38 "PartGraphsModel" "damages" "[I", Cond.methodLink RX6 185 yX6_putTwo, Cond.instanceMethod yX6_putTwo, Cond.selects RX6 yX6_putTwo yX6_putTwo, Cond.initialized RX6, Cond.code yX6_putTwo cX6_putTwo 4 none, Cond.methodLink RX6 179 yX6_putWord, Cond.instanceMethod yX6_putWord, Cond.selects RX6 yX6_putWord yX6_putWord, Cond.code yX6_putWord cX6_putWord 7 none, Cond.constantLong RX6 174 (255), Cond.constantLong RX6 76 (256), Cond.methodLink RX6 103 yX6_nameOf, Cond.static yX6_nameOf, Cond.code yX6_nameOf cX6_nameOf 1 (some .long), Cond.constantLong RX6 78 (6180401780), Cond.constantLong RX6 80 (1526583420274), Cond.constantLong RX6 82 (24600953), Cond.constantLong RX6 84 (394043711579502)]
def wsX6_putPart_r2 : List Cond := [Cond.constantLong RX6 86 (396242851033700), Cond.constantLong RX6 88 (404003756797806), Cond.constantLong RX6 90 (391844586415973), Cond.methodLink RX6 176 yX6_put, Cond.instanceMethod yX6_put, Cond.selects RX6 yX6_put yX6_put, Cond.code yX6_put cX6_put 2 none, Cond.fieldLink RX6 165 "PartGraphsModel" "written" "I", Cond.fieldLink RX6 168 "PartGraphsModel" "wanted" "I", Cond.fieldLink RX6 171 "PartGraphsModel" "found" "I", Cond.methodLink RX6 182 yX6_putNumber, Cond.instanceMethod yX6_putNumber, Cond.selects RX6 yX6_putNumber yX6_putNumber, Cond.code yX6_putNumber cX6_putNumber 3 none, Cond.methodLink RX6 61 yX6_wayAt, Cond.static yX6_wayAt, Cond.code yX6_wayAt cX6_wayAt 4 (some .int)]
def wsX6_putPart : List Cond := .code yX6_putPart cX6_putPart 4 none :: ((wsX6_putPart_r1 ++ wsX6_putPart_r2) ++ wsX60)
def wsX6_write_r1 : List Cond := [Cond.fieldLink RX6 52 "PartGraphsModel" "fault" "I", Cond.fieldLink RX6 168 "PartGraphsModel" "wanted" "I", Cond.fieldLink RX6 165 "PartGraphsModel" "written" "I", Cond.fieldLink RX6 171 "PartGraphsModel" "found" "I", Cond.fieldLink RX6 7 "PartGraphsModel" "parts" "[I", Cond.fieldLink RX6 13 "PartGraphsModel" "kinds" "[I", Cond.fieldLink RX6 16 "PartGraphsModel" "grams" "[I", Cond.fieldLink RX6 26 "PartGraphsModel" "fastenings" "[I", Cond.fieldLink RX6 29 "PartGraphsModel" "ties" "[I", Cond.methodLink RX6 185 yX6_putTwo, Cond.instanceMethod yX6_putTwo, Cond.selects RX6 yX6_putTwo yX6_putTwo, Cond.initialized RX6, Cond.code yX6_putTwo cX6_putTwo 4 none, Cond.methodLink RX6 179 yX6_putWord, Cond.instanceMethod yX6_putWord, Cond.selects RX6 yX6_putWord yX6_putWord, Cond.code yX6_putWord cX6_putWord 7 none, Cond.constantLong RX6 174 (255), Cond.constantLong RX6 76 (256), Cond.methodLink RX6 103 yX6_nameOf, Cond.static yX6_nameOf, Cond.code yX6_nameOf cX6_nameOf 1 (some .long), Cond.constantLong RX6 78 (6180401780)]
def wsX6_write_r2 : List Cond := [Cond.constantLong RX6 80 (1526583420274), Cond.constantLong RX6 82 (24600953), Cond.constantLong RX6 84 (394043711579502), Cond.constantLong RX6 86 (396242851033700), Cond.constantLong RX6 88 (404003756797806), Cond.constantLong RX6 90 (391844586415973), Cond.methodLink RX6 176 yX6_put, Cond.instanceMethod yX6_put, Cond.selects RX6 yX6_put yX6_put, Cond.code yX6_put cX6_put 2 none, Cond.methodLink RX6 182 yX6_putNumber, Cond.instanceMethod yX6_putNumber, Cond.selects RX6 yX6_putNumber yX6_putNumber, Cond.code yX6_putNumber cX6_putNumber 3 none, Cond.methodLink RX6 189 yX6_putPart, Cond.instanceMethod yX6_putPart, Cond.selects RX6 yX6_putPart yX6_putPart, Cond.code yX6_putPart cX6_putPart 4 none, Cond.fieldLink RX6 19 "PartGraphsModel" "covers" "[Z", Cond.fieldLink RX6 23 "PartGraphsModel" "ways" "[Z", Cond.fieldLink RX6 32 "PartGraphsModel" "hazards" "[Z", Cond.fieldLink RX6 35 "PartGraphsModel" "families" "[I", Cond.fieldLink RX6 38 "PartGraphsModel" "damages" "[I", Cond.methodLink RX6 61 yX6_wayAt]
def wsX6_write_r3 : List Cond := [Cond.static yX6_wayAt, Cond.code yX6_wayAt cX6_wayAt 4 (some .int)]
def wsX6_write : List Cond := .code yX6_write cX6_write 3 (some .int) :: ((wsX6_write_r1 ++ (wsX6_write_r2 ++ wsX6_write_r3)) ++ wsX60)
def wsJx00060_init_a7421 : List Cond := .code yJx00060_init_a7421 cJx00060_init_a7421 2 none :: ([])
def wsL_way_r1 : List Cond := [Cond.methodLink RL 7 yX5_way, Cond.instanceMethod yX5_way, Cond.selects RX5 yX5_way yX5_way, Cond.initialized RX5, Cond.code yX5_way cX5_way 4 (some .boolean), Cond.fieldLink RX5 26 "PartGraphs" "product" "LPartGraphs$Product;", Cond.classLink RX5 71 RJx00060, Cond.instantiable RJx00060 6, Cond.initialized RJx00060, Cond.methodLink RX5 65 yX1_hasPart, Cond.instanceMethod yX1_hasPart, Cond.selects RX1 yX1_hasPart yX1_hasPart, Cond.initialized RX1, Cond.code yX1_hasPart cX1_hasPart 2 (some .boolean), Cond.fieldLink RX1 43 "PartGraphs$Product" "partCount" "I", Cond.methodLink RX5 68 yX5_isBelow, Cond.static yX5_isBelow, Cond.code yX5_isBelow cX5_isBelow 2 (some .boolean), Cond.methodLink RX5 78 yX1_addBar, Cond.instanceMethod yX1_addBar, Cond.selects RX1 yX1_addBar yX1_addBar, Cond.code yX1_addBar cX1_addBar 4 (some .boolean), Cond.fieldLink RX1 22 "PartGraphs$Product" "bars" "[I", Cond.methodLink RX1 77 yX1_allowsBar]
def wsL_way_r2 : List Cond := [Cond.instanceMethod yX1_allowsBar, Cond.selects RX1 yX1_allowsBar yX1_allowsBar, Cond.code yX1_allowsBar cX1_allowsBar 4 (some .boolean), Cond.methodLink RX1 64 yX1_areTwoParts, Cond.instanceMethod yX1_areTwoParts, Cond.selects RX1 yX1_areTwoParts yX1_areTwoParts, Cond.code yX1_areTwoParts cX1_areTwoParts 3 (some .boolean), Cond.methodLink RX1 60 yX1_barIndex, Cond.static yX1_barIndex, Cond.code yX1_barIndex cX1_barIndex 2 (some .int), Cond.static yX5_contains, Cond.code yX5_contains cX5_contains 2 (some .boolean)]
def wsL_way : List Cond := .codeWith yL_way cL_way 6 (some .int) [(0, 19, 22, 13)] :: ((wsL_way_r1 ++ wsL_way_r2) ++ wsX50 ++ wsJx000600 ++ wsX10)
def wsL_weight_r1 : List Cond := [Cond.methodLink RL 15 yX5_weight, Cond.instanceMethod yX5_weight, Cond.selects RX5 yX5_weight yX5_weight, Cond.initialized RX5, Cond.code yX5_weight cX5_weight 2 (some .long), Cond.fieldLink RX5 26 "PartGraphs" "product" "LPartGraphs$Product;", Cond.classLink RX5 71 RJx00060, Cond.instantiable RJx00060 6, Cond.initialized RJx00060, Cond.methodLink RX5 65 yX1_hasPart, Cond.instanceMethod yX1_hasPart, Cond.selects RX1 yX1_hasPart yX1_hasPart, Cond.initialized RX1, Cond.code yX1_hasPart cX1_hasPart 2 (some .boolean), Cond.fieldLink RX1 43 "PartGraphs$Product" "partCount" "I", Cond.methodLink RX5 99 yX1_piece, Cond.instanceMethod yX1_piece, Cond.selects RX1 yX1_piece yX1_piece, Cond.code yX1_piece cX1_piece 8 (some .int), Cond.fieldLink RX1 47 "PartGraphs$Product" "fasteningCount" "I", Cond.fieldLink RX1 34 "PartGraphs$Product" "firstEnds" "[I", Cond.fieldLink RX1 37 "PartGraphs$Product" "secondEnds" "[I", Cond.methodLink RX1 80 yX1_hasPart, Cond.static yX5_contains]
def wsL_weight_r2 : List Cond := [Cond.code yX5_contains cX5_contains 2 (some .boolean), Cond.methodLink RX5 110 yX1_gramsOf, Cond.instanceMethod yX1_gramsOf, Cond.selects RX1 yX1_gramsOf yX1_gramsOf, Cond.code yX1_gramsOf cX1_gramsOf 5 (some .long), Cond.fieldLink RX1 15 "PartGraphs$Product" "grams" "[J"]
def wsL_weight : List Cond := .codeWith yL_weight cL_weight 4 (some .int) [(0, 8, 11, 13)] :: ((wsL_weight_r1 ++ wsL_weight_r2) ++ wsX50 ++ wsJx000600 ++ wsX10)
def wsL_law_r1 : List Cond := [Cond.classLink RL 8 RX5, Cond.instantiable RX5 4, Cond.initialized RX5, Cond.classLink RL 20 RX6, Cond.instantiable RX6 18, Cond.initialized RX6, Cond.arrayClass .long, Cond.constantLong RL 33 (4294967295), Cond.methodLink RL 19 yX5_init, Cond.instanceMethod yX5_init, Cond.code yX5_init cX5_init 1 none, Cond.methodLink RX5 1 objectInit, Cond.instanceMethod objectInit, Cond.code objectInit ⟨#[0xb1]⟩ 1 none, Cond.classLink RX5 7 RX2, Cond.instantiable RX2 5, Cond.initialized RX2, Cond.fieldLink RX5 10 "PartGraphs" "reader" "LPartGraphs$Reader;", Cond.classLink RX5 16 RX3, Cond.instantiable RX3 2, Cond.initialized RX3, Cond.fieldLink RX5 19 "PartGraphs" "teller" "LPartGraphs$Teller;", Cond.classLink RX5 23 RX1, Cond.instantiable RX1 12]
def wsL_law_r2 : List Cond := [Cond.initialized RX1, Cond.fieldLink RX5 26 "PartGraphs" "product" "LPartGraphs$Product;", Cond.fieldLink RX5 30 "PartGraphs" "draft" "LPartGraphs$Product;", Cond.methodLink RX5 9 yX2_init, Cond.instanceMethod yX2_init, Cond.code yX2_init cX2_init 1 none, Cond.methodLink RX2 3 objectInit, Cond.arrayClass .char, Cond.fieldLink RX2 9 "PartGraphs$Reader" "text" "[C", Cond.arrayClass .int, Cond.fieldLink RX2 15 "PartGraphs$Reader" "numbers" "[I", Cond.instanceMethod yX3_init, Cond.code yX3_init cX3_init 1 none, Cond.methodLink RX3 3 objectInit, Cond.methodLink RX5 25 yX1_init, Cond.instanceMethod yX1_init, Cond.code yX1_init cX1_init 1 none, Cond.methodLink RX1 3 objectInit, Cond.fieldLink RX1 9 "PartGraphs$Product" "kinds" "[I", Cond.fieldLink RX1 15 "PartGraphs$Product" "grams" "[J", Cond.fieldLink RX1 19 "PartGraphs$Product" "coverers" "[I", Cond.fieldLink RX1 22 "PartGraphs$Product" "bars" "[I", Cond.fieldLink RX1 25 "PartGraphs$Product" "hazards" "[I", Cond.fieldLink RX1 28 "PartGraphs$Product" "families" "[I"]
def wsL_law_r3 : List Cond := [Cond.fieldLink RX1 31 "PartGraphs$Product" "damages" "[I", Cond.fieldLink RX1 34 "PartGraphs$Product" "firstEnds" "[I", Cond.fieldLink RX1 37 "PartGraphs$Product" "secondEnds" "[I", Cond.fieldLink RX1 40 "PartGraphs$Product" "fasteningKinds" "[I", Cond.methodLink RL 22 yX6_init, Cond.instanceMethod yX6_init, Cond.code yX6_init cX6_init 1 none, Cond.methodLink RX6 1 objectInit, Cond.fieldLink RX6 7 "PartGraphsModel" "parts" "[I", Cond.fieldLink RX6 13 "PartGraphsModel" "kinds" "[I", Cond.fieldLink RX6 16 "PartGraphsModel" "grams" "[I", Cond.arrayClass .boolean, Cond.fieldLink RX6 19 "PartGraphsModel" "covers" "[Z", Cond.fieldLink RX6 23 "PartGraphsModel" "ways" "[Z", Cond.fieldLink RX6 26 "PartGraphsModel" "fastenings" "[I", Cond.fieldLink RX6 29 "PartGraphsModel" "ties" "[I", Cond.fieldLink RX6 32 "PartGraphsModel" "hazards" "[Z", Cond.fieldLink RX6 35 "PartGraphsModel" "families" "[I", Cond.fieldLink RX6 38 "PartGraphsModel" "damages" "[I", Cond.arrayClass .byte, Cond.fieldLink RX6 41 "PartGraphsModel" "text" "[B", Cond.fieldLink RX6 45 "PartGraphsModel" "numbers" "[I", Cond.methodLink RX6 48 yX6_clear, Cond.instanceMethod yX6_clear]
def wsL_law_r4 : List Cond := [Cond.selects RX6 yX6_clear yX6_clear, Cond.code yX6_clear cX6_clear 3 none, Cond.methodLink RL 23 yX5_unit, Cond.instanceMethod yX5_unit, Cond.selects RX5 yX5_unit yX5_unit, Cond.code yX5_unit cX5_unit 2 (some .boolean), Cond.methodLink RX5 33 yX2_take, Cond.instanceMethod yX2_take, Cond.selects RX2 yX2_take yX2_take, Cond.code yX2_take cX2_take 2 (some .boolean), Cond.fieldLink RX2 19 "PartGraphs$Reader" "length" "I", Cond.methodLink RL 27 yX6_unit, Cond.instanceMethod yX6_unit, Cond.selects RX6 yX6_unit yX6_unit, Cond.code yX6_unit cX6_unit 2 (some .boolean), Cond.fieldLink RX6 52 "PartGraphsModel" "fault" "I", Cond.fieldLink RX6 69 "PartGraphsModel" "size" "I", Cond.methodLink RL 28 yX5_read, Cond.instanceMethod yX5_read, Cond.selects RX5 yX5_read yX5_read, Cond.code yX5_read cX5_read 4 (some .int), Cond.fieldLink RX5 49 "PartGraphs$Product" "partCount" "I", Cond.methodLink RX5 37 yX1_clear, Cond.instanceMethod yX1_clear]
def wsL_law_r5 : List Cond := [Cond.selects RX1 yX1_clear yX1_clear, Cond.code yX1_clear cX1_clear 1 none, Cond.fieldLink RX1 43 "PartGraphs$Product" "partCount" "I", Cond.fieldLink RX1 47 "PartGraphs$Product" "fasteningCount" "I", Cond.methodLink RX5 40 yX2_readAll, Cond.instanceMethod yX2_readAll, Cond.selects RX2 yX2_readAll yX2_readAll, Cond.code yX2_readAll cX2_readAll 3 (some .boolean), Cond.fieldLink RX2 23 "PartGraphs$Reader" "begin" "I", Cond.fieldLink RX2 26 "PartGraphs$Reader" "end" "I", Cond.methodLink RX2 29 yX2_findWord, Cond.instanceMethod yX2_findWord, Cond.selects RX2 yX2_findWord yX2_findWord, Cond.code yX2_findWord cX2_findWord 1 (some .boolean), Cond.methodLink RX2 63 yX2_isBlankAt, Cond.instanceMethod yX2_isBlankAt, Cond.selects RX2 yX2_isBlankAt yX2_isBlankAt, Cond.code yX2_isBlankAt cX2_isBlankAt 2 (some .boolean), Cond.methodLink RX2 33 yX2_readSentence, Cond.instanceMethod yX2_readSentence, Cond.selects RX2 yX2_readSentence yX2_readSentence, Cond.code yX2_readSentence cX2_readSentence 5 (some .boolean), Cond.fieldLink RX2 45 "PartGraphs$Verb" "numbers" "I", Cond.methodLink RX2 37 yX2_verbHere]
def wsL_law_r6 : List Cond := [Cond.instanceMethod yX2_verbHere, Cond.selects RX2 yX2_verbHere yX2_verbHere, Cond.code yX2_verbHere cX2_verbHere 2 (some (.object "PartGraphs$Verb")), Cond.fieldLink RX2 71 "PartGraphs$Verb" "word" "Ljava/lang/String;", Cond.methodLink RX2 75 yX2_isWordHere, Cond.instanceMethod yX2_isWordHere, Cond.selects RX2 yX2_isWordHere yX2_isWordHere, Cond.code yX2_isWordHere cX2_isWordHere 3 (some .boolean), Cond.methodLink RX2 79 yJ0_length_8abf5, Cond.instanceMethod yJ0_length_8abf5, Cond.selects RJ0 yJ0_length_8abf5 yJ0_length_8abf5, Cond.initialized RJ0, Cond.code yJ0_length_8abf5 cJ0_length_8abf5 1 (some .int), Cond.fieldLink RJ0 9 "java/lang/String" "value" "[B", Cond.methodLink RJ0 335 yJ0_coder_7d493, Cond.instanceMethod yJ0_coder_7d493, Cond.selects RJ0 yJ0_coder_7d493 yJ0_coder_7d493, Cond.code yJ0_coder_7d493 cJ0_coder_7d493 1 (some .byte), Cond.fieldLink RJ0 38 "java/lang/String" "COMPACT_STRINGS" "Z", Cond.fieldLink RJ0 15 "java/lang/String" "coder" "B", Cond.methodLink RX2 83 yJ0_charAt_5068e, Cond.instanceMethod yJ0_charAt_5068e, Cond.selects RJ0 yJ0_charAt_5068e yJ0_charAt_5068e, Cond.code yJ0_charAt_5068e cJ0_charAt_5068e 2 (some .char)]
def wsL_law_r7 : List Cond := [Cond.methodLink RJ0 492 yJ0_isLatin1_aae02, Cond.instanceMethod yJ0_isLatin1_aae02, Cond.selects RJ0 yJ0_isLatin1_aae02 yJ0_isLatin1_aae02, Cond.code yJ0_isLatin1_aae02 cJ0_isLatin1_aae02 1 (some .boolean), Cond.methodLink RJ0 495 yJ1_charAt_3b067, Cond.static yJ1_charAt_3b067, Cond.initialized RJ1, Cond.code yJ1_charAt_3b067 cJ1_charAt_3b067 2 (some .char), Cond.methodLink RJ1 9 yJ0_checkIndex_df160, Cond.static yJ0_checkIndex_df160, Cond.code yJ0_checkIndex_df160 cJ0_checkIndex_df160 2 none, Cond.fieldLink RJ0 1053 "jdk/internal/util/Preconditions" "SIOOBE_FORMATTER" "Ljava/util/function/BiFunction;", Cond.methodLink RJ0 1059 yJ3_checkIndex_8e157, Cond.static yJ3_checkIndex_8e157, Cond.initialized RJ3, Cond.code yJ3_checkIndex_8e157 cJ3_checkIndex_8e157 3 (some .int), Cond.methodLink RJ0 498 yJ2_charAt_3b067, Cond.static yJ2_charAt_3b067, Cond.initialized RJ2, Cond.code yJ2_charAt_3b067 cJ2_charAt_3b067 2 (some .char), Cond.methodLink RJ2 67 yJ2_checkIndex_2214a, Cond.static yJ2_checkIndex_2214a, Cond.code yJ2_checkIndex_2214a cJ2_checkIndex_2214a 2 none, Cond.methodLink RJ2 48 yJ2_length_9d52b]
def wsL_law_r8 : List Cond := [Cond.static yJ2_length_9d52b, Cond.code yJ2_length_9d52b cJ2_length_9d52b 1 (some .int), Cond.methodLink RJ2 414 yJ0_checkIndex_df160, Cond.methodLink RJ2 71 yJ2_getChar_3b067, Cond.static yJ2_getChar_3b067, Cond.code yJ2_getChar_3b067 cJ2_getChar_3b067 2 (some .char), Cond.fieldLink RJ2 44 "java/lang/StringUTF16" "$assertionsDisabled" "Z", Cond.fieldLink RJ2 59 "java/lang/StringUTF16" "HI_BYTE_SHIFT" "I", Cond.fieldLink RJ2 63 "java/lang/StringUTF16" "LO_BYTE_SHIFT" "I", Cond.methodLink RX2 41 yX2_canGoOn, Cond.instanceMethod yX2_canGoOn, Cond.selects RX2 yX2_canGoOn yX2_canGoOn, Cond.code yX2_canGoOn cX2_canGoOn 5 (some .boolean), Cond.methodLink RX2 59 yX1_allows, Cond.instanceMethod yX1_allows, Cond.selects RX1 yX1_allows yX1_allows, Cond.code yX1_allows cX1_allows 5 (some .boolean), Cond.fieldLink RX1 93 "PartGraphs$1" "$SwitchMap$PartGraphs$Verb" "[I", Cond.methodLink RX1 98 ⟨"PartGraphs$Verb", "ordinal", "()I"⟩, Cond.sameMethod "PartGraphs$Verb" "java/lang/Enum" "ordinal" "()I", Cond.selects RX4 ⟨"PartGraphs$Verb", "ordinal", "()I"⟩ yJx29ce0_ordinal_8abf5, Cond.instanceMethod yJx29ce0_ordinal_8abf5, Cond.initialized RJx29ce0, Cond.code yJx29ce0_ordinal_8abf5 cJx29ce0_ordinal_8abf5 1 (some .int)]
def wsL_law_r9 : List Cond := [Cond.fieldLink RJx29ce0 7 "java/lang/Enum" "ordinal" "I", Cond.methodLink RX1 56 yX1_allowsPart, Cond.instanceMethod yX1_allowsPart, Cond.selects RX1 yX1_allowsPart yX1_allowsPart, Cond.code yX1_allowsPart cX1_allowsPart 4 (some .boolean), Cond.constantLong RX1 54 (1000000), Cond.static yX5_isBelow, Cond.code yX5_isBelow cX5_isBelow 2 (some .boolean), Cond.methodLink RX1 74 yX1_allowsCover, Cond.instanceMethod yX1_allowsCover, Cond.selects RX1 yX1_allowsCover yX1_allowsCover, Cond.code yX1_allowsCover cX1_allowsCover 3 (some .boolean), Cond.methodLink RX1 64 yX1_areTwoParts, Cond.instanceMethod yX1_areTwoParts, Cond.selects RX1 yX1_areTwoParts yX1_areTwoParts, Cond.code yX1_areTwoParts cX1_areTwoParts 3 (some .boolean), Cond.static yX5_contains, Cond.code yX5_contains cX5_contains 2 (some .boolean), Cond.methodLink RX1 77 yX1_allowsBar, Cond.instanceMethod yX1_allowsBar, Cond.selects RX1 yX1_allowsBar yX1_allowsBar, Cond.code yX1_allowsBar cX1_allowsBar 4 (some .boolean), Cond.methodLink RX1 60 yX1_barIndex, Cond.static yX1_barIndex]
def wsL_law_r10 : List Cond := [Cond.code yX1_barIndex cX1_barIndex 2 (some .int), Cond.methodLink RX1 67 yX1_allowsFastening, Cond.instanceMethod yX1_allowsFastening, Cond.selects RX1 yX1_allowsFastening yX1_allowsFastening, Cond.code yX1_allowsFastening cX1_allowsFastening 4 (some .boolean), Cond.methodLink RX1 84 yX1_allowsHazard, Cond.instanceMethod yX1_allowsHazard, Cond.selects RX1 yX1_allowsHazard yX1_allowsHazard, Cond.code yX1_allowsHazard cX1_allowsHazard 3 (some .boolean), Cond.methodLink RX1 80 yX1_hasPart, Cond.instanceMethod yX1_hasPart, Cond.selects RX1 yX1_hasPart yX1_hasPart, Cond.code yX1_hasPart cX1_hasPart 2 (some .boolean), Cond.methodLink RX1 87 yX1_allowsOption, Cond.instanceMethod yX1_allowsOption, Cond.selects RX1 yX1_allowsOption yX1_allowsOption, Cond.code yX1_allowsOption cX1_allowsOption 3 (some .boolean), Cond.methodLink RX1 90 yX1_allowsDamage, Cond.instanceMethod yX1_allowsDamage, Cond.selects RX1 yX1_allowsDamage yX1_allowsDamage, Cond.code yX1_allowsDamage cX1_allowsDamage 3 (some .boolean), Cond.methodLink RX2 49 yX2_numberHere, Cond.instanceMethod yX2_numberHere, Cond.selects RX2 yX2_numberHere yX2_numberHere]
def wsL_law_r11 : List Cond := [Cond.code yX2_numberHere cX2_numberHere 3 (some .int), Cond.methodLink RX2 53 yX1_carryOut, Cond.instanceMethod yX1_carryOut, Cond.selects RX1 yX1_carryOut yX1_carryOut, Cond.code yX1_carryOut cX1_carryOut 5 none, Cond.methodLink RX1 104 yX1_addPart, Cond.instanceMethod yX1_addPart, Cond.selects RX1 yX1_addPart yX1_addPart, Cond.code yX1_addPart cX1_addPart 6 (some .int), Cond.methodLink RX1 108 yX1_addCover, Cond.instanceMethod yX1_addCover, Cond.selects RX1 yX1_addCover yX1_addCover, Cond.code yX1_addCover cX1_addCover 3 (some .boolean), Cond.methodLink RX1 111 yX1_addBar, Cond.instanceMethod yX1_addBar, Cond.selects RX1 yX1_addBar yX1_addBar, Cond.code yX1_addBar cX1_addBar 4 (some .boolean), Cond.methodLink RX1 114 yX1_addFastening, Cond.instanceMethod yX1_addFastening, Cond.selects RX1 yX1_addFastening yX1_addFastening, Cond.code yX1_addFastening cX1_addFastening 5 (some .int), Cond.methodLink RX1 118 yX1_addHazard, Cond.instanceMethod yX1_addHazard, Cond.selects RX1 yX1_addHazard yX1_addHazard]
def wsL_law_r12 : List Cond := [Cond.code yX1_addHazard cX1_addHazard 3 (some .boolean), Cond.methodLink RX1 121 yX1_addOption, Cond.instanceMethod yX1_addOption, Cond.selects RX1 yX1_addOption yX1_addOption, Cond.code yX1_addOption cX1_addOption 3 (some .boolean), Cond.methodLink RX1 124 yX1_setDamage, Cond.instanceMethod yX1_setDamage, Cond.selects RX1 yX1_setDamage yX1_setDamage, Cond.code yX1_setDamage cX1_setDamage 4 (some .int), Cond.methodLink RX5 44 yX2_wordBegin, Cond.instanceMethod yX2_wordBegin, Cond.selects RX2 yX2_wordBegin yX2_wordBegin, Cond.code yX2_wordBegin cX2_wordBegin 1 (some .int), Cond.methodLink RX5 48 yX2_clear, Cond.instanceMethod yX2_clear, Cond.selects RX2 yX2_clear yX2_clear, Cond.code yX2_clear cX2_clear 1 none, Cond.methodLink RL 32 yX6_read, Cond.instanceMethod yX6_read, Cond.selects RX6 yX6_read yX6_read, Cond.code yX6_read cX6_read 2 (some .int), Cond.fieldLink RX6 92 "PartGraphsModel" "at" "I", Cond.methodLink RX6 111 yX6_wordBegin, Cond.instanceMethod yX6_wordBegin]
def wsL_law_r13 : List Cond := [Cond.selects RX6 yX6_wordBegin yX6_wordBegin, Cond.code yX6_wordBegin cX6_wordBegin 3 (some .int), Cond.methodLink RX6 72 yX6_isGap, Cond.instanceMethod yX6_isGap, Cond.selects RX6 yX6_isGap yX6_isGap, Cond.code yX6_isGap cX6_isGap 2 (some .boolean), Cond.methodLink RX6 125 yX6_readSentence, Cond.instanceMethod yX6_readSentence, Cond.selects RX6 yX6_readSentence yX6_readSentence, Cond.code yX6_readSentence cX6_readSentence 6 (some .boolean), Cond.methodLink RX6 95 yX6_wordEnd, Cond.instanceMethod yX6_wordEnd, Cond.selects RX6 yX6_wordEnd yX6_wordEnd, Cond.code yX6_wordEnd cX6_wordEnd 3 (some .int), Cond.methodLink RX6 99 yX6_wordOf, Cond.instanceMethod yX6_wordOf, Cond.selects RX6 yX6_wordOf yX6_wordOf, Cond.code yX6_wordOf cX6_wordOf 6 (some .long), Cond.constantLong RX6 76 (256), Cond.methodLink RX6 103 yX6_nameOf, Cond.static yX6_nameOf, Cond.code yX6_nameOf cX6_nameOf 1 (some .long), Cond.constantLong RX6 78 (6180401780), Cond.constantLong RX6 80 (1526583420274)]
def wsL_law_r14 : List Cond := [Cond.constantLong RX6 82 (24600953), Cond.constantLong RX6 84 (394043711579502), Cond.constantLong RX6 86 (396242851033700), Cond.constantLong RX6 88 (404003756797806), Cond.constantLong RX6 90 (391844586415973), Cond.methodLink RX6 107 yX6_canBe, Cond.instanceMethod yX6_canBe, Cond.selects RX6 yX6_canBe yX6_canBe, Cond.code yX6_canBe cX6_canBe 10 (some .boolean), Cond.methodLink RX6 65 yX6_isAllowed, Cond.instanceMethod yX6_isAllowed, Cond.selects RX6 yX6_isAllowed yX6_isAllowed, Cond.code yX6_isAllowed cX6_isAllowed 6 (some .boolean), Cond.constant RX6 56 (1000000), Cond.methodLink RX6 57 yX6_isPart, Cond.instanceMethod yX6_isPart, Cond.selects RX6 yX6_isPart yX6_isPart, Cond.code yX6_isPart cX6_isPart 3 (some .boolean), Cond.methodLink RX6 61 yX6_wayAt, Cond.static yX6_wayAt, Cond.code yX6_wayAt cX6_wayAt 4 (some .int), Cond.methodLink RX6 114 yX6_numbersOf, Cond.static yX6_numbersOf, Cond.code yX6_numbersOf cX6_numbersOf 1 (some .int)]
def wsL_law_r15 : List Cond := [Cond.methodLink RX6 117 yX6_numberOf, Cond.instanceMethod yX6_numberOf, Cond.selects RX6 yX6_numberOf yX6_numberOf, Cond.code yX6_numberOf cX6_numberOf 6 (some .int), Cond.methodLink RX6 121 yX6_make, Cond.instanceMethod yX6_make, Cond.selects RX6 yX6_make yX6_make, Cond.code yX6_make cX6_make 6 none, Cond.methodLink RX6 129 yX6_take, Cond.instanceMethod yX6_take, Cond.selects RX6 yX6_take yX6_take, Cond.code yX6_take cX6_take 2 none, Cond.methodLink RL 35 yX5_part, Cond.instanceMethod yX5_part, Cond.selects RX5 yX5_part yX5_part, Cond.code yX5_part cX5_part 4 (some .int), Cond.methodLink RX5 53 yX1_addPart, Cond.methodLink RL 39 yX6_part, Cond.instanceMethod yX6_part, Cond.selects RX6 yX6_part yX6_part, Cond.code yX6_part cX6_part 4 (some .int), Cond.constantLong RX6 132 (1000000), Cond.methodLink RL 40 yX5_fasten, Cond.instanceMethod yX5_fasten]
def wsL_law_r16 : List Cond := [Cond.selects RX5 yX5_fasten yX5_fasten, Cond.code yX5_fasten cX5_fasten 4 (some .int), Cond.methodLink RX5 57 yX1_addFastening, Cond.methodLink RL 44 yX6_fasten, Cond.instanceMethod yX6_fasten, Cond.selects RX6 yX6_fasten yX6_fasten, Cond.code yX6_fasten cX6_fasten 4 (some .int), Cond.methodLink RL 45 yX5_cover, Cond.instanceMethod yX5_cover, Cond.selects RX5 yX5_cover yX5_cover, Cond.code yX5_cover cX5_cover 3 (some .boolean), Cond.methodLink RX5 61 yX1_addCover, Cond.methodLink RL 49 yX6_cover, Cond.instanceMethod yX6_cover, Cond.selects RX6 yX6_cover yX6_cover, Cond.code yX6_cover cX6_cover 3 (some .boolean), Cond.methodLink RX6 134 yX6_tell, Cond.instanceMethod yX6_tell, Cond.selects RX6 yX6_tell yX6_tell, Cond.code yX6_tell cX6_tell 6 (some .boolean), Cond.methodLink RL 50 yL_way, Cond.static yL_way, Cond.initialized RL, Cond.codeWith yL_way cL_way 6 (some .int) [(0, 19, 22, 13)]]
def wsL_law_r17 : List Cond := [Cond.methodLink RL 7 yX5_way, Cond.instanceMethod yX5_way, Cond.selects RX5 yX5_way yX5_way, Cond.code yX5_way cX5_way 4 (some .boolean), Cond.classLink RX5 71 RJx00060, Cond.instantiable RJx00060 6, Cond.initialized RJx00060, Cond.methodLink RX5 65 yX1_hasPart, Cond.methodLink RX5 68 yX5_isBelow, Cond.methodLink RX5 78 yX1_addBar, Cond.methodLink RL 55 yX6_way, Cond.instanceMethod yX6_way, Cond.selects RX6 yX6_way yX6_way, Cond.code yX6_way cX6_way 4 (some .boolean), Cond.methodLink RL 56 yX6_thrown, Cond.instanceMethod yX6_thrown, Cond.selects RX6 yX6_thrown yX6_thrown, Cond.code yX6_thrown cX6_thrown 1 (some .int), Cond.methodLink RL 59 yX5_before, Cond.instanceMethod yX5_before, Cond.selects RX5 yX5_before yX5_before, Cond.code yX5_before cX5_before 3 (some .int), Cond.methodLink RX5 82 yX1_mustComeOffBefore, Cond.instanceMethod yX1_mustComeOffBefore]
def wsL_law_r18 : List Cond := [Cond.selects RX1 yX1_mustComeOffBefore yX1_mustComeOffBefore, Cond.code yX1_mustComeOffBefore cX1_mustComeOffBefore 4 (some .int), Cond.methodLink RX1 133 yX1_comingOff, Cond.instanceMethod yX1_comingOff, Cond.selects RX1 yX1_comingOff yX1_comingOff, Cond.code yX1_comingOff cX1_comingOff 6 (some .int), Cond.methodLink RX1 130 yX1_isFree, Cond.instanceMethod yX1_isFree, Cond.selects RX1 yX1_isFree yX1_isFree, Cond.code yX1_isFree cX1_isFree 4 (some .boolean), Cond.methodLink RX1 127 yX1_isPlain, Cond.instanceMethod yX1_isPlain, Cond.selects RX1 yX1_isPlain yX1_isPlain, Cond.code yX1_isPlain cX1_isPlain 3 (some .boolean), Cond.methodLink RX5 86 yX5_memberOf, Cond.static yX5_memberOf, Cond.code yX5_memberOf cX5_memberOf 4 (some .int), Cond.methodLink RX5 102 yX5_contains, Cond.methodLink RL 63 yX6_before, Cond.instanceMethod yX6_before, Cond.selects RX6 yX6_before yX6_before, Cond.code yX6_before cX6_before 5 (some .int), Cond.methodLink RX6 149 yX6_allOff, Cond.instanceMethod yX6_allOff]
def wsL_law_r19 : List Cond := [Cond.selects RX6 yX6_allOff yX6_allOff, Cond.code yX6_allOff cX6_allOff 6 (some .long), Cond.methodLink RX6 146 yX6_isFree, Cond.instanceMethod yX6_isFree, Cond.selects RX6 yX6_isFree yX6_isFree, Cond.code yX6_isFree cX6_isFree 8 (some .boolean), Cond.methodLink RX6 138 yX6_isOff, Cond.static yX6_isOff, Cond.code yX6_isOff cX6_isOff 3 (some .boolean), Cond.methodLink RX6 142 yX6_isPlain, Cond.instanceMethod yX6_isPlain, Cond.selects RX6 yX6_isPlain yX6_isPlain, Cond.code yX6_isPlain cX6_isPlain 6 (some .boolean), Cond.methodLink RL 64 yX5_ring, Cond.instanceMethod yX5_ring, Cond.selects RX5 yX5_ring yX5_ring, Cond.code yX5_ring cX5_ring 2 (some .int), Cond.methodLink RX5 90 yX1_neverComingOff, Cond.instanceMethod yX1_neverComingOff, Cond.selects RX1 yX1_neverComingOff yX1_neverComingOff, Cond.code yX1_neverComingOff cX1_neverComingOff 1 (some .int), Cond.methodLink RL 68 yX6_ring, Cond.instanceMethod yX6_ring, Cond.selects RX6 yX6_ring yX6_ring]
def wsL_law_r20 : List Cond := [Cond.code yX6_ring cX6_ring 6 (some .int), Cond.methodLink RL 69 yX5_option, Cond.instanceMethod yX5_option, Cond.selects RX5 yX5_option yX5_option, Cond.code yX5_option cX5_option 3 (some .boolean), Cond.methodLink RX5 93 yX1_addOption, Cond.methodLink RL 72 yX6_option, Cond.instanceMethod yX6_option, Cond.selects RX6 yX6_option yX6_option, Cond.code yX6_option cX6_option 3 (some .boolean), Cond.methodLink RL 73 yX5_family, Cond.instanceMethod yX5_family, Cond.selects RX5 yX5_family yX5_family, Cond.code yX5_family cX5_family 3 (some .int), Cond.methodLink RX5 96 yX1_variant, Cond.instanceMethod yX1_variant, Cond.selects RX1 yX1_variant yX1_variant, Cond.code yX1_variant cX1_variant 7 (some .int), Cond.methodLink RX1 137 yX1_membersOf, Cond.instanceMethod yX1_membersOf, Cond.selects RX1 yX1_membersOf yX1_membersOf, Cond.code yX1_membersOf cX1_membersOf 4 (some .int), Cond.methodLink RX1 140 yJ6_bitCount_0f7a4, Cond.static yJ6_bitCount_0f7a4]
def wsL_law_r21 : List Cond := [Cond.initialized RJ6, Cond.code yJ6_bitCount_0f7a4 cJ6_bitCount_0f7a4 1 (some .int), Cond.constant RJ6 265 (1431655765), Cond.constant RJ6 266 (858993459), Cond.constant RJ6 267 (252645135), Cond.methodLink RL 76 yX6_family, Cond.instanceMethod yX6_family, Cond.selects RX6 yX6_family yX6_family, Cond.code yX6_family cX6_family 6 (some .int), Cond.methodLink RX6 152 yX6_sizeOf, Cond.instanceMethod yX6_sizeOf, Cond.selects RX6 yX6_sizeOf yX6_sizeOf, Cond.code yX6_sizeOf cX6_sizeOf 4 (some .int), Cond.methodLink RX6 155 yX6_isIn, Cond.instanceMethod yX6_isIn, Cond.selects RX6 yX6_isIn yX6_isIn, Cond.code yX6_isIn cX6_isIn 5 (some .boolean), Cond.methodLink RX6 158 yX6_orderOf, Cond.instanceMethod yX6_orderOf, Cond.selects RX6 yX6_orderOf yX6_orderOf, Cond.code yX6_orderOf cX6_orderOf 4 (some .int), Cond.methodLink RL 77 yX5_holds, Cond.instanceMethod yX5_holds, Cond.selects RX5 yX5_holds yX5_holds]
def wsL_law_r22 : List Cond := [Cond.code yX5_holds cX5_holds 4 (some .boolean), Cond.methodLink RX5 99 yX1_piece, Cond.instanceMethod yX1_piece, Cond.selects RX1 yX1_piece yX1_piece, Cond.code yX1_piece cX1_piece 8 (some .int), Cond.methodLink RL 80 yX6_holds, Cond.instanceMethod yX6_holds, Cond.selects RX6 yX6_holds yX6_holds, Cond.code yX6_holds cX6_holds 4 (some .boolean), Cond.methodLink RX6 161 yX6_pieceOf, Cond.instanceMethod yX6_pieceOf, Cond.selects RX6 yX6_pieceOf yX6_pieceOf, Cond.code yX6_pieceOf cX6_pieceOf 11 (some .long), Cond.methodLink RL 81 yX5_alike, Cond.instanceMethod yX5_alike, Cond.selects RX5 yX5_alike yX5_alike, Cond.code yX5_alike cX5_alike 3 (some .int), Cond.methodLink RX5 105 yX1_partsLike, Cond.instanceMethod yX1_partsLike, Cond.selects RX1 yX1_partsLike yX1_partsLike, Cond.code yX1_partsLike cX1_partsLike 4 (some .int), Cond.methodLink RL 84 yX6_alike, Cond.instanceMethod yX6_alike, Cond.selects RX6 yX6_alike yX6_alike]
def wsL_law_r23 : List Cond := [Cond.code yX6_alike cX6_alike 7 (some .int), Cond.methodLink RL 85 yL_weight, Cond.static yL_weight, Cond.codeWith yL_weight cL_weight 4 (some .int) [(0, 8, 11, 13)], Cond.methodLink RL 15 yX5_weight, Cond.instanceMethod yX5_weight, Cond.selects RX5 yX5_weight yX5_weight, Cond.code yX5_weight cX5_weight 2 (some .long), Cond.methodLink RX5 110 yX1_gramsOf, Cond.instanceMethod yX1_gramsOf, Cond.selects RX1 yX1_gramsOf yX1_gramsOf, Cond.code yX1_gramsOf cX1_gramsOf 5 (some .long), Cond.methodLink RL 88 yX6_weight, Cond.instanceMethod yX6_weight, Cond.selects RX6 yX6_weight yX6_weight, Cond.code yX6_weight cX6_weight 5 (some .long), Cond.methodLink RL 89 yX5_hazard, Cond.instanceMethod yX5_hazard, Cond.selects RX5 yX5_hazard yX5_hazard, Cond.code yX5_hazard cX5_hazard 3 (some .boolean), Cond.methodLink RX5 114 yX1_addHazard, Cond.methodLink RL 92 yX6_hazard, Cond.instanceMethod yX6_hazard, Cond.selects RX6 yX6_hazard yX6_hazard]
def wsL_law_r24 : List Cond := [Cond.code yX6_hazard cX6_hazard 3 (some .boolean), Cond.methodLink RL 93 yX5_damage, Cond.instanceMethod yX5_damage, Cond.selects RX5 yX5_damage yX5_damage, Cond.code yX5_damage cX5_damage 3 (some .int), Cond.methodLink RX5 117 yX1_setDamage, Cond.methodLink RL 96 yX6_damage, Cond.instanceMethod yX6_damage, Cond.selects RX6 yX6_damage yX6_damage, Cond.code yX6_damage cX6_damage 4 (some .int), Cond.methodLink RL 97 yX5_free, Cond.instanceMethod yX5_free, Cond.selects RX5 yX5_free yX5_free, Cond.code yX5_free cX5_free 4 (some .boolean), Cond.methodLink RX5 120 yX5_lowBits, Cond.static yX5_lowBits, Cond.code yX5_lowBits cX5_lowBits 2 (some .int), Cond.constantLong RX5 137 (1023), Cond.methodLink RX5 124 yX1_isFree, Cond.methodLink RL 101 yX6_free, Cond.instanceMethod yX6_free, Cond.selects RX6 yX6_free yX6_free, Cond.code yX6_free cX6_free 4 (some .boolean), Cond.methodLink RL 102 yX5_plain]
def wsL_law_r25 : List Cond := [Cond.instanceMethod yX5_plain, Cond.selects RX5 yX5_plain yX5_plain, Cond.code yX5_plain cX5_plain 4 (some .boolean), Cond.methodLink RX5 127 yX1_isPlain, Cond.methodLink RL 105 yX6_plain, Cond.instanceMethod yX6_plain, Cond.selects RX6 yX6_plain yX6_plain, Cond.code yX6_plain cX6_plain 4 (some .boolean), Cond.methodLink RL 106 yX5_write, Cond.instanceMethod yX5_write, Cond.selects RX5 yX5_write yX5_write, Cond.code yX5_write cX5_write 2 (some .int), Cond.methodLink RX5 130 yX3_byteAt, Cond.instanceMethod yX3_byteAt, Cond.selects RX3 yX3_byteAt yX3_byteAt, Cond.code yX3_byteAt cX3_byteAt 4 (some .int), Cond.fieldLink RX3 9 "PartGraphs$Teller" "left" "I", Cond.fieldLink RX3 15 "PartGraphs$Teller" "found" "I", Cond.fieldLink RX3 22 "PartGraphs$Product" "partCount" "I", Cond.methodLink RX3 18 yX3_tellParts, Cond.instanceMethod yX3_tellParts, Cond.selects RX3 yX3_tellParts yX3_tellParts, Cond.code yX3_tellParts cX3_tellParts 3 none, Cond.fieldLink RX3 34 "PartGraphs$Verb" "PART" "LPartGraphs$Verb;"]
def wsL_law_r26 : List Cond := [Cond.fieldLink RX3 44 "PartGraphs$Product" "kinds" "[I", Cond.fieldLink RX3 52 "PartGraphs$Product" "grams" "[J", Cond.methodLink RX3 40 yX3_tellWord, Cond.instanceMethod yX3_tellWord, Cond.selects RX3 yX3_tellWord yX3_tellWord, Cond.code yX3_tellWord cX3_tellWord 3 none, Cond.fieldLink RX3 121 "PartGraphs$Verb" "word" "Ljava/lang/String;", Cond.methodLink RX3 125 yJ0_length_8abf5, Cond.methodLink RX3 131 yJ0_charAt_5068e, Cond.methodLink RX3 135 yX3_tellByte, Cond.instanceMethod yX3_tellByte, Cond.selects RX3 yX3_tellByte yX3_tellByte, Cond.code yX3_tellByte cX3_tellByte 2 none, Cond.methodLink RX3 48 yX3_tellNumber, Cond.instanceMethod yX3_tellNumber, Cond.selects RX3 yX3_tellNumber yX3_tellNumber, Cond.code yX3_tellNumber cX3_tellNumber 6 none, Cond.constantLong RX3 139 (10), Cond.methodLink RX3 27 yX3_tellDetails, Cond.instanceMethod yX3_tellDetails, Cond.selects RX3 yX3_tellDetails yX3_tellDetails, Cond.code yX3_tellDetails cX3_tellDetails 4 none, Cond.fieldLink RX3 56 "PartGraphs$Verb" "COVER" "LPartGraphs$Verb;", Cond.fieldLink RX3 67 "PartGraphs$Product" "bars" "[I"]
def wsL_law_r27 : List Cond := [Cond.fieldLink RX3 78 "PartGraphs$Verb" "HAZARD" "LPartGraphs$Verb;", Cond.fieldLink RX3 81 "PartGraphs$Product" "hazards" "[I", Cond.fieldLink RX3 84 "PartGraphs$Product" "families" "[I", Cond.fieldLink RX3 87 "PartGraphs$Verb" "OPTION" "LPartGraphs$Verb;", Cond.fieldLink RX3 93 "PartGraphs$Product" "damages" "[I", Cond.fieldLink RX3 96 "PartGraphs$Verb" "DAMAGE" "LPartGraphs$Verb;", Cond.methodLink RX3 59 yX1_coveredBy, Cond.instanceMethod yX1_coveredBy, Cond.selects RX1 yX1_coveredBy yX1_coveredBy, Cond.code yX1_coveredBy cX1_coveredBy 4 (some .int), Cond.methodLink RX3 63 yX3_tellEach, Cond.instanceMethod yX3_tellEach, Cond.selects RX3 yX3_tellEach yX3_tellEach, Cond.code yX3_tellEach cX3_tellEach 5 none, Cond.methodLink RX3 90 yX3_tellPair, Cond.instanceMethod yX3_tellPair, Cond.selects RX3 yX3_tellPair yX3_tellPair, Cond.code yX3_tellPair cX3_tellPair 4 none, Cond.methodLink RX3 74 yX3_tellBars, Cond.instanceMethod yX3_tellBars, Cond.selects RX3 yX3_tellBars yX3_tellBars, Cond.code yX3_tellBars cX3_tellBars 5 none, Cond.fieldLink RX3 118 "PartGraphs$Verb" "WAY" "LPartGraphs$Verb;", Cond.methodLink RX3 31 yX3_tellFastenings]
def wsL_law_r28 : List Cond := [Cond.instanceMethod yX3_tellFastenings, Cond.selects RX3 yX3_tellFastenings yX3_tellFastenings, Cond.code yX3_tellFastenings cX3_tellFastenings 3 none, Cond.fieldLink RX3 99 "PartGraphs$Product" "fasteningCount" "I", Cond.fieldLink RX3 102 "PartGraphs$Verb" "FASTEN" "LPartGraphs$Verb;", Cond.fieldLink RX3 105 "PartGraphs$Product" "firstEnds" "[I", Cond.fieldLink RX3 108 "PartGraphs$Product" "secondEnds" "[I", Cond.fieldLink RX3 111 "PartGraphs$Product" "fasteningKinds" "[I", Cond.methodLink RL 109 yX6_write, Cond.instanceMethod yX6_write, Cond.selects RX6 yX6_write yX6_write, Cond.code yX6_write cX6_write 3 (some .int), Cond.fieldLink RX6 168 "PartGraphsModel" "wanted" "I", Cond.fieldLink RX6 165 "PartGraphsModel" "written" "I", Cond.fieldLink RX6 171 "PartGraphsModel" "found" "I", Cond.methodLink RX6 185 yX6_putTwo, Cond.instanceMethod yX6_putTwo, Cond.selects RX6 yX6_putTwo yX6_putTwo, Cond.code yX6_putTwo cX6_putTwo 4 none, Cond.methodLink RX6 179 yX6_putWord, Cond.instanceMethod yX6_putWord, Cond.selects RX6 yX6_putWord yX6_putWord, Cond.code yX6_putWord cX6_putWord 7 none, Cond.constantLong RX6 174 (255)]
def wsL_law_r29 : List Cond := [Cond.methodLink RX6 176 yX6_put, Cond.instanceMethod yX6_put, Cond.selects RX6 yX6_put yX6_put, Cond.code yX6_put cX6_put 2 none, Cond.methodLink RX6 182 yX6_putNumber, Cond.instanceMethod yX6_putNumber, Cond.selects RX6 yX6_putNumber yX6_putNumber, Cond.code yX6_putNumber cX6_putNumber 3 none, Cond.methodLink RX6 189 yX6_putPart, Cond.instanceMethod yX6_putPart, Cond.selects RX6 yX6_putPart yX6_putPart, Cond.code yX6_putPart cX6_putPart 4 none, Cond.methodLink RL 110 yX5_loose, Cond.instanceMethod yX5_loose, Cond.selects RX5 yX5_loose yX5_loose, Cond.code yX5_loose cX5_loose 1 (some .int), Cond.methodLink RX5 134 yX1_pieces, Cond.instanceMethod yX1_pieces, Cond.selects RX1 yX1_pieces yX1_pieces, Cond.code yX1_pieces cX1_pieces 4 (some .int), Cond.methodLink RX1 148 yX1_piece, Cond.methodLink RL 113 yX6_loose, Cond.instanceMethod yX6_loose, Cond.selects RX6 yX6_loose yX6_loose]
def wsL_law_r30 : List Cond := [Cond.code yX6_loose cX6_loose 5 (some .int)]
def wsL_law : List Cond := (wsL_law_r1 ++ (wsL_law_r2 ++ (wsL_law_r3 ++ (wsL_law_r4 ++ (wsL_law_r5 ++ (wsL_law_r6 ++ (wsL_law_r7 ++ (wsL_law_r8 ++ (wsL_law_r9 ++ (wsL_law_r10 ++ (wsL_law_r11 ++ (wsL_law_r12 ++ (wsL_law_r13 ++ (wsL_law_r14 ++ (wsL_law_r15 ++ (wsL_law_r16 ++ (wsL_law_r17 ++ (wsL_law_r18 ++ (wsL_law_r19 ++ (wsL_law_r20 ++ (wsL_law_r21 ++ (wsL_law_r22 ++ (wsL_law_r23 ++ (wsL_law_r24 ++ (wsL_law_r25 ++ (wsL_law_r26 ++ (wsL_law_r27 ++ (wsL_law_r28 ++ (wsL_law_r29 ++ wsL_law_r30))))))))))))))))))))))))))))) ++ wsX50 ++ wsX60 ++ wsX20 ++ wsX30 ++ wsX10 ++ wsJx000600 ++ ([] : List Cond)
set_option maxRecDepth 20000 in
abbrev vwCl : List vw_C := [(RJx00060, TJx00060, 6), (RX1, TX1, 12), (RX2, TX2, 5), (RX3, TX3, 2), (RX5, TX5, 4), (RX6, TX6, 18)]
end
section
theorem dX1_init_0 : decode cX1_init 0 = .ok (.aload_n 0, 1) := by decide +kernel
theorem dX1_init_1 : decode cX1_init 1 = .ok (.invokespecial 3, 3) := by decide +kernel
theorem dX1_init_4 : decode cX1_init 4 = .ok (.aload_n 0, 1) := by decide +kernel
theorem dX1_init_5 : decode cX1_init 5 = .ok (.bipush 10, 2) := by decide +kernel
theorem dX1_init_7 : decode cX1_init 7 = .ok (.newarray .int, 2) := by decide +kernel
theorem dX1_init_9 : decode cX1_init 9 = .ok (.putfield 9, 3) := by decide +kernel
theorem dX1_init_12 : decode cX1_init 12 = .ok (.aload_n 0, 1) := by decide +kernel
theorem dX1_init_13 : decode cX1_init 13 = .ok (.bipush 10, 2) := by decide +kernel
theorem dX1_init_15 : decode cX1_init 15 = .ok (.newarray .long, 2) := by decide +kernel
theorem dX1_init_17 : decode cX1_init 17 = .ok (.putfield 15, 3) := by decide +kernel
theorem dX1_init_20 : decode cX1_init 20 = .ok (.aload_n 0, 1) := by decide +kernel
theorem dX1_init_21 : decode cX1_init 21 = .ok (.bipush 10, 2) := by decide +kernel
theorem dX1_init_23 : decode cX1_init 23 = .ok (.newarray .int, 2) := by decide +kernel
theorem dX1_init_25 : decode cX1_init 25 = .ok (.putfield 19, 3) := by decide +kernel
theorem dX1_init_28 : decode cX1_init 28 = .ok (.aload_n 0, 1) := by decide +kernel
theorem dX1_init_29 : decode cX1_init 29 = .ok (.bipush 60, 2) := by decide +kernel
theorem dX1_init_31 : decode cX1_init 31 = .ok (.newarray .int, 2) := by decide +kernel
theorem dX1_init_33 : decode cX1_init 33 = .ok (.putfield 22, 3) := by decide +kernel
theorem dX1_init_36 : decode cX1_init 36 = .ok (.aload_n 0, 1) := by decide +kernel
theorem dX1_init_37 : decode cX1_init 37 = .ok (.bipush 10, 2) := by decide +kernel
theorem dX1_init_39 : decode cX1_init 39 = .ok (.newarray .int, 2) := by decide +kernel
theorem dX1_init_41 : decode cX1_init 41 = .ok (.putfield 25, 3) := by decide +kernel
theorem dX1_init_44 : decode cX1_init 44 = .ok (.aload_n 0, 1) := by decide +kernel
theorem dX1_init_45 : decode cX1_init 45 = .ok (.bipush 10, 2) := by decide +kernel
theorem dX1_init_47 : decode cX1_init 47 = .ok (.newarray .int, 2) := by decide +kernel
theorem dX1_init_49 : decode cX1_init 49 = .ok (.putfield 28, 3) := by decide +kernel
theorem dX1_init_52 : decode cX1_init 52 = .ok (.aload_n 0, 1) := by decide +kernel
theorem dX1_init_53 : decode cX1_init 53 = .ok (.bipush 10, 2) := by decide +kernel
theorem dX1_init_55 : decode cX1_init 55 = .ok (.newarray .int, 2) := by decide +kernel
theorem dX1_init_57 : decode cX1_init 57 = .ok (.putfield 31, 3) := by decide +kernel
theorem dX1_init_60 : decode cX1_init 60 = .ok (.aload_n 0, 1) := by decide +kernel
theorem dX1_init_61 : decode cX1_init 61 = .ok (.bipush 20, 2) := by decide +kernel
theorem dX1_init_63 : decode cX1_init 63 = .ok (.newarray .int, 2) := by decide +kernel
theorem dX1_init_65 : decode cX1_init 65 = .ok (.putfield 34, 3) := by decide +kernel
theorem dX1_init_68 : decode cX1_init 68 = .ok (.aload_n 0, 1) := by decide +kernel
theorem dX1_init_69 : decode cX1_init 69 = .ok (.bipush 20, 2) := by decide +kernel
theorem dX1_init_71 : decode cX1_init 71 = .ok (.newarray .int, 2) := by decide +kernel
theorem dX1_init_73 : decode cX1_init 73 = .ok (.putfield 37, 3) := by decide +kernel
theorem dX1_init_76 : decode cX1_init 76 = .ok (.aload_n 0, 1) := by decide +kernel
theorem dX1_init_77 : decode cX1_init 77 = .ok (.bipush 20, 2) := by decide +kernel
theorem dX1_init_79 : decode cX1_init 79 = .ok (.newarray .int, 2) := by decide +kernel
theorem dX1_init_81 : decode cX1_init 81 = .ok (.putfield 40, 3) := by decide +kernel
theorem dX1_init_84 : decode cX1_init 84 = .ok (.return_, 1) := by decide +kernel
theorem dX1_clear_0 : decode cX1_clear 0 = .ok (.aload_n 0, 1) := by decide +kernel
theorem dX1_clear_1 : decode cX1_clear 1 = .ok (.iconst 0, 1) := by decide +kernel
theorem dX1_clear_2 : decode cX1_clear 2 = .ok (.putfield 43, 3) := by decide +kernel
theorem dX1_clear_5 : decode cX1_clear 5 = .ok (.aload_n 0, 1) := by decide +kernel
theorem dX1_clear_6 : decode cX1_clear 6 = .ok (.iconst 0, 1) := by decide +kernel
theorem dX1_clear_7 : decode cX1_clear 7 = .ok (.putfield 47, 3) := by decide +kernel
theorem dX1_clear_10 : decode cX1_clear 10 = .ok (.return_, 1) := by decide +kernel
theorem dX1_hasPart_0 : decode cX1_hasPart 0 = .ok (.iload_n 1, 1) := by decide +kernel
theorem dX1_hasPart_1 : decode cX1_hasPart 1 = .ok (.ifCond .lt 15, 3) := by decide +kernel
theorem dX1_hasPart_4 : decode cX1_hasPart 4 = .ok (.iload_n 1, 1) := by decide +kernel
theorem dX1_hasPart_5 : decode cX1_hasPart 5 = .ok (.aload_n 0, 1) := by decide +kernel
theorem dX1_hasPart_6 : decode cX1_hasPart 6 = .ok (.getfield 43, 3) := by decide +kernel
theorem dX1_hasPart_9 : decode cX1_hasPart 9 = .ok (.if_icmp .ge 7, 3) := by decide +kernel
theorem dX1_hasPart_12 : decode cX1_hasPart 12 = .ok (.iconst 1, 1) := by decide +kernel
theorem dX1_hasPart_13 : decode cX1_hasPart 13 = .ok (.goto 4, 3) := by decide +kernel
theorem dX1_hasPart_16 : decode cX1_hasPart 16 = .ok (.iconst 0, 1) := by decide +kernel
theorem dX1_hasPart_17 : decode cX1_hasPart 17 = .ok (.ireturn, 1) := by decide +kernel
theorem dX1_areTwoParts_0 : decode cX1_areTwoParts 0 = .ok (.iload_n 1, 1) := by decide +kernel
theorem dX1_areTwoParts_1 : decode cX1_areTwoParts 1 = .ok (.ifCond .lt 32, 3) := by decide +kernel
theorem dX1_areTwoParts_4 : decode cX1_areTwoParts 4 = .ok (.iload_n 1, 1) := by decide +kernel
theorem dX1_areTwoParts_5 : decode cX1_areTwoParts 5 = .ok (.aload_n 0, 1) := by decide +kernel
theorem dX1_areTwoParts_6 : decode cX1_areTwoParts 6 = .ok (.getfield 43, 3) := by decide +kernel
theorem dX1_areTwoParts_9 : decode cX1_areTwoParts 9 = .ok (.if_icmp .ge 24, 3) := by decide +kernel
theorem dX1_areTwoParts_12 : decode cX1_areTwoParts 12 = .ok (.iload_n 2, 1) := by decide +kernel
theorem dX1_areTwoParts_13 : decode cX1_areTwoParts 13 = .ok (.ifCond .lt 20, 3) := by decide +kernel
theorem dX1_areTwoParts_16 : decode cX1_areTwoParts 16 = .ok (.iload_n 2, 1) := by decide +kernel
theorem dX1_areTwoParts_17 : decode cX1_areTwoParts 17 = .ok (.aload_n 0, 1) := by decide +kernel
theorem dX1_areTwoParts_18 : decode cX1_areTwoParts 18 = .ok (.getfield 43, 3) := by decide +kernel
theorem dX1_areTwoParts_21 : decode cX1_areTwoParts 21 = .ok (.if_icmp .ge 12, 3) := by decide +kernel
theorem dX1_areTwoParts_24 : decode cX1_areTwoParts 24 = .ok (.iload_n 1, 1) := by decide +kernel
theorem dX1_areTwoParts_25 : decode cX1_areTwoParts 25 = .ok (.iload_n 2, 1) := by decide +kernel
theorem dX1_areTwoParts_26 : decode cX1_areTwoParts 26 = .ok (.if_icmp .eq 7, 3) := by decide +kernel
theorem dX1_areTwoParts_29 : decode cX1_areTwoParts 29 = .ok (.iconst 1, 1) := by decide +kernel
theorem dX1_areTwoParts_30 : decode cX1_areTwoParts 30 = .ok (.goto 4, 3) := by decide +kernel
theorem dX1_areTwoParts_33 : decode cX1_areTwoParts 33 = .ok (.iconst 0, 1) := by decide +kernel
theorem dX1_areTwoParts_34 : decode cX1_areTwoParts 34 = .ok (.ireturn, 1) := by decide +kernel
theorem dX1_barIndex_0 : decode cX1_barIndex 0 = .ok (.iload_n 0, 1) := by decide +kernel
theorem dX1_barIndex_1 : decode cX1_barIndex 1 = .ok (.bipush 6, 2) := by decide +kernel
theorem dX1_barIndex_3 : decode cX1_barIndex 3 = .ok (.imul, 1) := by decide +kernel
theorem dX1_barIndex_4 : decode cX1_barIndex 4 = .ok (.iload_n 1, 1) := by decide +kernel
theorem dX1_barIndex_5 : decode cX1_barIndex 5 = .ok (.iadd, 1) := by decide +kernel
theorem dX1_barIndex_6 : decode cX1_barIndex 6 = .ok (.ireturn, 1) := by decide +kernel
set_option maxRecDepth 20000 in
theorem ggX1_allowsPart_X5_isBelow : GoodIn wsX1_allowsPart wsX5_isBelow := goodIn_r _ [5] (by decide +kernel) (by decide +kernel)
set_option maxRecDepth 20000 in
theorem gX1_allowsPart_X5_isBelow_n50 : GoodIn wsX1_allowsPart (wsX5_isBelow) := ggX1_allowsPart_X5_isBelow
theorem dX1_allowsPart_0 : decode cX1_allowsPart 0 = .ok (.aload_n 0, 1) := by decide +kernel
theorem dX1_allowsPart_1 : decode cX1_allowsPart 1 = .ok (.getfield 43, 3) := by decide +kernel
theorem dX1_allowsPart_4 : decode cX1_allowsPart 4 = .ok (.bipush 10, 2) := by decide +kernel
theorem dX1_allowsPart_6 : decode cX1_allowsPart 6 = .ok (.if_icmp .ge 30, 3) := by decide +kernel
theorem dX1_allowsPart_9 : decode cX1_allowsPart 9 = .ok (.iload_n 1, 1) := by decide +kernel
theorem dX1_allowsPart_10 : decode cX1_allowsPart 10 = .ok (.bipush 10, 2) := by decide +kernel
theorem dX1_allowsPart_12 : decode cX1_allowsPart 12 = .ok (.invokestatic 50, 3) := by decide +kernel
theorem dX1_allowsPart_15 : decode cX1_allowsPart 15 = .ok (.ifCond .eq 21, 3) := by decide +kernel
theorem dX1_allowsPart_18 : decode cX1_allowsPart 18 = .ok (.lload_n 2, 1) := by decide +kernel
theorem dX1_allowsPart_19 : decode cX1_allowsPart 19 = .ok (.lconst 0, 1) := by decide +kernel
theorem dX1_allowsPart_20 : decode cX1_allowsPart 20 = .ok (.lcmp, 1) := by decide +kernel
theorem dX1_allowsPart_21 : decode cX1_allowsPart 21 = .ok (.ifCond .lt 15, 3) := by decide +kernel
theorem dX1_allowsPart_24 : decode cX1_allowsPart 24 = .ok (.lload_n 2, 1) := by decide +kernel
theorem dX1_allowsPart_25 : decode cX1_allowsPart 25 = .ok (.ldc2_w 54, 3) := by decide +kernel
theorem dX1_allowsPart_28 : decode cX1_allowsPart 28 = .ok (.lcmp, 1) := by decide +kernel
theorem dX1_allowsPart_29 : decode cX1_allowsPart 29 = .ok (.ifCond .gt 7, 3) := by decide +kernel
theorem dX1_allowsPart_32 : decode cX1_allowsPart 32 = .ok (.iconst 1, 1) := by decide +kernel
theorem dX1_allowsPart_33 : decode cX1_allowsPart 33 = .ok (.goto 4, 3) := by decide +kernel
theorem dX1_allowsPart_36 : decode cX1_allowsPart 36 = .ok (.iconst 0, 1) := by decide +kernel
theorem dX1_allowsPart_37 : decode cX1_allowsPart 37 = .ok (.ireturn, 1) := by decide +kernel
set_option maxRecDepth 20000 in
theorem ggX1_addPart_X1_allowsPart : GoodIn wsX1_addPart wsX1_allowsPart := goodIn_r _ [13, 1, 14, 15, 16, 17, 21, 22, 23, 24, 25, 26, 27, 28, 29, 30, 31, 32] (by decide +kernel) (by decide +kernel)
set_option maxRecDepth 20000 in
theorem gX1_addPart_X1_allowsPart : GoodIn wsX1_addPart (wsV RX1 56 RX1 yX1_allowsPart wsX1_allowsPart) := goodIn_app (goodIn_of _ (by decide +kernel)) ggX1_addPart_X1_allowsPart
set_option maxRecDepth 20000 in
theorem ggX1_addPart_X1_barIndex : GoodIn wsX1_addPart wsX1_barIndex := goodIn_r _ [20] (by decide +kernel) (by decide +kernel)
set_option maxRecDepth 20000 in
theorem gX1_addPart_X1_barIndex : GoodIn wsX1_addPart (va_wsS RX1 60 yX1_barIndex wsX1_barIndex) := goodIn_app (goodIn_of _ (by decide +kernel)) ggX1_addPart_X1_barIndex
theorem dX1_addPart_0 : decode cX1_addPart 0 = .ok (.aload_n 0, 1) := by decide +kernel
theorem dX1_addPart_1 : decode cX1_addPart 1 = .ok (.iload_n 1, 1) := by decide +kernel
theorem dX1_addPart_2 : decode cX1_addPart 2 = .ok (.lload_n 2, 1) := by decide +kernel
theorem dX1_addPart_3 : decode cX1_addPart 3 = .ok (.invokevirtual 56, 3) := by decide +kernel
theorem dX1_addPart_6 : decode cX1_addPart 6 = .ok (.ifCond .ne 5, 3) := by decide +kernel
theorem dX1_addPart_9 : decode cX1_addPart 9 = .ok (.iconst (-1), 1) := by decide +kernel
theorem dX1_addPart_10 : decode cX1_addPart 10 = .ok (.ireturn, 1) := by decide +kernel
theorem dX1_addPart_11 : decode cX1_addPart 11 = .ok (.aload_n 0, 1) := by decide +kernel
theorem dX1_addPart_12 : decode cX1_addPart 12 = .ok (.getfield 43, 3) := by decide +kernel
theorem dX1_addPart_15 : decode cX1_addPart 15 = .ok (.istore 4, 2) := by decide +kernel
theorem dX1_addPart_17 : decode cX1_addPart 17 = .ok (.aload_n 0, 1) := by decide +kernel
theorem dX1_addPart_18 : decode cX1_addPart 18 = .ok (.getfield 9, 3) := by decide +kernel
theorem dX1_addPart_21 : decode cX1_addPart 21 = .ok (.iload 4, 2) := by decide +kernel
theorem dX1_addPart_23 : decode cX1_addPart 23 = .ok (.iload_n 1, 1) := by decide +kernel
theorem dX1_addPart_24 : decode cX1_addPart 24 = .ok (.iastore, 1) := by decide +kernel
theorem dX1_addPart_25 : decode cX1_addPart 25 = .ok (.aload_n 0, 1) := by decide +kernel
theorem dX1_addPart_26 : decode cX1_addPart 26 = .ok (.getfield 15, 3) := by decide +kernel
theorem dX1_addPart_29 : decode cX1_addPart 29 = .ok (.iload 4, 2) := by decide +kernel
theorem dX1_addPart_31 : decode cX1_addPart 31 = .ok (.lload_n 2, 1) := by decide +kernel
theorem dX1_addPart_32 : decode cX1_addPart 32 = .ok (.lastore, 1) := by decide +kernel
theorem dX1_addPart_33 : decode cX1_addPart 33 = .ok (.aload_n 0, 1) := by decide +kernel
theorem dX1_addPart_34 : decode cX1_addPart 34 = .ok (.getfield 19, 3) := by decide +kernel
theorem dX1_addPart_37 : decode cX1_addPart 37 = .ok (.iload 4, 2) := by decide +kernel
theorem dX1_addPart_39 : decode cX1_addPart 39 = .ok (.iconst 0, 1) := by decide +kernel
theorem dX1_addPart_40 : decode cX1_addPart 40 = .ok (.iastore, 1) := by decide +kernel
theorem dX1_addPart_41 : decode cX1_addPart 41 = .ok (.iconst 0, 1) := by decide +kernel
theorem dX1_addPart_42 : decode cX1_addPart 42 = .ok (.istore 5, 2) := by decide +kernel
theorem dX1_addPart_44 : decode cX1_addPart 44 = .ok (.iload 5, 2) := by decide +kernel
theorem dX1_addPart_46 : decode cX1_addPart 46 = .ok (.bipush 6, 2) := by decide +kernel
theorem dX1_addPart_48 : decode cX1_addPart 48 = .ok (.if_icmp .ge 22, 3) := by decide +kernel
theorem dX1_addPart_51 : decode cX1_addPart 51 = .ok (.aload_n 0, 1) := by decide +kernel
theorem dX1_addPart_52 : decode cX1_addPart 52 = .ok (.getfield 22, 3) := by decide +kernel
theorem dX1_addPart_55 : decode cX1_addPart 55 = .ok (.iload 4, 2) := by decide +kernel
theorem dX1_addPart_57 : decode cX1_addPart 57 = .ok (.iload 5, 2) := by decide +kernel
theorem dX1_addPart_59 : decode cX1_addPart 59 = .ok (.invokestatic 60, 3) := by decide +kernel
theorem dX1_addPart_62 : decode cX1_addPart 62 = .ok (.iconst 0, 1) := by decide +kernel
theorem dX1_addPart_63 : decode cX1_addPart 63 = .ok (.iastore, 1) := by decide +kernel
theorem dX1_addPart_64 : decode cX1_addPart 64 = .ok (.iinc 5 1, 3) := by decide +kernel
theorem dX1_addPart_67 : decode cX1_addPart 67 = .ok (.goto (-23), 3) := by decide +kernel
theorem dX1_addPart_70 : decode cX1_addPart 70 = .ok (.aload_n 0, 1) := by decide +kernel
theorem dX1_addPart_71 : decode cX1_addPart 71 = .ok (.getfield 25, 3) := by decide +kernel
theorem dX1_addPart_74 : decode cX1_addPart 74 = .ok (.iload 4, 2) := by decide +kernel
theorem dX1_addPart_76 : decode cX1_addPart 76 = .ok (.iconst 0, 1) := by decide +kernel
theorem dX1_addPart_77 : decode cX1_addPart 77 = .ok (.iastore, 1) := by decide +kernel
theorem dX1_addPart_78 : decode cX1_addPart 78 = .ok (.aload_n 0, 1) := by decide +kernel
theorem dX1_addPart_79 : decode cX1_addPart 79 = .ok (.getfield 28, 3) := by decide +kernel
theorem dX1_addPart_82 : decode cX1_addPart 82 = .ok (.iload 4, 2) := by decide +kernel
theorem dX1_addPart_84 : decode cX1_addPart 84 = .ok (.iconst (-1), 1) := by decide +kernel
theorem dX1_addPart_85 : decode cX1_addPart 85 = .ok (.iastore, 1) := by decide +kernel
theorem dX1_addPart_86 : decode cX1_addPart 86 = .ok (.aload_n 0, 1) := by decide +kernel
theorem dX1_addPart_87 : decode cX1_addPart 87 = .ok (.getfield 31, 3) := by decide +kernel
theorem dX1_addPart_90 : decode cX1_addPart 90 = .ok (.iload 4, 2) := by decide +kernel
theorem dX1_addPart_92 : decode cX1_addPart 92 = .ok (.iconst 0, 1) := by decide +kernel
theorem dX1_addPart_93 : decode cX1_addPart 93 = .ok (.iastore, 1) := by decide +kernel
theorem dX1_addPart_94 : decode cX1_addPart 94 = .ok (.aload_n 0, 1) := by decide +kernel
theorem dX1_addPart_95 : decode cX1_addPart 95 = .ok (.dup, 1) := by decide +kernel
theorem dX1_addPart_96 : decode cX1_addPart 96 = .ok (.getfield 43, 3) := by decide +kernel
theorem dX1_addPart_99 : decode cX1_addPart 99 = .ok (.iconst 1, 1) := by decide +kernel
theorem dX1_addPart_100 : decode cX1_addPart 100 = .ok (.iadd, 1) := by decide +kernel
theorem dX1_addPart_101 : decode cX1_addPart 101 = .ok (.putfield 43, 3) := by decide +kernel
theorem dX1_addPart_104 : decode cX1_addPart 104 = .ok (.iload 4, 2) := by decide +kernel
theorem dX1_addPart_106 : decode cX1_addPart 106 = .ok (.ireturn, 1) := by decide +kernel
set_option maxRecDepth 20000 in
theorem ggX1_allowsFastening_X1_areTwoParts : GoodIn wsX1_allowsFastening wsX1_areTwoParts := goodIn_r _ [6, 7, 11, 12, 13, 14, 15, 16, 17, 18, 19, 20, 21, 22] (by decide +kernel) (by decide +kernel)
set_option maxRecDepth 20000 in
theorem gX1_allowsFastening_X1_areTwoParts : GoodIn wsX1_allowsFastening (wsV RX1 64 RX1 yX1_areTwoParts wsX1_areTwoParts) := goodIn_app (goodIn_of _ (by decide +kernel)) ggX1_allowsFastening_X1_areTwoParts
set_option maxRecDepth 20000 in
theorem ggX1_allowsFastening_X5_isBelow : GoodIn wsX1_allowsFastening wsX5_isBelow := goodIn_r _ [10] (by decide +kernel) (by decide +kernel)
set_option maxRecDepth 20000 in
theorem gX1_allowsFastening_X5_isBelow_n50 : GoodIn wsX1_allowsFastening (wsX5_isBelow) := ggX1_allowsFastening_X5_isBelow
theorem dX1_allowsFastening_0 : decode cX1_allowsFastening 0 = .ok (.aload_n 0, 1) := by decide +kernel
theorem dX1_allowsFastening_1 : decode cX1_allowsFastening 1 = .ok (.getfield 47, 3) := by decide +kernel
theorem dX1_allowsFastening_4 : decode cX1_allowsFastening 4 = .ok (.bipush 20, 2) := by decide +kernel
theorem dX1_allowsFastening_6 : decode cX1_allowsFastening 6 = .ok (.if_icmp .ge 24, 3) := by decide +kernel
theorem dX1_allowsFastening_9 : decode cX1_allowsFastening 9 = .ok (.aload_n 0, 1) := by decide +kernel
theorem dX1_allowsFastening_10 : decode cX1_allowsFastening 10 = .ok (.iload_n 1, 1) := by decide +kernel
theorem dX1_allowsFastening_11 : decode cX1_allowsFastening 11 = .ok (.iload_n 2, 1) := by decide +kernel
theorem dX1_allowsFastening_12 : decode cX1_allowsFastening 12 = .ok (.invokevirtual 64, 3) := by decide +kernel
theorem dX1_allowsFastening_15 : decode cX1_allowsFastening 15 = .ok (.ifCond .eq 15, 3) := by decide +kernel
theorem dX1_allowsFastening_18 : decode cX1_allowsFastening 18 = .ok (.iload_n 3, 1) := by decide +kernel
theorem dX1_allowsFastening_19 : decode cX1_allowsFastening 19 = .ok (.iconst 4, 1) := by decide +kernel
theorem dX1_allowsFastening_20 : decode cX1_allowsFastening 20 = .ok (.invokestatic 50, 3) := by decide +kernel
theorem dX1_allowsFastening_23 : decode cX1_allowsFastening 23 = .ok (.ifCond .eq 7, 3) := by decide +kernel
theorem dX1_allowsFastening_26 : decode cX1_allowsFastening 26 = .ok (.iconst 1, 1) := by decide +kernel
theorem dX1_allowsFastening_27 : decode cX1_allowsFastening 27 = .ok (.goto 4, 3) := by decide +kernel
theorem dX1_allowsFastening_30 : decode cX1_allowsFastening 30 = .ok (.iconst 0, 1) := by decide +kernel
theorem dX1_allowsFastening_31 : decode cX1_allowsFastening 31 = .ok (.ireturn, 1) := by decide +kernel
set_option maxRecDepth 20000 in
theorem ggX1_addFastening_X1_allowsFastening : GoodIn wsX1_addFastening wsX1_allowsFastening := goodIn_r _ [9, 1, 10, 11, 12, 8, 13, 14, 15, 16, 17, 18, 19, 20, 21, 22, 23, 24, 25, 26, 27, 28, 29] (by decide +kernel) (by decide +kernel)
set_option maxRecDepth 20000 in
theorem gX1_addFastening_X1_allowsFastening : GoodIn wsX1_addFastening (wsV RX1 67 RX1 yX1_allowsFastening wsX1_allowsFastening) := goodIn_app (goodIn_of _ (by decide +kernel)) ggX1_addFastening_X1_allowsFastening
theorem dX1_addFastening_0 : decode cX1_addFastening 0 = .ok (.aload_n 0, 1) := by decide +kernel
theorem dX1_addFastening_1 : decode cX1_addFastening 1 = .ok (.iload_n 1, 1) := by decide +kernel
theorem dX1_addFastening_2 : decode cX1_addFastening 2 = .ok (.iload_n 2, 1) := by decide +kernel
theorem dX1_addFastening_3 : decode cX1_addFastening 3 = .ok (.iload_n 3, 1) := by decide +kernel
theorem dX1_addFastening_4 : decode cX1_addFastening 4 = .ok (.invokevirtual 67, 3) := by decide +kernel
theorem dX1_addFastening_7 : decode cX1_addFastening 7 = .ok (.ifCond .ne 5, 3) := by decide +kernel
theorem dX1_addFastening_10 : decode cX1_addFastening 10 = .ok (.iconst (-1), 1) := by decide +kernel
theorem dX1_addFastening_11 : decode cX1_addFastening 11 = .ok (.ireturn, 1) := by decide +kernel
theorem dX1_addFastening_12 : decode cX1_addFastening 12 = .ok (.aload_n 0, 1) := by decide +kernel
theorem dX1_addFastening_13 : decode cX1_addFastening 13 = .ok (.getfield 47, 3) := by decide +kernel
theorem dX1_addFastening_16 : decode cX1_addFastening 16 = .ok (.istore 4, 2) := by decide +kernel
theorem dX1_addFastening_18 : decode cX1_addFastening 18 = .ok (.aload_n 0, 1) := by decide +kernel
theorem dX1_addFastening_19 : decode cX1_addFastening 19 = .ok (.getfield 34, 3) := by decide +kernel
theorem dX1_addFastening_22 : decode cX1_addFastening 22 = .ok (.iload 4, 2) := by decide +kernel
theorem dX1_addFastening_24 : decode cX1_addFastening 24 = .ok (.iload_n 1, 1) := by decide +kernel
theorem dX1_addFastening_25 : decode cX1_addFastening 25 = .ok (.iastore, 1) := by decide +kernel
theorem dX1_addFastening_26 : decode cX1_addFastening 26 = .ok (.aload_n 0, 1) := by decide +kernel
theorem dX1_addFastening_27 : decode cX1_addFastening 27 = .ok (.getfield 37, 3) := by decide +kernel
theorem dX1_addFastening_30 : decode cX1_addFastening 30 = .ok (.iload 4, 2) := by decide +kernel
theorem dX1_addFastening_32 : decode cX1_addFastening 32 = .ok (.iload_n 2, 1) := by decide +kernel
theorem dX1_addFastening_33 : decode cX1_addFastening 33 = .ok (.iastore, 1) := by decide +kernel
theorem dX1_addFastening_34 : decode cX1_addFastening 34 = .ok (.aload_n 0, 1) := by decide +kernel
theorem dX1_addFastening_35 : decode cX1_addFastening 35 = .ok (.getfield 40, 3) := by decide +kernel
theorem dX1_addFastening_38 : decode cX1_addFastening 38 = .ok (.iload 4, 2) := by decide +kernel
theorem dX1_addFastening_40 : decode cX1_addFastening 40 = .ok (.iload_n 3, 1) := by decide +kernel
theorem dX1_addFastening_41 : decode cX1_addFastening 41 = .ok (.iastore, 1) := by decide +kernel
theorem dX1_addFastening_42 : decode cX1_addFastening 42 = .ok (.aload_n 0, 1) := by decide +kernel
theorem dX1_addFastening_43 : decode cX1_addFastening 43 = .ok (.dup, 1) := by decide +kernel
theorem dX1_addFastening_44 : decode cX1_addFastening 44 = .ok (.getfield 47, 3) := by decide +kernel
theorem dX1_addFastening_47 : decode cX1_addFastening 47 = .ok (.iconst 1, 1) := by decide +kernel
theorem dX1_addFastening_48 : decode cX1_addFastening 48 = .ok (.iadd, 1) := by decide +kernel
theorem dX1_addFastening_49 : decode cX1_addFastening 49 = .ok (.putfield 47, 3) := by decide +kernel
theorem dX1_addFastening_52 : decode cX1_addFastening 52 = .ok (.iload 4, 2) := by decide +kernel
theorem dX1_addFastening_54 : decode cX1_addFastening 54 = .ok (.ireturn, 1) := by decide +kernel
set_option maxRecDepth 20000 in
theorem ggX1_allowsCover_X1_areTwoParts : GoodIn wsX1_allowsCover wsX1_areTwoParts := goodIn_r _ [6, 7, 11, 12, 13, 14, 15, 16, 17, 18, 19, 20, 21, 22] (by decide +kernel) (by decide +kernel)
set_option maxRecDepth 20000 in
theorem gX1_allowsCover_X1_areTwoParts : GoodIn wsX1_allowsCover (wsV RX1 64 RX1 yX1_areTwoParts wsX1_areTwoParts) := goodIn_app (goodIn_of _ (by decide +kernel)) ggX1_allowsCover_X1_areTwoParts
set_option maxRecDepth 20000 in
theorem ggX1_allowsCover_X5_contains : GoodIn wsX1_allowsCover wsX5_contains := goodIn_r _ [10] (by decide +kernel) (by decide +kernel)
set_option maxRecDepth 20000 in
theorem gX1_allowsCover_X5_contains_n71 : GoodIn wsX1_allowsCover (wsX5_contains) := ggX1_allowsCover_X5_contains
theorem dX1_allowsCover_0 : decode cX1_allowsCover 0 = .ok (.aload_n 0, 1) := by decide +kernel
theorem dX1_allowsCover_1 : decode cX1_allowsCover 1 = .ok (.iload_n 1, 1) := by decide +kernel
theorem dX1_allowsCover_2 : decode cX1_allowsCover 2 = .ok (.iload_n 2, 1) := by decide +kernel
theorem dX1_allowsCover_3 : decode cX1_allowsCover 3 = .ok (.invokevirtual 64, 3) := by decide +kernel
theorem dX1_allowsCover_6 : decode cX1_allowsCover 6 = .ok (.ifCond .eq 20, 3) := by decide +kernel
theorem dX1_allowsCover_9 : decode cX1_allowsCover 9 = .ok (.aload_n 0, 1) := by decide +kernel
theorem dX1_allowsCover_10 : decode cX1_allowsCover 10 = .ok (.getfield 19, 3) := by decide +kernel
theorem dX1_allowsCover_13 : decode cX1_allowsCover 13 = .ok (.iload_n 2, 1) := by decide +kernel
theorem dX1_allowsCover_14 : decode cX1_allowsCover 14 = .ok (.iaload, 1) := by decide +kernel
theorem dX1_allowsCover_15 : decode cX1_allowsCover 15 = .ok (.iload_n 1, 1) := by decide +kernel
theorem dX1_allowsCover_16 : decode cX1_allowsCover 16 = .ok (.invokestatic 71, 3) := by decide +kernel
theorem dX1_allowsCover_19 : decode cX1_allowsCover 19 = .ok (.ifCond .ne 7, 3) := by decide +kernel
theorem dX1_allowsCover_22 : decode cX1_allowsCover 22 = .ok (.iconst 1, 1) := by decide +kernel
theorem dX1_allowsCover_23 : decode cX1_allowsCover 23 = .ok (.goto 4, 3) := by decide +kernel
theorem dX1_allowsCover_26 : decode cX1_allowsCover 26 = .ok (.iconst 0, 1) := by decide +kernel
theorem dX1_allowsCover_27 : decode cX1_allowsCover 27 = .ok (.ireturn, 1) := by decide +kernel
set_option maxRecDepth 20000 in
theorem ggX1_addCover_X1_allowsCover : GoodIn wsX1_addCover wsX1_allowsCover := goodIn_r _ [6, 1, 7, 8, 9, 5, 10, 11, 12, 13, 14, 15, 16, 17, 18, 19, 20, 21, 22, 23, 24, 25, 26] (by decide +kernel) (by decide +kernel)
set_option maxRecDepth 20000 in
theorem gX1_addCover_X1_allowsCover : GoodIn wsX1_addCover (wsV RX1 74 RX1 yX1_allowsCover wsX1_allowsCover) := goodIn_app (goodIn_of _ (by decide +kernel)) ggX1_addCover_X1_allowsCover
theorem dX1_addCover_0 : decode cX1_addCover 0 = .ok (.aload_n 0, 1) := by decide +kernel
theorem dX1_addCover_1 : decode cX1_addCover 1 = .ok (.iload_n 1, 1) := by decide +kernel
theorem dX1_addCover_2 : decode cX1_addCover 2 = .ok (.iload_n 2, 1) := by decide +kernel
theorem dX1_addCover_3 : decode cX1_addCover 3 = .ok (.invokevirtual 74, 3) := by decide +kernel
theorem dX1_addCover_6 : decode cX1_addCover 6 = .ok (.ifCond .ne 5, 3) := by decide +kernel
theorem dX1_addCover_9 : decode cX1_addCover 9 = .ok (.iconst 0, 1) := by decide +kernel
theorem dX1_addCover_10 : decode cX1_addCover 10 = .ok (.ireturn, 1) := by decide +kernel
theorem dX1_addCover_11 : decode cX1_addCover 11 = .ok (.aload_n 0, 1) := by decide +kernel
theorem dX1_addCover_12 : decode cX1_addCover 12 = .ok (.getfield 19, 3) := by decide +kernel
theorem dX1_addCover_15 : decode cX1_addCover 15 = .ok (.iload_n 2, 1) := by decide +kernel
theorem dX1_addCover_16 : decode cX1_addCover 16 = .ok (.dup2, 1) := by decide +kernel
theorem dX1_addCover_17 : decode cX1_addCover 17 = .ok (.iaload, 1) := by decide +kernel
theorem dX1_addCover_18 : decode cX1_addCover 18 = .ok (.iconst 1, 1) := by decide +kernel
theorem dX1_addCover_19 : decode cX1_addCover 19 = .ok (.iload_n 1, 1) := by decide +kernel
theorem dX1_addCover_20 : decode cX1_addCover 20 = .ok (.ishl, 1) := by decide +kernel
theorem dX1_addCover_21 : decode cX1_addCover 21 = .ok (.ior, 1) := by decide +kernel
theorem dX1_addCover_22 : decode cX1_addCover 22 = .ok (.iastore, 1) := by decide +kernel
theorem dX1_addCover_23 : decode cX1_addCover 23 = .ok (.iconst 1, 1) := by decide +kernel
theorem dX1_addCover_24 : decode cX1_addCover 24 = .ok (.ireturn, 1) := by decide +kernel
set_option maxRecDepth 20000 in
theorem ggX1_allowsBar_X1_areTwoParts : GoodIn wsX1_allowsBar wsX1_areTwoParts := goodIn_r _ [6, 7, 16, 17, 18, 19, 20, 21, 22, 23, 24, 25, 26, 27] (by decide +kernel) (by decide +kernel)
set_option maxRecDepth 20000 in
theorem gX1_allowsBar_X1_areTwoParts : GoodIn wsX1_allowsBar (wsV RX1 64 RX1 yX1_areTwoParts wsX1_areTwoParts) := goodIn_app (goodIn_of _ (by decide +kernel)) ggX1_allowsBar_X1_areTwoParts
set_option maxRecDepth 20000 in
theorem ggX1_allowsBar_X5_isBelow : GoodIn wsX1_allowsBar wsX5_isBelow := goodIn_r _ [10] (by decide +kernel) (by decide +kernel)
set_option maxRecDepth 20000 in
theorem gX1_allowsBar_X5_isBelow_n50 : GoodIn wsX1_allowsBar (wsX5_isBelow) := ggX1_allowsBar_X5_isBelow
set_option maxRecDepth 20000 in
theorem ggX1_allowsBar_X1_barIndex : GoodIn wsX1_allowsBar wsX1_barIndex := goodIn_r _ [13] (by decide +kernel) (by decide +kernel)
set_option maxRecDepth 20000 in
theorem gX1_allowsBar_X1_barIndex : GoodIn wsX1_allowsBar (va_wsS RX1 60 yX1_barIndex wsX1_barIndex) := goodIn_app (goodIn_of _ (by decide +kernel)) ggX1_allowsBar_X1_barIndex
set_option maxRecDepth 20000 in
theorem ggX1_allowsBar_X5_contains : GoodIn wsX1_allowsBar wsX5_contains := goodIn_r _ [15] (by decide +kernel) (by decide +kernel)
set_option maxRecDepth 20000 in
theorem gX1_allowsBar_X5_contains_n71 : GoodIn wsX1_allowsBar (wsX5_contains) := ggX1_allowsBar_X5_contains
theorem dX1_allowsBar_0 : decode cX1_allowsBar 0 = .ok (.aload_n 0, 1) := by decide +kernel
theorem dX1_allowsBar_1 : decode cX1_allowsBar 1 = .ok (.iload_n 1, 1) := by decide +kernel
theorem dX1_allowsBar_2 : decode cX1_allowsBar 2 = .ok (.iload_n 3, 1) := by decide +kernel
theorem dX1_allowsBar_3 : decode cX1_allowsBar 3 = .ok (.invokevirtual 64, 3) := by decide +kernel
theorem dX1_allowsBar_6 : decode cX1_allowsBar 6 = .ok (.ifCond .eq 33, 3) := by decide +kernel
theorem dX1_allowsBar_9 : decode cX1_allowsBar 9 = .ok (.iload_n 2, 1) := by decide +kernel
theorem dX1_allowsBar_10 : decode cX1_allowsBar 10 = .ok (.bipush 6, 2) := by decide +kernel
theorem dX1_allowsBar_12 : decode cX1_allowsBar 12 = .ok (.invokestatic 50, 3) := by decide +kernel
theorem dX1_allowsBar_15 : decode cX1_allowsBar 15 = .ok (.ifCond .eq 24, 3) := by decide +kernel
theorem dX1_allowsBar_18 : decode cX1_allowsBar 18 = .ok (.aload_n 0, 1) := by decide +kernel
theorem dX1_allowsBar_19 : decode cX1_allowsBar 19 = .ok (.getfield 22, 3) := by decide +kernel
theorem dX1_allowsBar_22 : decode cX1_allowsBar 22 = .ok (.iload_n 1, 1) := by decide +kernel
theorem dX1_allowsBar_23 : decode cX1_allowsBar 23 = .ok (.iload_n 2, 1) := by decide +kernel
theorem dX1_allowsBar_24 : decode cX1_allowsBar 24 = .ok (.invokestatic 60, 3) := by decide +kernel
theorem dX1_allowsBar_27 : decode cX1_allowsBar 27 = .ok (.iaload, 1) := by decide +kernel
theorem dX1_allowsBar_28 : decode cX1_allowsBar 28 = .ok (.iload_n 3, 1) := by decide +kernel
theorem dX1_allowsBar_29 : decode cX1_allowsBar 29 = .ok (.invokestatic 71, 3) := by decide +kernel
theorem dX1_allowsBar_32 : decode cX1_allowsBar 32 = .ok (.ifCond .ne 7, 3) := by decide +kernel
theorem dX1_allowsBar_35 : decode cX1_allowsBar 35 = .ok (.iconst 1, 1) := by decide +kernel
theorem dX1_allowsBar_36 : decode cX1_allowsBar 36 = .ok (.goto 4, 3) := by decide +kernel
theorem dX1_allowsBar_39 : decode cX1_allowsBar 39 = .ok (.iconst 0, 1) := by decide +kernel
theorem dX1_allowsBar_40 : decode cX1_allowsBar 40 = .ok (.ireturn, 1) := by decide +kernel
set_option maxRecDepth 20000 in
theorem ggX1_addBar_X1_allowsBar : GoodIn wsX1_addBar wsX1_allowsBar := goodIn_r _ [6, 1, 7, 8, 9, 5, 10, 11, 12, 13, 14, 15, 16, 17, 18, 19, 20, 21, 22, 23, 24, 25, 26, 27, 28, 29, 30, 31] (by decide +kernel) (by decide +kernel)
set_option maxRecDepth 20000 in
theorem gX1_addBar_X1_allowsBar : GoodIn wsX1_addBar (wsV RX1 77 RX1 yX1_allowsBar wsX1_allowsBar) := goodIn_app (goodIn_of _ (by decide +kernel)) ggX1_addBar_X1_allowsBar
set_option maxRecDepth 20000 in
theorem ggX1_addBar_X1_barIndex : GoodIn wsX1_addBar wsX1_barIndex := goodIn_r _ [17] (by decide +kernel) (by decide +kernel)
set_option maxRecDepth 20000 in
theorem gX1_addBar_X1_barIndex : GoodIn wsX1_addBar (va_wsS RX1 60 yX1_barIndex wsX1_barIndex) := goodIn_app (goodIn_of _ (by decide +kernel)) ggX1_addBar_X1_barIndex
theorem dX1_addBar_0 : decode cX1_addBar 0 = .ok (.aload_n 0, 1) := by decide +kernel
theorem dX1_addBar_1 : decode cX1_addBar 1 = .ok (.iload_n 1, 1) := by decide +kernel
theorem dX1_addBar_2 : decode cX1_addBar 2 = .ok (.iload_n 2, 1) := by decide +kernel
theorem dX1_addBar_3 : decode cX1_addBar 3 = .ok (.iload_n 3, 1) := by decide +kernel
theorem dX1_addBar_4 : decode cX1_addBar 4 = .ok (.invokevirtual 77, 3) := by decide +kernel
theorem dX1_addBar_7 : decode cX1_addBar 7 = .ok (.ifCond .ne 5, 3) := by decide +kernel
theorem dX1_addBar_10 : decode cX1_addBar 10 = .ok (.iconst 0, 1) := by decide +kernel
theorem dX1_addBar_11 : decode cX1_addBar 11 = .ok (.ireturn, 1) := by decide +kernel
theorem dX1_addBar_12 : decode cX1_addBar 12 = .ok (.aload_n 0, 1) := by decide +kernel
theorem dX1_addBar_13 : decode cX1_addBar 13 = .ok (.getfield 22, 3) := by decide +kernel
theorem dX1_addBar_16 : decode cX1_addBar 16 = .ok (.iload_n 1, 1) := by decide +kernel
theorem dX1_addBar_17 : decode cX1_addBar 17 = .ok (.iload_n 2, 1) := by decide +kernel
theorem dX1_addBar_18 : decode cX1_addBar 18 = .ok (.invokestatic 60, 3) := by decide +kernel
theorem dX1_addBar_21 : decode cX1_addBar 21 = .ok (.dup2, 1) := by decide +kernel
theorem dX1_addBar_22 : decode cX1_addBar 22 = .ok (.iaload, 1) := by decide +kernel
theorem dX1_addBar_23 : decode cX1_addBar 23 = .ok (.iconst 1, 1) := by decide +kernel
theorem dX1_addBar_24 : decode cX1_addBar 24 = .ok (.iload_n 3, 1) := by decide +kernel
theorem dX1_addBar_25 : decode cX1_addBar 25 = .ok (.ishl, 1) := by decide +kernel
theorem dX1_addBar_26 : decode cX1_addBar 26 = .ok (.ior, 1) := by decide +kernel
theorem dX1_addBar_27 : decode cX1_addBar 27 = .ok (.iastore, 1) := by decide +kernel
theorem dX1_addBar_28 : decode cX1_addBar 28 = .ok (.iconst 1, 1) := by decide +kernel
theorem dX1_addBar_29 : decode cX1_addBar 29 = .ok (.ireturn, 1) := by decide +kernel
set_option maxRecDepth 20000 in
theorem ggX1_allowsHazard_X1_hasPart : GoodIn wsX1_allowsHazard wsX1_hasPart := goodIn_r _ [6, 7, 13, 14, 15, 16, 17, 18, 19, 20, 21, 22, 23, 24] (by decide +kernel) (by decide +kernel)
set_option maxRecDepth 20000 in
theorem gX1_allowsHazard_X1_hasPart : GoodIn wsX1_allowsHazard (wsV RX1 80 RX1 yX1_hasPart wsX1_hasPart) := goodIn_app (goodIn_of _ (by decide +kernel)) ggX1_allowsHazard_X1_hasPart
set_option maxRecDepth 20000 in
theorem ggX1_allowsHazard_X5_isBelow : GoodIn wsX1_allowsHazard wsX5_isBelow := goodIn_r _ [10] (by decide +kernel) (by decide +kernel)
set_option maxRecDepth 20000 in
theorem gX1_allowsHazard_X5_isBelow_n50 : GoodIn wsX1_allowsHazard (wsX5_isBelow) := ggX1_allowsHazard_X5_isBelow
set_option maxRecDepth 20000 in
theorem ggX1_allowsHazard_X5_contains : GoodIn wsX1_allowsHazard wsX5_contains := goodIn_r _ [12] (by decide +kernel) (by decide +kernel)
set_option maxRecDepth 20000 in
theorem gX1_allowsHazard_X5_contains_n71 : GoodIn wsX1_allowsHazard (wsX5_contains) := ggX1_allowsHazard_X5_contains
theorem dX1_allowsHazard_0 : decode cX1_allowsHazard 0 = .ok (.aload_n 0, 1) := by decide +kernel
theorem dX1_allowsHazard_1 : decode cX1_allowsHazard 1 = .ok (.iload_n 1, 1) := by decide +kernel
theorem dX1_allowsHazard_2 : decode cX1_allowsHazard 2 = .ok (.invokevirtual 80, 3) := by decide +kernel
theorem dX1_allowsHazard_5 : decode cX1_allowsHazard 5 = .ok (.ifCond .eq 29, 3) := by decide +kernel
theorem dX1_allowsHazard_8 : decode cX1_allowsHazard 8 = .ok (.iload_n 2, 1) := by decide +kernel
theorem dX1_allowsHazard_9 : decode cX1_allowsHazard 9 = .ok (.bipush 8, 2) := by decide +kernel
theorem dX1_allowsHazard_11 : decode cX1_allowsHazard 11 = .ok (.invokestatic 50, 3) := by decide +kernel
theorem dX1_allowsHazard_14 : decode cX1_allowsHazard 14 = .ok (.ifCond .eq 20, 3) := by decide +kernel
theorem dX1_allowsHazard_17 : decode cX1_allowsHazard 17 = .ok (.aload_n 0, 1) := by decide +kernel
theorem dX1_allowsHazard_18 : decode cX1_allowsHazard 18 = .ok (.getfield 25, 3) := by decide +kernel
theorem dX1_allowsHazard_21 : decode cX1_allowsHazard 21 = .ok (.iload_n 1, 1) := by decide +kernel
theorem dX1_allowsHazard_22 : decode cX1_allowsHazard 22 = .ok (.iaload, 1) := by decide +kernel
theorem dX1_allowsHazard_23 : decode cX1_allowsHazard 23 = .ok (.iload_n 2, 1) := by decide +kernel
theorem dX1_allowsHazard_24 : decode cX1_allowsHazard 24 = .ok (.invokestatic 71, 3) := by decide +kernel
theorem dX1_allowsHazard_27 : decode cX1_allowsHazard 27 = .ok (.ifCond .ne 7, 3) := by decide +kernel
theorem dX1_allowsHazard_30 : decode cX1_allowsHazard 30 = .ok (.iconst 1, 1) := by decide +kernel
theorem dX1_allowsHazard_31 : decode cX1_allowsHazard 31 = .ok (.goto 4, 3) := by decide +kernel
theorem dX1_allowsHazard_34 : decode cX1_allowsHazard 34 = .ok (.iconst 0, 1) := by decide +kernel
theorem dX1_allowsHazard_35 : decode cX1_allowsHazard 35 = .ok (.ireturn, 1) := by decide +kernel
set_option maxRecDepth 20000 in
theorem ggX1_addHazard_X1_allowsHazard : GoodIn wsX1_addHazard wsX1_allowsHazard := goodIn_r _ [6, 1, 7, 8, 9, 5, 10, 11, 12, 13, 14, 15, 16, 17, 18, 19, 20, 21, 22, 23, 24, 25, 26, 27, 28] (by decide +kernel) (by decide +kernel)
set_option maxRecDepth 20000 in
theorem gX1_addHazard_X1_allowsHazard : GoodIn wsX1_addHazard (wsV RX1 84 RX1 yX1_allowsHazard wsX1_allowsHazard) := goodIn_app (goodIn_of _ (by decide +kernel)) ggX1_addHazard_X1_allowsHazard
theorem dX1_addHazard_0 : decode cX1_addHazard 0 = .ok (.aload_n 0, 1) := by decide +kernel
theorem dX1_addHazard_1 : decode cX1_addHazard 1 = .ok (.iload_n 1, 1) := by decide +kernel
theorem dX1_addHazard_2 : decode cX1_addHazard 2 = .ok (.iload_n 2, 1) := by decide +kernel
theorem dX1_addHazard_3 : decode cX1_addHazard 3 = .ok (.invokevirtual 84, 3) := by decide +kernel
theorem dX1_addHazard_6 : decode cX1_addHazard 6 = .ok (.ifCond .ne 5, 3) := by decide +kernel
theorem dX1_addHazard_9 : decode cX1_addHazard 9 = .ok (.iconst 0, 1) := by decide +kernel
theorem dX1_addHazard_10 : decode cX1_addHazard 10 = .ok (.ireturn, 1) := by decide +kernel
theorem dX1_addHazard_11 : decode cX1_addHazard 11 = .ok (.aload_n 0, 1) := by decide +kernel
theorem dX1_addHazard_12 : decode cX1_addHazard 12 = .ok (.getfield 25, 3) := by decide +kernel
theorem dX1_addHazard_15 : decode cX1_addHazard 15 = .ok (.iload_n 1, 1) := by decide +kernel
theorem dX1_addHazard_16 : decode cX1_addHazard 16 = .ok (.dup2, 1) := by decide +kernel
theorem dX1_addHazard_17 : decode cX1_addHazard 17 = .ok (.iaload, 1) := by decide +kernel
theorem dX1_addHazard_18 : decode cX1_addHazard 18 = .ok (.iconst 1, 1) := by decide +kernel
theorem dX1_addHazard_19 : decode cX1_addHazard 19 = .ok (.iload_n 2, 1) := by decide +kernel
theorem dX1_addHazard_20 : decode cX1_addHazard 20 = .ok (.ishl, 1) := by decide +kernel
theorem dX1_addHazard_21 : decode cX1_addHazard 21 = .ok (.ior, 1) := by decide +kernel
theorem dX1_addHazard_22 : decode cX1_addHazard 22 = .ok (.iastore, 1) := by decide +kernel
theorem dX1_addHazard_23 : decode cX1_addHazard 23 = .ok (.iconst 1, 1) := by decide +kernel
theorem dX1_addHazard_24 : decode cX1_addHazard 24 = .ok (.ireturn, 1) := by decide +kernel
set_option maxRecDepth 20000 in
theorem ggX1_allowsOption_X1_hasPart : GoodIn wsX1_allowsOption wsX1_hasPart := goodIn_r _ [6, 7, 11, 12, 13, 14, 15, 16, 17, 18, 19, 20, 21, 22] (by decide +kernel) (by decide +kernel)
set_option maxRecDepth 20000 in
theorem gX1_allowsOption_X1_hasPart : GoodIn wsX1_allowsOption (wsV RX1 80 RX1 yX1_hasPart wsX1_hasPart) := goodIn_app (goodIn_of _ (by decide +kernel)) ggX1_allowsOption_X1_hasPart
set_option maxRecDepth 20000 in
theorem ggX1_allowsOption_X5_isBelow : GoodIn wsX1_allowsOption wsX5_isBelow := goodIn_r _ [10] (by decide +kernel) (by decide +kernel)
set_option maxRecDepth 20000 in
theorem gX1_allowsOption_X5_isBelow_n50 : GoodIn wsX1_allowsOption (wsX5_isBelow) := ggX1_allowsOption_X5_isBelow
theorem dX1_allowsOption_0 : decode cX1_allowsOption 0 = .ok (.aload_n 0, 1) := by decide +kernel
theorem dX1_allowsOption_1 : decode cX1_allowsOption 1 = .ok (.iload_n 1, 1) := by decide +kernel
theorem dX1_allowsOption_2 : decode cX1_allowsOption 2 = .ok (.invokevirtual 80, 3) := by decide +kernel
theorem dX1_allowsOption_5 : decode cX1_allowsOption 5 = .ok (.ifCond .eq 25, 3) := by decide +kernel
theorem dX1_allowsOption_8 : decode cX1_allowsOption 8 = .ok (.iload_n 2, 1) := by decide +kernel
theorem dX1_allowsOption_9 : decode cX1_allowsOption 9 = .ok (.iconst 4, 1) := by decide +kernel
theorem dX1_allowsOption_10 : decode cX1_allowsOption 10 = .ok (.invokestatic 50, 3) := by decide +kernel
theorem dX1_allowsOption_13 : decode cX1_allowsOption 13 = .ok (.ifCond .eq 17, 3) := by decide +kernel
theorem dX1_allowsOption_16 : decode cX1_allowsOption 16 = .ok (.aload_n 0, 1) := by decide +kernel
theorem dX1_allowsOption_17 : decode cX1_allowsOption 17 = .ok (.getfield 28, 3) := by decide +kernel
theorem dX1_allowsOption_20 : decode cX1_allowsOption 20 = .ok (.iload_n 1, 1) := by decide +kernel
theorem dX1_allowsOption_21 : decode cX1_allowsOption 21 = .ok (.iaload, 1) := by decide +kernel
theorem dX1_allowsOption_22 : decode cX1_allowsOption 22 = .ok (.iload_n 2, 1) := by decide +kernel
theorem dX1_allowsOption_23 : decode cX1_allowsOption 23 = .ok (.if_icmp .eq 7, 3) := by decide +kernel
theorem dX1_allowsOption_26 : decode cX1_allowsOption 26 = .ok (.iconst 1, 1) := by decide +kernel
theorem dX1_allowsOption_27 : decode cX1_allowsOption 27 = .ok (.goto 4, 3) := by decide +kernel
theorem dX1_allowsOption_30 : decode cX1_allowsOption 30 = .ok (.iconst 0, 1) := by decide +kernel
theorem dX1_allowsOption_31 : decode cX1_allowsOption 31 = .ok (.ireturn, 1) := by decide +kernel
set_option maxRecDepth 20000 in
theorem ggX1_addOption_X1_allowsOption : GoodIn wsX1_addOption wsX1_allowsOption := goodIn_r _ [6, 1, 7, 8, 9, 5, 10, 11, 12, 13, 14, 15, 16, 17, 18, 19, 20, 21, 22, 23, 24, 25, 26] (by decide +kernel) (by decide +kernel)
set_option maxRecDepth 20000 in
theorem gX1_addOption_X1_allowsOption : GoodIn wsX1_addOption (wsV RX1 87 RX1 yX1_allowsOption wsX1_allowsOption) := goodIn_app (goodIn_of _ (by decide +kernel)) ggX1_addOption_X1_allowsOption
theorem dX1_addOption_0 : decode cX1_addOption 0 = .ok (.aload_n 0, 1) := by decide +kernel
theorem dX1_addOption_1 : decode cX1_addOption 1 = .ok (.iload_n 1, 1) := by decide +kernel
theorem dX1_addOption_2 : decode cX1_addOption 2 = .ok (.iload_n 2, 1) := by decide +kernel
theorem dX1_addOption_3 : decode cX1_addOption 3 = .ok (.invokevirtual 87, 3) := by decide +kernel
theorem dX1_addOption_6 : decode cX1_addOption 6 = .ok (.ifCond .ne 5, 3) := by decide +kernel
theorem dX1_addOption_9 : decode cX1_addOption 9 = .ok (.iconst 0, 1) := by decide +kernel
theorem dX1_addOption_10 : decode cX1_addOption 10 = .ok (.ireturn, 1) := by decide +kernel
theorem dX1_addOption_11 : decode cX1_addOption 11 = .ok (.aload_n 0, 1) := by decide +kernel
theorem dX1_addOption_12 : decode cX1_addOption 12 = .ok (.getfield 28, 3) := by decide +kernel
theorem dX1_addOption_15 : decode cX1_addOption 15 = .ok (.iload_n 1, 1) := by decide +kernel
theorem dX1_addOption_16 : decode cX1_addOption 16 = .ok (.iload_n 2, 1) := by decide +kernel
theorem dX1_addOption_17 : decode cX1_addOption 17 = .ok (.iastore, 1) := by decide +kernel
theorem dX1_addOption_18 : decode cX1_addOption 18 = .ok (.iconst 1, 1) := by decide +kernel
theorem dX1_addOption_19 : decode cX1_addOption 19 = .ok (.ireturn, 1) := by decide +kernel
set_option maxRecDepth 20000 in
theorem ggX1_allowsDamage_X1_hasPart : GoodIn wsX1_allowsDamage wsX1_hasPart := goodIn_r _ [5, 6, 10, 11, 12, 13, 14, 15, 16, 17, 18, 19, 20, 21] (by decide +kernel) (by decide +kernel)
set_option maxRecDepth 20000 in
theorem gX1_allowsDamage_X1_hasPart : GoodIn wsX1_allowsDamage (wsV RX1 80 RX1 yX1_hasPart wsX1_hasPart) := goodIn_app (goodIn_of _ (by decide +kernel)) ggX1_allowsDamage_X1_hasPart
set_option maxRecDepth 20000 in
theorem ggX1_allowsDamage_X5_isBelow : GoodIn wsX1_allowsDamage wsX5_isBelow := goodIn_r _ [9] (by decide +kernel) (by decide +kernel)
set_option maxRecDepth 20000 in
theorem gX1_allowsDamage_X5_isBelow_n50 : GoodIn wsX1_allowsDamage (wsX5_isBelow) := ggX1_allowsDamage_X5_isBelow
theorem dX1_allowsDamage_0 : decode cX1_allowsDamage 0 = .ok (.aload_n 0, 1) := by decide +kernel
theorem dX1_allowsDamage_1 : decode cX1_allowsDamage 1 = .ok (.iload_n 1, 1) := by decide +kernel
theorem dX1_allowsDamage_2 : decode cX1_allowsDamage 2 = .ok (.invokevirtual 80, 3) := by decide +kernel
theorem dX1_allowsDamage_5 : decode cX1_allowsDamage 5 = .ok (.ifCond .eq 15, 3) := by decide +kernel
theorem dX1_allowsDamage_8 : decode cX1_allowsDamage 8 = .ok (.iload_n 2, 1) := by decide +kernel
theorem dX1_allowsDamage_9 : decode cX1_allowsDamage 9 = .ok (.iconst 4, 1) := by decide +kernel
theorem dX1_allowsDamage_10 : decode cX1_allowsDamage 10 = .ok (.invokestatic 50, 3) := by decide +kernel
theorem dX1_allowsDamage_13 : decode cX1_allowsDamage 13 = .ok (.ifCond .eq 7, 3) := by decide +kernel
theorem dX1_allowsDamage_16 : decode cX1_allowsDamage 16 = .ok (.iconst 1, 1) := by decide +kernel
theorem dX1_allowsDamage_17 : decode cX1_allowsDamage 17 = .ok (.goto 4, 3) := by decide +kernel
theorem dX1_allowsDamage_20 : decode cX1_allowsDamage 20 = .ok (.iconst 0, 1) := by decide +kernel
theorem dX1_allowsDamage_21 : decode cX1_allowsDamage 21 = .ok (.ireturn, 1) := by decide +kernel
set_option maxRecDepth 20000 in
theorem ggX1_setDamage_X1_allowsDamage : GoodIn wsX1_setDamage wsX1_allowsDamage := goodIn_r _ [6, 7, 8, 9, 5, 10, 11, 12, 13, 14, 15, 16, 17, 18, 19, 20, 21, 22, 23, 24, 25, 26] (by decide +kernel) (by decide +kernel)
set_option maxRecDepth 20000 in
theorem gX1_setDamage_X1_allowsDamage : GoodIn wsX1_setDamage (wsV RX1 90 RX1 yX1_allowsDamage wsX1_allowsDamage) := goodIn_app (goodIn_of _ (by decide +kernel)) ggX1_setDamage_X1_allowsDamage
theorem dX1_setDamage_0 : decode cX1_setDamage 0 = .ok (.aload_n 0, 1) := by decide +kernel
theorem dX1_setDamage_1 : decode cX1_setDamage 1 = .ok (.iload_n 1, 1) := by decide +kernel
theorem dX1_setDamage_2 : decode cX1_setDamage 2 = .ok (.iload_n 2, 1) := by decide +kernel
theorem dX1_setDamage_3 : decode cX1_setDamage 3 = .ok (.invokevirtual 90, 3) := by decide +kernel
theorem dX1_setDamage_6 : decode cX1_setDamage 6 = .ok (.ifCond .ne 5, 3) := by decide +kernel
theorem dX1_setDamage_9 : decode cX1_setDamage 9 = .ok (.iconst (-1), 1) := by decide +kernel
theorem dX1_setDamage_10 : decode cX1_setDamage 10 = .ok (.ireturn, 1) := by decide +kernel
theorem dX1_setDamage_11 : decode cX1_setDamage 11 = .ok (.aload_n 0, 1) := by decide +kernel
theorem dX1_setDamage_12 : decode cX1_setDamage 12 = .ok (.getfield 31, 3) := by decide +kernel
theorem dX1_setDamage_15 : decode cX1_setDamage 15 = .ok (.iload_n 1, 1) := by decide +kernel
theorem dX1_setDamage_16 : decode cX1_setDamage 16 = .ok (.iaload, 1) := by decide +kernel
theorem dX1_setDamage_17 : decode cX1_setDamage 17 = .ok (.istore_n 3, 1) := by decide +kernel
theorem dX1_setDamage_18 : decode cX1_setDamage 18 = .ok (.aload_n 0, 1) := by decide +kernel
theorem dX1_setDamage_19 : decode cX1_setDamage 19 = .ok (.getfield 31, 3) := by decide +kernel
theorem dX1_setDamage_22 : decode cX1_setDamage 22 = .ok (.iload_n 1, 1) := by decide +kernel
theorem dX1_setDamage_23 : decode cX1_setDamage 23 = .ok (.iload_n 2, 1) := by decide +kernel
theorem dX1_setDamage_24 : decode cX1_setDamage 24 = .ok (.iastore, 1) := by decide +kernel
theorem dX1_setDamage_25 : decode cX1_setDamage 25 = .ok (.iload_n 3, 1) := by decide +kernel
theorem dX1_setDamage_26 : decode cX1_setDamage 26 = .ok (.ireturn, 1) := by decide +kernel
set_option maxRecDepth 20000 in
theorem ggX1_allows_Jx29ce0_ordinal_8abf5 : GoodIn wsX1_allows wsJx29ce0_ordinal_8abf5 := goodIn_r _ [7, 8] (by decide +kernel) (by decide +kernel)
set_option maxRecDepth 20000 in
theorem gX1_allows_Jx29ce0_ordinal_8abf5_u98X4 : GoodIn wsX1_allows (va_wsU RX1 98 RX4 "java/lang/Enum" ⟨"PartGraphs$Verb", "ordinal", "()I"⟩ yJx29ce0_ordinal_8abf5 wsJx29ce0_ordinal_8abf5) := goodIn_app (goodIn_of _ (by decide +kernel)) ggX1_allows_Jx29ce0_ordinal_8abf5
set_option maxRecDepth 20000 in
theorem ggX1_allows_X1_allowsPart : GoodIn wsX1_allows wsX1_allowsPart := goodIn_r _ [13, 14, 15, 16, 17, 18, 61, 62, 63, 64, 65, 66, 67, 68, 69, 70, 71, 72] (by decide +kernel) (by decide +kernel)
set_option maxRecDepth 20000 in
theorem gX1_allows_X1_allowsPart : GoodIn wsX1_allows (wsV RX1 56 RX1 yX1_allowsPart wsX1_allowsPart) := goodIn_app (goodIn_of _ (by decide +kernel)) ggX1_allows_X1_allowsPart
set_option maxRecDepth 20000 in
theorem ggX1_allows_X1_allowsCover : GoodIn wsX1_allows wsX1_allowsCover := goodIn_r _ [22, 23, 24, 25, 26, 12, 27, 14, 28, 17, 29, 61, 62, 63, 64, 65, 66, 67, 68, 69, 70, 71, 72] (by decide +kernel) (by decide +kernel)
set_option maxRecDepth 20000 in
theorem gX1_allows_X1_allowsCover : GoodIn wsX1_allows (wsV RX1 74 RX1 yX1_allowsCover wsX1_allowsCover) := goodIn_app (goodIn_of _ (by decide +kernel)) ggX1_allows_X1_allowsCover
set_option maxRecDepth 20000 in
theorem ggX1_allows_X1_allowsBar : GoodIn wsX1_allows wsX1_allowsBar := goodIn_r _ [33, 34, 24, 25, 26, 12, 27, 14, 16, 17, 18, 35, 36, 37, 28, 29, 61, 62, 63, 64, 65, 66, 67, 68, 69, 70, 71, 72] (by decide +kernel) (by decide +kernel)
set_option maxRecDepth 20000 in
theorem gX1_allows_X1_allowsBar : GoodIn wsX1_allows (wsV RX1 77 RX1 yX1_allowsBar wsX1_allowsBar) := goodIn_app (goodIn_of _ (by decide +kernel)) ggX1_allows_X1_allowsBar
set_option maxRecDepth 20000 in
theorem ggX1_allows_X1_allowsFastening : GoodIn wsX1_allows wsX1_allowsFastening := goodIn_r _ [41, 42, 24, 25, 26, 12, 27, 14, 16, 17, 18, 61, 62, 63, 64, 65, 66, 67, 68, 69, 70, 71, 72] (by decide +kernel) (by decide +kernel)
set_option maxRecDepth 20000 in
theorem gX1_allows_X1_allowsFastening : GoodIn wsX1_allows (wsV RX1 67 RX1 yX1_allowsFastening wsX1_allowsFastening) := goodIn_app (goodIn_of _ (by decide +kernel)) ggX1_allows_X1_allowsFastening
set_option maxRecDepth 20000 in
theorem ggX1_allows_X1_allowsHazard : GoodIn wsX1_allows wsX1_allowsHazard := goodIn_r _ [46, 47, 48, 49, 50, 12, 51, 14, 16, 17, 18, 28, 29, 61, 62, 63, 64, 65, 66, 67, 68, 69, 70, 71, 72] (by decide +kernel) (by decide +kernel)
set_option maxRecDepth 20000 in
theorem gX1_allows_X1_allowsHazard : GoodIn wsX1_allows (wsV RX1 84 RX1 yX1_allowsHazard wsX1_allowsHazard) := goodIn_app (goodIn_of _ (by decide +kernel)) ggX1_allows_X1_allowsHazard
set_option maxRecDepth 20000 in
theorem ggX1_allows_X1_allowsOption : GoodIn wsX1_allows wsX1_allowsOption := goodIn_r _ [55, 56, 48, 49, 50, 12, 51, 14, 16, 17, 18, 61, 62, 63, 64, 65, 66, 67, 68, 69, 70, 71, 72] (by decide +kernel) (by decide +kernel)
set_option maxRecDepth 20000 in
theorem gX1_allows_X1_allowsOption : GoodIn wsX1_allows (wsV RX1 87 RX1 yX1_allowsOption wsX1_allowsOption) := goodIn_app (goodIn_of _ (by decide +kernel)) ggX1_allows_X1_allowsOption
set_option maxRecDepth 20000 in
theorem ggX1_allows_X1_allowsDamage : GoodIn wsX1_allows wsX1_allowsDamage := goodIn_r _ [60, 48, 49, 50, 12, 51, 14, 16, 17, 18, 61, 62, 63, 64, 65, 66, 67, 68, 69, 70, 71, 72] (by decide +kernel) (by decide +kernel)
set_option maxRecDepth 20000 in
theorem gX1_allows_X1_allowsDamage : GoodIn wsX1_allows (wsV RX1 90 RX1 yX1_allowsDamage wsX1_allowsDamage) := goodIn_app (goodIn_of _ (by decide +kernel)) ggX1_allows_X1_allowsDamage
theorem dX1_allows_0 : decode cX1_allows 0 = .ok (.getstatic 93, 3) := by decide +kernel
theorem dX1_allows_3 : decode cX1_allows 3 = .ok (.aload_n 1, 1) := by decide +kernel
theorem dX1_allows_4 : decode cX1_allows 4 = .ok (.invokevirtual 98, 3) := by decide +kernel
theorem dX1_allows_7 : decode cX1_allows 7 = .ok (.iaload, 1) := by decide +kernel
theorem dX1_allows_8 : decode cX1_allows 8 = .ok (.tableswitch 87 1 6 #[40, 48, 55, 64, 73, 80], 40) := by decide +kernel
theorem dX1_allows_48 : decode cX1_allows 48 = .ok (.aload_n 0, 1) := by decide +kernel
theorem dX1_allows_49 : decode cX1_allows 49 = .ok (.iload_n 2, 1) := by decide +kernel
theorem dX1_allows_50 : decode cX1_allows 50 = .ok (.iload_n 3, 1) := by decide +kernel
theorem dX1_allows_51 : decode cX1_allows 51 = .ok (.i2l, 1) := by decide +kernel
theorem dX1_allows_52 : decode cX1_allows 52 = .ok (.invokevirtual 56, 3) := by decide +kernel
theorem dX1_allows_55 : decode cX1_allows 55 = .ok (.ireturn, 1) := by decide +kernel
theorem dX1_allows_56 : decode cX1_allows 56 = .ok (.aload_n 0, 1) := by decide +kernel
theorem dX1_allows_57 : decode cX1_allows 57 = .ok (.iload_n 2, 1) := by decide +kernel
theorem dX1_allows_58 : decode cX1_allows 58 = .ok (.iload_n 3, 1) := by decide +kernel
theorem dX1_allows_59 : decode cX1_allows 59 = .ok (.invokevirtual 74, 3) := by decide +kernel
theorem dX1_allows_62 : decode cX1_allows 62 = .ok (.ireturn, 1) := by decide +kernel
theorem dX1_allows_63 : decode cX1_allows 63 = .ok (.aload_n 0, 1) := by decide +kernel
theorem dX1_allows_64 : decode cX1_allows 64 = .ok (.iload_n 2, 1) := by decide +kernel
theorem dX1_allows_65 : decode cX1_allows 65 = .ok (.iload_n 3, 1) := by decide +kernel
theorem dX1_allows_66 : decode cX1_allows 66 = .ok (.iload 4, 2) := by decide +kernel
theorem dX1_allows_68 : decode cX1_allows 68 = .ok (.invokevirtual 77, 3) := by decide +kernel
theorem dX1_allows_71 : decode cX1_allows 71 = .ok (.ireturn, 1) := by decide +kernel
theorem dX1_allows_72 : decode cX1_allows 72 = .ok (.aload_n 0, 1) := by decide +kernel
theorem dX1_allows_73 : decode cX1_allows 73 = .ok (.iload_n 2, 1) := by decide +kernel
theorem dX1_allows_74 : decode cX1_allows 74 = .ok (.iload_n 3, 1) := by decide +kernel
theorem dX1_allows_75 : decode cX1_allows 75 = .ok (.iload 4, 2) := by decide +kernel
theorem dX1_allows_77 : decode cX1_allows 77 = .ok (.invokevirtual 67, 3) := by decide +kernel
theorem dX1_allows_80 : decode cX1_allows 80 = .ok (.ireturn, 1) := by decide +kernel
theorem dX1_allows_81 : decode cX1_allows 81 = .ok (.aload_n 0, 1) := by decide +kernel
theorem dX1_allows_82 : decode cX1_allows 82 = .ok (.iload_n 2, 1) := by decide +kernel
theorem dX1_allows_83 : decode cX1_allows 83 = .ok (.iload_n 3, 1) := by decide +kernel
theorem dX1_allows_84 : decode cX1_allows 84 = .ok (.invokevirtual 84, 3) := by decide +kernel
theorem dX1_allows_87 : decode cX1_allows 87 = .ok (.ireturn, 1) := by decide +kernel
theorem dX1_allows_88 : decode cX1_allows 88 = .ok (.aload_n 0, 1) := by decide +kernel
theorem dX1_allows_89 : decode cX1_allows 89 = .ok (.iload_n 2, 1) := by decide +kernel
theorem dX1_allows_90 : decode cX1_allows 90 = .ok (.iload_n 3, 1) := by decide +kernel
theorem dX1_allows_91 : decode cX1_allows 91 = .ok (.invokevirtual 87, 3) := by decide +kernel
theorem dX1_allows_94 : decode cX1_allows 94 = .ok (.ireturn, 1) := by decide +kernel
theorem dX1_allows_95 : decode cX1_allows 95 = .ok (.aload_n 0, 1) := by decide +kernel
theorem dX1_allows_96 : decode cX1_allows 96 = .ok (.iload_n 2, 1) := by decide +kernel
theorem dX1_allows_97 : decode cX1_allows 97 = .ok (.iload_n 3, 1) := by decide +kernel
theorem dX1_allows_98 : decode cX1_allows 98 = .ok (.invokevirtual 90, 3) := by decide +kernel
theorem dX1_allows_101 : decode cX1_allows 101 = .ok (.ireturn, 1) := by decide +kernel
set_option maxRecDepth 20000 in
theorem ggX1_carryOut_Jx29ce0_ordinal_8abf5 : GoodIn wsX1_carryOut wsJx29ce0_ordinal_8abf5 := goodIn_r _ [7, 8] (by decide +kernel) (by decide +kernel)
set_option maxRecDepth 20000 in
theorem gX1_carryOut_Jx29ce0_ordinal_8abf5_u98X4 : GoodIn wsX1_carryOut (va_wsU RX1 98 RX4 "java/lang/Enum" ⟨"PartGraphs$Verb", "ordinal", "()I"⟩ yJx29ce0_ordinal_8abf5 wsJx29ce0_ordinal_8abf5) := goodIn_app (goodIn_of _ (by decide +kernel)) ggX1_carryOut_Jx29ce0_ordinal_8abf5
set_option maxRecDepth 20000 in
theorem ggX1_carryOut_X1_addPart : GoodIn wsX1_carryOut wsX1_addPart := goodIn_r _ [13, 14, 15, 16, 17, 18, 19, 20, 21, 22, 23, 24, 12, 25, 26, 27, 28, 29, 30, 31, 32, 95, 96, 97, 98, 99, 100, 101, 102, 103, 104, 105, 106] (by decide +kernel) (by decide +kernel)
set_option maxRecDepth 20000 in
theorem gX1_carryOut_X1_addPart : GoodIn wsX1_carryOut (wsV RX1 104 RX1 yX1_addPart wsX1_addPart) := goodIn_app (goodIn_of _ (by decide +kernel)) ggX1_carryOut_X1_addPart
set_option maxRecDepth 20000 in
theorem ggX1_carryOut_X1_addCover : GoodIn wsX1_carryOut wsX1_addCover := goodIn_r _ [36, 17, 37, 38, 39, 12, 40, 41, 42, 43, 44, 14, 45, 28, 46, 95, 96, 97, 98, 99, 100, 101, 102, 103, 104, 105, 106] (by decide +kernel) (by decide +kernel)
set_option maxRecDepth 20000 in
theorem gX1_carryOut_X1_addCover : GoodIn wsX1_carryOut (wsV RX1 108 RX1 yX1_addCover wsX1_addCover) := goodIn_app (goodIn_of _ (by decide +kernel)) ggX1_carryOut_X1_addCover
set_option maxRecDepth 20000 in
theorem ggX1_carryOut_X1_addBar : GoodIn wsX1_carryOut wsX1_addBar := goodIn_r _ [50, 18, 51, 52, 53, 12, 54, 41, 42, 43, 44, 14, 27, 28, 29, 30, 31, 32, 45, 46, 95, 96, 97, 98, 99, 100, 101, 102, 103, 104, 105, 106] (by decide +kernel) (by decide +kernel)
set_option maxRecDepth 20000 in
theorem gX1_carryOut_X1_addBar : GoodIn wsX1_carryOut (wsV RX1 111 RX1 yX1_addBar wsX1_addBar) := goodIn_app (goodIn_of _ (by decide +kernel)) ggX1_carryOut_X1_addBar
set_option maxRecDepth 20000 in
theorem ggX1_carryOut_X1_addFastening : GoodIn wsX1_carryOut wsX1_addFastening := goodIn_r _ [58, 59, 60, 61, 62, 63, 64, 65, 12, 66, 41, 42, 43, 44, 14, 27, 28, 29, 95, 96, 97, 98, 99, 100, 101, 102, 103, 104, 105, 106] (by decide +kernel) (by decide +kernel)
set_option maxRecDepth 20000 in
theorem gX1_carryOut_X1_addFastening : GoodIn wsX1_carryOut (wsV RX1 114 RX1 yX1_addFastening wsX1_addFastening) := goodIn_app (goodIn_of _ (by decide +kernel)) ggX1_carryOut_X1_addFastening
set_option maxRecDepth 20000 in
theorem ggX1_carryOut_X1_addHazard : GoodIn wsX1_carryOut wsX1_addHazard := goodIn_r _ [70, 19, 71, 72, 73, 12, 74, 75, 76, 77, 78, 14, 27, 28, 29, 45, 46, 95, 96, 97, 98, 99, 100, 101, 102, 103, 104, 105, 106] (by decide +kernel) (by decide +kernel)
set_option maxRecDepth 20000 in
theorem gX1_carryOut_X1_addHazard : GoodIn wsX1_carryOut (wsV RX1 118 RX1 yX1_addHazard wsX1_addHazard) := goodIn_app (goodIn_of _ (by decide +kernel)) ggX1_carryOut_X1_addHazard
set_option maxRecDepth 20000 in
theorem ggX1_carryOut_X1_addOption : GoodIn wsX1_carryOut wsX1_addOption := goodIn_r _ [82, 20, 83, 84, 85, 12, 86, 75, 76, 77, 78, 14, 27, 28, 29, 95, 96, 97, 98, 99, 100, 101, 102, 103, 104, 105, 106] (by decide +kernel) (by decide +kernel)
set_option maxRecDepth 20000 in
theorem gX1_carryOut_X1_addOption : GoodIn wsX1_carryOut (wsV RX1 121 RX1 yX1_addOption wsX1_addOption) := goodIn_app (goodIn_of _ (by decide +kernel)) ggX1_carryOut_X1_addOption
set_option maxRecDepth 20000 in
theorem ggX1_carryOut_X1_setDamage : GoodIn wsX1_carryOut wsX1_setDamage := goodIn_r _ [90, 21, 91, 92, 93, 12, 94, 75, 76, 77, 78, 14, 27, 28, 29, 95, 96, 97, 98, 99, 100, 101, 102, 103, 104, 105, 106] (by decide +kernel) (by decide +kernel)
set_option maxRecDepth 20000 in
theorem gX1_carryOut_X1_setDamage : GoodIn wsX1_carryOut (wsV RX1 124 RX1 yX1_setDamage wsX1_setDamage) := goodIn_app (goodIn_of _ (by decide +kernel)) ggX1_carryOut_X1_setDamage
theorem dX1_carryOut_0 : decode cX1_carryOut 0 = .ok (.getstatic 93, 3) := by decide +kernel
theorem dX1_carryOut_3 : decode cX1_carryOut 3 = .ok (.aload_n 1, 1) := by decide +kernel
theorem dX1_carryOut_4 : decode cX1_carryOut 4 = .ok (.invokevirtual 98, 3) := by decide +kernel
theorem dX1_carryOut_7 : decode cX1_carryOut 7 = .ok (.iaload, 1) := by decide +kernel
theorem dX1_carryOut_8 : decode cX1_carryOut 8 = .ok (.tableswitch 105 1 6 #[40, 51, 61, 73, 85, 95], 40) := by decide +kernel
theorem dX1_carryOut_48 : decode cX1_carryOut 48 = .ok (.aload_n 0, 1) := by decide +kernel
theorem dX1_carryOut_49 : decode cX1_carryOut 49 = .ok (.iload_n 2, 1) := by decide +kernel
theorem dX1_carryOut_50 : decode cX1_carryOut 50 = .ok (.iload_n 3, 1) := by decide +kernel
theorem dX1_carryOut_51 : decode cX1_carryOut 51 = .ok (.i2l, 1) := by decide +kernel
theorem dX1_carryOut_52 : decode cX1_carryOut 52 = .ok (.invokevirtual 104, 3) := by decide +kernel
theorem dX1_carryOut_55 : decode cX1_carryOut 55 = .ok (.pop, 1) := by decide +kernel
theorem dX1_carryOut_56 : decode cX1_carryOut 56 = .ok (.goto 64, 3) := by decide +kernel
theorem dX1_carryOut_59 : decode cX1_carryOut 59 = .ok (.aload_n 0, 1) := by decide +kernel
theorem dX1_carryOut_60 : decode cX1_carryOut 60 = .ok (.iload_n 2, 1) := by decide +kernel
theorem dX1_carryOut_61 : decode cX1_carryOut 61 = .ok (.iload_n 3, 1) := by decide +kernel
theorem dX1_carryOut_62 : decode cX1_carryOut 62 = .ok (.invokevirtual 108, 3) := by decide +kernel
theorem dX1_carryOut_65 : decode cX1_carryOut 65 = .ok (.pop, 1) := by decide +kernel
theorem dX1_carryOut_66 : decode cX1_carryOut 66 = .ok (.goto 54, 3) := by decide +kernel
theorem dX1_carryOut_69 : decode cX1_carryOut 69 = .ok (.aload_n 0, 1) := by decide +kernel
theorem dX1_carryOut_70 : decode cX1_carryOut 70 = .ok (.iload_n 2, 1) := by decide +kernel
theorem dX1_carryOut_71 : decode cX1_carryOut 71 = .ok (.iload_n 3, 1) := by decide +kernel
theorem dX1_carryOut_72 : decode cX1_carryOut 72 = .ok (.iload 4, 2) := by decide +kernel
theorem dX1_carryOut_74 : decode cX1_carryOut 74 = .ok (.invokevirtual 111, 3) := by decide +kernel
theorem dX1_carryOut_77 : decode cX1_carryOut 77 = .ok (.pop, 1) := by decide +kernel
theorem dX1_carryOut_78 : decode cX1_carryOut 78 = .ok (.goto 42, 3) := by decide +kernel
theorem dX1_carryOut_81 : decode cX1_carryOut 81 = .ok (.aload_n 0, 1) := by decide +kernel
theorem dX1_carryOut_82 : decode cX1_carryOut 82 = .ok (.iload_n 2, 1) := by decide +kernel
theorem dX1_carryOut_83 : decode cX1_carryOut 83 = .ok (.iload_n 3, 1) := by decide +kernel
theorem dX1_carryOut_84 : decode cX1_carryOut 84 = .ok (.iload 4, 2) := by decide +kernel
theorem dX1_carryOut_86 : decode cX1_carryOut 86 = .ok (.invokevirtual 114, 3) := by decide +kernel
theorem dX1_carryOut_89 : decode cX1_carryOut 89 = .ok (.pop, 1) := by decide +kernel
theorem dX1_carryOut_90 : decode cX1_carryOut 90 = .ok (.goto 30, 3) := by decide +kernel
theorem dX1_carryOut_93 : decode cX1_carryOut 93 = .ok (.aload_n 0, 1) := by decide +kernel
theorem dX1_carryOut_94 : decode cX1_carryOut 94 = .ok (.iload_n 2, 1) := by decide +kernel
theorem dX1_carryOut_95 : decode cX1_carryOut 95 = .ok (.iload_n 3, 1) := by decide +kernel
theorem dX1_carryOut_96 : decode cX1_carryOut 96 = .ok (.invokevirtual 118, 3) := by decide +kernel
theorem dX1_carryOut_99 : decode cX1_carryOut 99 = .ok (.pop, 1) := by decide +kernel
theorem dX1_carryOut_100 : decode cX1_carryOut 100 = .ok (.goto 20, 3) := by decide +kernel
theorem dX1_carryOut_103 : decode cX1_carryOut 103 = .ok (.aload_n 0, 1) := by decide +kernel
theorem dX1_carryOut_104 : decode cX1_carryOut 104 = .ok (.iload_n 2, 1) := by decide +kernel
theorem dX1_carryOut_105 : decode cX1_carryOut 105 = .ok (.iload_n 3, 1) := by decide +kernel
theorem dX1_carryOut_106 : decode cX1_carryOut 106 = .ok (.invokevirtual 121, 3) := by decide +kernel
theorem dX1_carryOut_109 : decode cX1_carryOut 109 = .ok (.pop, 1) := by decide +kernel
theorem dX1_carryOut_110 : decode cX1_carryOut 110 = .ok (.goto 10, 3) := by decide +kernel
theorem dX1_carryOut_113 : decode cX1_carryOut 113 = .ok (.aload_n 0, 1) := by decide +kernel
theorem dX1_carryOut_114 : decode cX1_carryOut 114 = .ok (.iload_n 2, 1) := by decide +kernel
theorem dX1_carryOut_115 : decode cX1_carryOut 115 = .ok (.iload_n 3, 1) := by decide +kernel
theorem dX1_carryOut_116 : decode cX1_carryOut 116 = .ok (.invokevirtual 124, 3) := by decide +kernel
theorem dX1_carryOut_119 : decode cX1_carryOut 119 = .ok (.pop, 1) := by decide +kernel
theorem dX1_carryOut_120 : decode cX1_carryOut 120 = .ok (.return_, 1) := by decide +kernel
set_option maxRecDepth 20000 in
theorem ggX1_isPlain_X1_hasPart : GoodIn wsX1_isPlain wsX1_hasPart := goodIn_r _ [6, 7, 11, 12, 13, 14, 15, 16, 17, 18, 19, 20, 21, 22] (by decide +kernel) (by decide +kernel)
set_option maxRecDepth 20000 in
theorem gX1_isPlain_X1_hasPart : GoodIn wsX1_isPlain (wsV RX1 80 RX1 yX1_hasPart wsX1_hasPart) := goodIn_app (goodIn_of _ (by decide +kernel)) ggX1_isPlain_X1_hasPart
set_option maxRecDepth 20000 in
theorem ggX1_isPlain_X5_contains : GoodIn wsX1_isPlain wsX5_contains := goodIn_r _ [10] (by decide +kernel) (by decide +kernel)
set_option maxRecDepth 20000 in
theorem gX1_isPlain_X5_contains_n71 : GoodIn wsX1_isPlain (wsX5_contains) := ggX1_isPlain_X5_contains
theorem dX1_isPlain_0 : decode cX1_isPlain 0 = .ok (.aload_n 0, 1) := by decide +kernel
theorem dX1_isPlain_1 : decode cX1_isPlain 1 = .ok (.iload_n 1, 1) := by decide +kernel
theorem dX1_isPlain_2 : decode cX1_isPlain 2 = .ok (.invokevirtual 80, 3) := by decide +kernel
theorem dX1_isPlain_5 : decode cX1_isPlain 5 = .ok (.ifCond .eq 28, 3) := by decide +kernel
theorem dX1_isPlain_8 : decode cX1_isPlain 8 = .ok (.iload_n 2, 1) := by decide +kernel
theorem dX1_isPlain_9 : decode cX1_isPlain 9 = .ok (.iload_n 1, 1) := by decide +kernel
theorem dX1_isPlain_10 : decode cX1_isPlain 10 = .ok (.invokestatic 71, 3) := by decide +kernel
theorem dX1_isPlain_13 : decode cX1_isPlain 13 = .ok (.ifCond .ne 20, 3) := by decide +kernel
theorem dX1_isPlain_16 : decode cX1_isPlain 16 = .ok (.aload_n 0, 1) := by decide +kernel
theorem dX1_isPlain_17 : decode cX1_isPlain 17 = .ok (.getfield 19, 3) := by decide +kernel
theorem dX1_isPlain_20 : decode cX1_isPlain 20 = .ok (.iload_n 1, 1) := by decide +kernel
theorem dX1_isPlain_21 : decode cX1_isPlain 21 = .ok (.iaload, 1) := by decide +kernel
theorem dX1_isPlain_22 : decode cX1_isPlain 22 = .ok (.iload_n 2, 1) := by decide +kernel
theorem dX1_isPlain_23 : decode cX1_isPlain 23 = .ok (.iconst (-1), 1) := by decide +kernel
theorem dX1_isPlain_24 : decode cX1_isPlain 24 = .ok (.ixor, 1) := by decide +kernel
theorem dX1_isPlain_25 : decode cX1_isPlain 25 = .ok (.iand, 1) := by decide +kernel
theorem dX1_isPlain_26 : decode cX1_isPlain 26 = .ok (.ifCond .ne 7, 3) := by decide +kernel
theorem dX1_isPlain_29 : decode cX1_isPlain 29 = .ok (.iconst 1, 1) := by decide +kernel
theorem dX1_isPlain_30 : decode cX1_isPlain 30 = .ok (.goto 4, 3) := by decide +kernel
theorem dX1_isPlain_33 : decode cX1_isPlain 33 = .ok (.iconst 0, 1) := by decide +kernel
theorem dX1_isPlain_34 : decode cX1_isPlain 34 = .ok (.ireturn, 1) := by decide +kernel
set_option maxRecDepth 20000 in
theorem ggX1_isFree_X1_isPlain : GoodIn wsX1_isFree wsX1_isPlain := goodIn_r _ [6, 7, 8, 9, 10, 5, 11, 12, 13, 14, 15, 19, 20, 21, 22, 23, 24, 25, 26, 27, 28, 29, 30] (by decide +kernel) (by decide +kernel)
set_option maxRecDepth 20000 in
theorem gX1_isFree_X1_isPlain : GoodIn wsX1_isFree (wsV RX1 127 RX1 yX1_isPlain wsX1_isPlain) := goodIn_app (goodIn_of _ (by decide +kernel)) ggX1_isFree_X1_isPlain
set_option maxRecDepth 20000 in
theorem ggX1_isFree_X1_barIndex : GoodIn wsX1_isFree wsX1_barIndex := goodIn_r _ [18] (by decide +kernel) (by decide +kernel)
set_option maxRecDepth 20000 in
theorem gX1_isFree_X1_barIndex : GoodIn wsX1_isFree (va_wsS RX1 60 yX1_barIndex wsX1_barIndex) := goodIn_app (goodIn_of _ (by decide +kernel)) ggX1_isFree_X1_barIndex
theorem dX1_isFree_0 : decode cX1_isFree 0 = .ok (.aload_n 0, 1) := by decide +kernel
theorem dX1_isFree_1 : decode cX1_isFree 1 = .ok (.iload_n 1, 1) := by decide +kernel
theorem dX1_isFree_2 : decode cX1_isFree 2 = .ok (.iload_n 2, 1) := by decide +kernel
theorem dX1_isFree_3 : decode cX1_isFree 3 = .ok (.invokevirtual 127, 3) := by decide +kernel
theorem dX1_isFree_6 : decode cX1_isFree 6 = .ok (.ifCond .ne 5, 3) := by decide +kernel
theorem dX1_isFree_9 : decode cX1_isFree 9 = .ok (.iconst 0, 1) := by decide +kernel
theorem dX1_isFree_10 : decode cX1_isFree 10 = .ok (.ireturn, 1) := by decide +kernel
theorem dX1_isFree_11 : decode cX1_isFree 11 = .ok (.iconst 0, 1) := by decide +kernel
theorem dX1_isFree_12 : decode cX1_isFree 12 = .ok (.istore_n 3, 1) := by decide +kernel
theorem dX1_isFree_13 : decode cX1_isFree 13 = .ok (.iload_n 3, 1) := by decide +kernel
theorem dX1_isFree_14 : decode cX1_isFree 14 = .ok (.bipush 6, 2) := by decide +kernel
theorem dX1_isFree_16 : decode cX1_isFree 16 = .ok (.if_icmp .ge 28, 3) := by decide +kernel
theorem dX1_isFree_19 : decode cX1_isFree 19 = .ok (.aload_n 0, 1) := by decide +kernel
theorem dX1_isFree_20 : decode cX1_isFree 20 = .ok (.getfield 22, 3) := by decide +kernel
theorem dX1_isFree_23 : decode cX1_isFree 23 = .ok (.iload_n 1, 1) := by decide +kernel
theorem dX1_isFree_24 : decode cX1_isFree 24 = .ok (.iload_n 3, 1) := by decide +kernel
theorem dX1_isFree_25 : decode cX1_isFree 25 = .ok (.invokestatic 60, 3) := by decide +kernel
theorem dX1_isFree_28 : decode cX1_isFree 28 = .ok (.iaload, 1) := by decide +kernel
theorem dX1_isFree_29 : decode cX1_isFree 29 = .ok (.iload_n 2, 1) := by decide +kernel
theorem dX1_isFree_30 : decode cX1_isFree 30 = .ok (.iconst (-1), 1) := by decide +kernel
theorem dX1_isFree_31 : decode cX1_isFree 31 = .ok (.ixor, 1) := by decide +kernel
theorem dX1_isFree_32 : decode cX1_isFree 32 = .ok (.iand, 1) := by decide +kernel
theorem dX1_isFree_33 : decode cX1_isFree 33 = .ok (.ifCond .ne 5, 3) := by decide +kernel
theorem dX1_isFree_36 : decode cX1_isFree 36 = .ok (.iconst 1, 1) := by decide +kernel
theorem dX1_isFree_37 : decode cX1_isFree 37 = .ok (.ireturn, 1) := by decide +kernel
theorem dX1_isFree_38 : decode cX1_isFree 38 = .ok (.iinc 3 1, 3) := by decide +kernel
theorem dX1_isFree_41 : decode cX1_isFree 41 = .ok (.goto (-28), 3) := by decide +kernel
theorem dX1_isFree_44 : decode cX1_isFree 44 = .ok (.iconst 0, 1) := by decide +kernel
theorem dX1_isFree_45 : decode cX1_isFree 45 = .ok (.ireturn, 1) := by decide +kernel
set_option maxRecDepth 20000 in
theorem ggX1_comingOff_X1_isFree : GoodIn wsX1_comingOff wsX1_isFree := goodIn_r _ [6, 7, 8, 9, 10, 5, 11, 12, 13, 14, 15, 16, 1, 17, 18, 19, 20, 21, 22, 23, 24, 25, 26, 27, 28, 29, 30, 31, 32, 33, 34] (by decide +kernel) (by decide +kernel)
set_option maxRecDepth 20000 in
theorem gX1_comingOff_X1_isFree : GoodIn wsX1_comingOff (wsV RX1 130 RX1 yX1_isFree wsX1_isFree) := goodIn_app (goodIn_of _ (by decide +kernel)) ggX1_comingOff_X1_isFree
theorem dX1_comingOff_0 : decode cX1_comingOff 0 = .ok (.iconst 0, 1) := by decide +kernel
theorem dX1_comingOff_1 : decode cX1_comingOff 1 = .ok (.istore_n 2, 1) := by decide +kernel
theorem dX1_comingOff_2 : decode cX1_comingOff 2 = .ok (.iconst 0, 1) := by decide +kernel
theorem dX1_comingOff_3 : decode cX1_comingOff 3 = .ok (.istore_n 3, 1) := by decide +kernel
theorem dX1_comingOff_4 : decode cX1_comingOff 4 = .ok (.iload_n 3, 1) := by decide +kernel
theorem dX1_comingOff_5 : decode cX1_comingOff 5 = .ok (.bipush 10, 2) := by decide +kernel
theorem dX1_comingOff_7 : decode cX1_comingOff 7 = .ok (.if_icmp .ge 62, 3) := by decide +kernel
theorem dX1_comingOff_10 : decode cX1_comingOff 10 = .ok (.iload_n 2, 1) := by decide +kernel
theorem dX1_comingOff_11 : decode cX1_comingOff 11 = .ok (.istore 4, 2) := by decide +kernel
theorem dX1_comingOff_13 : decode cX1_comingOff 13 = .ok (.iconst 0, 1) := by decide +kernel
theorem dX1_comingOff_14 : decode cX1_comingOff 14 = .ok (.istore 5, 2) := by decide +kernel
theorem dX1_comingOff_16 : decode cX1_comingOff 16 = .ok (.iload 5, 2) := by decide +kernel
theorem dX1_comingOff_18 : decode cX1_comingOff 18 = .ok (.aload_n 0, 1) := by decide +kernel
theorem dX1_comingOff_19 : decode cX1_comingOff 19 = .ok (.getfield 43, 3) := by decide +kernel
theorem dX1_comingOff_22 : decode cX1_comingOff 22 = .ok (.if_icmp .ge 32, 3) := by decide +kernel
theorem dX1_comingOff_25 : decode cX1_comingOff 25 = .ok (.iload 5, 2) := by decide +kernel
theorem dX1_comingOff_27 : decode cX1_comingOff 27 = .ok (.iload_n 1, 1) := by decide +kernel
theorem dX1_comingOff_28 : decode cX1_comingOff 28 = .ok (.if_icmp .eq 20, 3) := by decide +kernel
theorem dX1_comingOff_31 : decode cX1_comingOff 31 = .ok (.aload_n 0, 1) := by decide +kernel
theorem dX1_comingOff_32 : decode cX1_comingOff 32 = .ok (.iload 5, 2) := by decide +kernel
theorem dX1_comingOff_34 : decode cX1_comingOff 34 = .ok (.iload_n 2, 1) := by decide +kernel
theorem dX1_comingOff_35 : decode cX1_comingOff 35 = .ok (.invokevirtual 130, 3) := by decide +kernel
theorem dX1_comingOff_38 : decode cX1_comingOff 38 = .ok (.ifCond .eq 10, 3) := by decide +kernel
theorem dX1_comingOff_41 : decode cX1_comingOff 41 = .ok (.iload_n 2, 1) := by decide +kernel
theorem dX1_comingOff_42 : decode cX1_comingOff 42 = .ok (.iconst 1, 1) := by decide +kernel
theorem dX1_comingOff_43 : decode cX1_comingOff 43 = .ok (.iload 5, 2) := by decide +kernel
theorem dX1_comingOff_45 : decode cX1_comingOff 45 = .ok (.ishl, 1) := by decide +kernel
theorem dX1_comingOff_46 : decode cX1_comingOff 46 = .ok (.ior, 1) := by decide +kernel
theorem dX1_comingOff_47 : decode cX1_comingOff 47 = .ok (.istore_n 2, 1) := by decide +kernel
theorem dX1_comingOff_48 : decode cX1_comingOff 48 = .ok (.iinc 5 1, 3) := by decide +kernel
theorem dX1_comingOff_51 : decode cX1_comingOff 51 = .ok (.goto (-35), 3) := by decide +kernel
theorem dX1_comingOff_54 : decode cX1_comingOff 54 = .ok (.iload_n 2, 1) := by decide +kernel
theorem dX1_comingOff_55 : decode cX1_comingOff 55 = .ok (.iload 4, 2) := by decide +kernel
theorem dX1_comingOff_57 : decode cX1_comingOff 57 = .ok (.if_icmp .ne 6, 3) := by decide +kernel
theorem dX1_comingOff_60 : decode cX1_comingOff 60 = .ok (.goto 9, 3) := by decide +kernel
theorem dX1_comingOff_63 : decode cX1_comingOff 63 = .ok (.iinc 3 1, 3) := by decide +kernel
theorem dX1_comingOff_66 : decode cX1_comingOff 66 = .ok (.goto (-62), 3) := by decide +kernel
theorem dX1_comingOff_69 : decode cX1_comingOff 69 = .ok (.iload_n 2, 1) := by decide +kernel
theorem dX1_comingOff_70 : decode cX1_comingOff 70 = .ok (.ireturn, 1) := by decide +kernel
set_option maxRecDepth 20000 in
theorem ggX1_neverComingOff_X1_comingOff : GoodIn wsX1_neverComingOff wsX1_comingOff := goodIn_r _ [6, 1, 7, 8, 9, 5, 10, 11, 12, 13, 14, 15, 16, 17, 18, 19, 20, 21, 22, 23, 24, 25, 26, 27, 28, 29, 30, 31, 32, 33, 34, 35, 36, 37, 38] (by decide +kernel) (by decide +kernel)
set_option maxRecDepth 20000 in
theorem gX1_neverComingOff_X1_comingOff : GoodIn wsX1_neverComingOff (wsV RX1 133 RX1 yX1_comingOff wsX1_comingOff) := goodIn_app (goodIn_of _ (by decide +kernel)) ggX1_neverComingOff_X1_comingOff
theorem dX1_neverComingOff_0 : decode cX1_neverComingOff 0 = .ok (.iconst 1, 1) := by decide +kernel
theorem dX1_neverComingOff_1 : decode cX1_neverComingOff 1 = .ok (.aload_n 0, 1) := by decide +kernel
theorem dX1_neverComingOff_2 : decode cX1_neverComingOff 2 = .ok (.getfield 43, 3) := by decide +kernel
theorem dX1_neverComingOff_5 : decode cX1_neverComingOff 5 = .ok (.ishl, 1) := by decide +kernel
theorem dX1_neverComingOff_6 : decode cX1_neverComingOff 6 = .ok (.iconst 1, 1) := by decide +kernel
theorem dX1_neverComingOff_7 : decode cX1_neverComingOff 7 = .ok (.isub, 1) := by decide +kernel
theorem dX1_neverComingOff_8 : decode cX1_neverComingOff 8 = .ok (.aload_n 0, 1) := by decide +kernel
theorem dX1_neverComingOff_9 : decode cX1_neverComingOff 9 = .ok (.iconst (-1), 1) := by decide +kernel
theorem dX1_neverComingOff_10 : decode cX1_neverComingOff 10 = .ok (.invokevirtual 133, 3) := by decide +kernel
theorem dX1_neverComingOff_13 : decode cX1_neverComingOff 13 = .ok (.iconst (-1), 1) := by decide +kernel
theorem dX1_neverComingOff_14 : decode cX1_neverComingOff 14 = .ok (.ixor, 1) := by decide +kernel
theorem dX1_neverComingOff_15 : decode cX1_neverComingOff 15 = .ok (.iand, 1) := by decide +kernel
theorem dX1_neverComingOff_16 : decode cX1_neverComingOff 16 = .ok (.ireturn, 1) := by decide +kernel
set_option maxRecDepth 20000 in
theorem ggX1_mustComeOffBefore_X1_hasPart : GoodIn wsX1_mustComeOffBefore wsX1_hasPart := goodIn_r _ [6, 1, 27, 28, 29, 30, 31, 32, 33, 34, 35, 36, 37, 38] (by decide +kernel) (by decide +kernel)
set_option maxRecDepth 20000 in
theorem gX1_mustComeOffBefore_X1_hasPart : GoodIn wsX1_mustComeOffBefore (wsV RX1 80 RX1 yX1_hasPart wsX1_hasPart) := goodIn_app (goodIn_of _ (by decide +kernel)) ggX1_mustComeOffBefore_X1_hasPart
set_option maxRecDepth 20000 in
theorem ggX1_mustComeOffBefore_X1_comingOff : GoodIn wsX1_mustComeOffBefore wsX1_comingOff := goodIn_r _ [10, 1, 11, 12, 13, 5, 14, 15, 16, 17, 18, 19, 20, 2, 3, 4, 6, 21, 22, 23, 24, 25, 26, 27, 28, 29, 30, 31, 32, 33, 34, 35, 36, 37, 38] (by decide +kernel) (by decide +kernel)
set_option maxRecDepth 20000 in
theorem gX1_mustComeOffBefore_X1_comingOff : GoodIn wsX1_mustComeOffBefore (wsV RX1 133 RX1 yX1_comingOff wsX1_comingOff) := goodIn_app (goodIn_of _ (by decide +kernel)) ggX1_mustComeOffBefore_X1_comingOff
set_option maxRecDepth 20000 in
theorem ggX1_mustComeOffBefore_X5_contains : GoodIn wsX1_mustComeOffBefore wsX5_contains := goodIn_r _ [23] (by decide +kernel) (by decide +kernel)
set_option maxRecDepth 20000 in
theorem gX1_mustComeOffBefore_X5_contains_n71 : GoodIn wsX1_mustComeOffBefore (wsX5_contains) := ggX1_mustComeOffBefore_X5_contains
theorem dX1_mustComeOffBefore_0 : decode cX1_mustComeOffBefore 0 = .ok (.iconst 0, 1) := by decide +kernel
theorem dX1_mustComeOffBefore_1 : decode cX1_mustComeOffBefore 1 = .ok (.istore_n 2, 1) := by decide +kernel
theorem dX1_mustComeOffBefore_2 : decode cX1_mustComeOffBefore 2 = .ok (.aload_n 0, 1) := by decide +kernel
theorem dX1_mustComeOffBefore_3 : decode cX1_mustComeOffBefore 3 = .ok (.iload_n 1, 1) := by decide +kernel
theorem dX1_mustComeOffBefore_4 : decode cX1_mustComeOffBefore 4 = .ok (.invokevirtual 80, 3) := by decide +kernel
theorem dX1_mustComeOffBefore_7 : decode cX1_mustComeOffBefore 7 = .ok (.ifCond .eq 15, 3) := by decide +kernel
theorem dX1_mustComeOffBefore_10 : decode cX1_mustComeOffBefore 10 = .ok (.aload_n 0, 1) := by decide +kernel
theorem dX1_mustComeOffBefore_11 : decode cX1_mustComeOffBefore 11 = .ok (.iconst (-1), 1) := by decide +kernel
theorem dX1_mustComeOffBefore_12 : decode cX1_mustComeOffBefore 12 = .ok (.invokevirtual 133, 3) := by decide +kernel
theorem dX1_mustComeOffBefore_15 : decode cX1_mustComeOffBefore 15 = .ok (.iload_n 1, 1) := by decide +kernel
theorem dX1_mustComeOffBefore_16 : decode cX1_mustComeOffBefore 16 = .ok (.invokestatic 71, 3) := by decide +kernel
theorem dX1_mustComeOffBefore_19 : decode cX1_mustComeOffBefore 19 = .ok (.ifCond .ne 5, 3) := by decide +kernel
theorem dX1_mustComeOffBefore_22 : decode cX1_mustComeOffBefore 22 = .ok (.iload_n 2, 1) := by decide +kernel
theorem dX1_mustComeOffBefore_23 : decode cX1_mustComeOffBefore 23 = .ok (.ireturn, 1) := by decide +kernel
theorem dX1_mustComeOffBefore_24 : decode cX1_mustComeOffBefore 24 = .ok (.iconst 0, 1) := by decide +kernel
theorem dX1_mustComeOffBefore_25 : decode cX1_mustComeOffBefore 25 = .ok (.istore_n 3, 1) := by decide +kernel
theorem dX1_mustComeOffBefore_26 : decode cX1_mustComeOffBefore 26 = .ok (.iload_n 3, 1) := by decide +kernel
theorem dX1_mustComeOffBefore_27 : decode cX1_mustComeOffBefore 27 = .ok (.aload_n 0, 1) := by decide +kernel
theorem dX1_mustComeOffBefore_28 : decode cX1_mustComeOffBefore 28 = .ok (.getfield 43, 3) := by decide +kernel
theorem dX1_mustComeOffBefore_31 : decode cX1_mustComeOffBefore 31 = .ok (.if_icmp .ge 32, 3) := by decide +kernel
theorem dX1_mustComeOffBefore_34 : decode cX1_mustComeOffBefore 34 = .ok (.iload_n 3, 1) := by decide +kernel
theorem dX1_mustComeOffBefore_35 : decode cX1_mustComeOffBefore 35 = .ok (.iload_n 1, 1) := by decide +kernel
theorem dX1_mustComeOffBefore_36 : decode cX1_mustComeOffBefore 36 = .ok (.if_icmp .eq 21, 3) := by decide +kernel
theorem dX1_mustComeOffBefore_39 : decode cX1_mustComeOffBefore 39 = .ok (.aload_n 0, 1) := by decide +kernel
theorem dX1_mustComeOffBefore_40 : decode cX1_mustComeOffBefore 40 = .ok (.iload_n 3, 1) := by decide +kernel
theorem dX1_mustComeOffBefore_41 : decode cX1_mustComeOffBefore 41 = .ok (.invokevirtual 133, 3) := by decide +kernel
theorem dX1_mustComeOffBefore_44 : decode cX1_mustComeOffBefore 44 = .ok (.iload_n 1, 1) := by decide +kernel
theorem dX1_mustComeOffBefore_45 : decode cX1_mustComeOffBefore 45 = .ok (.invokestatic 71, 3) := by decide +kernel
theorem dX1_mustComeOffBefore_48 : decode cX1_mustComeOffBefore 48 = .ok (.ifCond .ne 9, 3) := by decide +kernel
theorem dX1_mustComeOffBefore_51 : decode cX1_mustComeOffBefore 51 = .ok (.iload_n 2, 1) := by decide +kernel
theorem dX1_mustComeOffBefore_52 : decode cX1_mustComeOffBefore 52 = .ok (.iconst 1, 1) := by decide +kernel
theorem dX1_mustComeOffBefore_53 : decode cX1_mustComeOffBefore 53 = .ok (.iload_n 3, 1) := by decide +kernel
theorem dX1_mustComeOffBefore_54 : decode cX1_mustComeOffBefore 54 = .ok (.ishl, 1) := by decide +kernel
theorem dX1_mustComeOffBefore_55 : decode cX1_mustComeOffBefore 55 = .ok (.ior, 1) := by decide +kernel
theorem dX1_mustComeOffBefore_56 : decode cX1_mustComeOffBefore 56 = .ok (.istore_n 2, 1) := by decide +kernel
theorem dX1_mustComeOffBefore_57 : decode cX1_mustComeOffBefore 57 = .ok (.iinc 3 1, 3) := by decide +kernel
theorem dX1_mustComeOffBefore_60 : decode cX1_mustComeOffBefore 60 = .ok (.goto (-34), 3) := by decide +kernel
theorem dX1_mustComeOffBefore_63 : decode cX1_mustComeOffBefore 63 = .ok (.iload_n 2, 1) := by decide +kernel
theorem dX1_mustComeOffBefore_64 : decode cX1_mustComeOffBefore 64 = .ok (.ireturn, 1) := by decide +kernel
theorem dX1_membersOf_0 : decode cX1_membersOf 0 = .ok (.iconst 0, 1) := by decide +kernel
theorem dX1_membersOf_1 : decode cX1_membersOf 1 = .ok (.istore_n 2, 1) := by decide +kernel
theorem dX1_membersOf_2 : decode cX1_membersOf 2 = .ok (.iconst 0, 1) := by decide +kernel
theorem dX1_membersOf_3 : decode cX1_membersOf 3 = .ok (.istore_n 3, 1) := by decide +kernel
theorem dX1_membersOf_4 : decode cX1_membersOf 4 = .ok (.iload_n 3, 1) := by decide +kernel
theorem dX1_membersOf_5 : decode cX1_membersOf 5 = .ok (.aload_n 0, 1) := by decide +kernel
theorem dX1_membersOf_6 : decode cX1_membersOf 6 = .ok (.getfield 43, 3) := by decide +kernel
theorem dX1_membersOf_9 : decode cX1_membersOf 9 = .ok (.if_icmp .ge 25, 3) := by decide +kernel
theorem dX1_membersOf_12 : decode cX1_membersOf 12 = .ok (.aload_n 0, 1) := by decide +kernel
theorem dX1_membersOf_13 : decode cX1_membersOf 13 = .ok (.getfield 28, 3) := by decide +kernel
theorem dX1_membersOf_16 : decode cX1_membersOf 16 = .ok (.iload_n 3, 1) := by decide +kernel
theorem dX1_membersOf_17 : decode cX1_membersOf 17 = .ok (.iaload, 1) := by decide +kernel
theorem dX1_membersOf_18 : decode cX1_membersOf 18 = .ok (.iload_n 1, 1) := by decide +kernel
theorem dX1_membersOf_19 : decode cX1_membersOf 19 = .ok (.if_icmp .ne 9, 3) := by decide +kernel
theorem dX1_membersOf_22 : decode cX1_membersOf 22 = .ok (.iload_n 2, 1) := by decide +kernel
theorem dX1_membersOf_23 : decode cX1_membersOf 23 = .ok (.iconst 1, 1) := by decide +kernel
theorem dX1_membersOf_24 : decode cX1_membersOf 24 = .ok (.iload_n 3, 1) := by decide +kernel
theorem dX1_membersOf_25 : decode cX1_membersOf 25 = .ok (.ishl, 1) := by decide +kernel
theorem dX1_membersOf_26 : decode cX1_membersOf 26 = .ok (.ior, 1) := by decide +kernel
theorem dX1_membersOf_27 : decode cX1_membersOf 27 = .ok (.istore_n 2, 1) := by decide +kernel
theorem dX1_membersOf_28 : decode cX1_membersOf 28 = .ok (.iinc 3 1, 3) := by decide +kernel
theorem dX1_membersOf_31 : decode cX1_membersOf 31 = .ok (.goto (-27), 3) := by decide +kernel
theorem dX1_membersOf_34 : decode cX1_membersOf 34 = .ok (.iload_n 2, 1) := by decide +kernel
theorem dX1_membersOf_35 : decode cX1_membersOf 35 = .ok (.ireturn, 1) := by decide +kernel
set_option maxRecDepth 20000 in
theorem ggX1_variant_X1_membersOf : GoodIn wsX1_variant wsX1_membersOf := goodIn_r _ [5, 6, 7, 21, 22, 23, 24, 25, 26, 27, 28, 29, 30, 31, 32] (by decide +kernel) (by decide +kernel)
set_option maxRecDepth 20000 in
theorem gX1_variant_X1_membersOf : GoodIn wsX1_variant (wsV RX1 137 RX1 yX1_membersOf wsX1_membersOf) := goodIn_app (goodIn_of _ (by decide +kernel)) ggX1_variant_X1_membersOf
set_option maxRecDepth 20000 in
theorem ggX1_variant_J6_bitCount_0f7a4 : GoodIn wsX1_variant wsJ6_bitCount_0f7a4 := goodIn_r _ [11, 12, 13, 14] (by decide +kernel) (by decide +kernel)
set_option maxRecDepth 20000 in
theorem gX1_variant_J6_bitCount_0f7a4 : GoodIn wsX1_variant (va_wsS RX1 140 yJ6_bitCount_0f7a4 wsJ6_bitCount_0f7a4) := goodIn_app (goodIn_of _ (by decide +kernel)) ggX1_variant_J6_bitCount_0f7a4
set_option maxRecDepth 20000 in
theorem ggX1_variant_X5_memberOf : GoodIn wsX1_variant wsX5_memberOf := goodIn_r _ [17, 18, 19, 16, 20] (by decide +kernel) (by decide +kernel)
set_option maxRecDepth 20000 in
theorem gX1_variant_X5_memberOf_n145 : GoodIn wsX1_variant (wsX5_memberOf) := ggX1_variant_X5_memberOf
theorem dX1_variant_0 : decode cX1_variant 0 = .ok (.iload_n 1, 1) := by decide +kernel
theorem dX1_variant_1 : decode cX1_variant 1 = .ok (.ifCond .ge 5, 3) := by decide +kernel
theorem dX1_variant_4 : decode cX1_variant 4 = .ok (.iconst 0, 1) := by decide +kernel
theorem dX1_variant_5 : decode cX1_variant 5 = .ok (.ireturn, 1) := by decide +kernel
theorem dX1_variant_6 : decode cX1_variant 6 = .ok (.aload_n 0, 1) := by decide +kernel
theorem dX1_variant_7 : decode cX1_variant 7 = .ok (.iconst (-1), 1) := by decide +kernel
theorem dX1_variant_8 : decode cX1_variant 8 = .ok (.invokevirtual 137, 3) := by decide +kernel
theorem dX1_variant_11 : decode cX1_variant 11 = .ok (.istore_n 2, 1) := by decide +kernel
theorem dX1_variant_12 : decode cX1_variant 12 = .ok (.iload_n 1, 1) := by decide +kernel
theorem dX1_variant_13 : decode cX1_variant 13 = .ok (.istore_n 3, 1) := by decide +kernel
theorem dX1_variant_14 : decode cX1_variant 14 = .ok (.iconst 3, 1) := by decide +kernel
theorem dX1_variant_15 : decode cX1_variant 15 = .ok (.istore 4, 2) := by decide +kernel
theorem dX1_variant_17 : decode cX1_variant 17 = .ok (.iload 4, 2) := by decide +kernel
theorem dX1_variant_19 : decode cX1_variant 19 = .ok (.ifCond .lt 48, 3) := by decide +kernel
theorem dX1_variant_22 : decode cX1_variant 22 = .ok (.aload_n 0, 1) := by decide +kernel
theorem dX1_variant_23 : decode cX1_variant 23 = .ok (.iload 4, 2) := by decide +kernel
theorem dX1_variant_25 : decode cX1_variant 25 = .ok (.invokevirtual 137, 3) := by decide +kernel
theorem dX1_variant_28 : decode cX1_variant 28 = .ok (.istore 5, 2) := by decide +kernel
theorem dX1_variant_30 : decode cX1_variant 30 = .ok (.iload 5, 2) := by decide +kernel
theorem dX1_variant_32 : decode cX1_variant 32 = .ok (.invokestatic 140, 3) := by decide +kernel
theorem dX1_variant_35 : decode cX1_variant 35 = .ok (.istore 6, 2) := by decide +kernel
theorem dX1_variant_37 : decode cX1_variant 37 = .ok (.iload 6, 2) := by decide +kernel
theorem dX1_variant_39 : decode cX1_variant 39 = .ok (.ifCond .le 22, 3) := by decide +kernel
theorem dX1_variant_42 : decode cX1_variant 42 = .ok (.iload_n 2, 1) := by decide +kernel
theorem dX1_variant_43 : decode cX1_variant 43 = .ok (.iconst 1, 1) := by decide +kernel
theorem dX1_variant_44 : decode cX1_variant 44 = .ok (.iload 5, 2) := by decide +kernel
theorem dX1_variant_46 : decode cX1_variant 46 = .ok (.iload_n 3, 1) := by decide +kernel
theorem dX1_variant_47 : decode cX1_variant 47 = .ok (.iload 6, 2) := by decide +kernel
theorem dX1_variant_49 : decode cX1_variant 49 = .ok (.irem, 1) := by decide +kernel
theorem dX1_variant_50 : decode cX1_variant 50 = .ok (.invokestatic 145, 3) := by decide +kernel
theorem dX1_variant_53 : decode cX1_variant 53 = .ok (.ishl, 1) := by decide +kernel
theorem dX1_variant_54 : decode cX1_variant 54 = .ok (.ior, 1) := by decide +kernel
theorem dX1_variant_55 : decode cX1_variant 55 = .ok (.istore_n 2, 1) := by decide +kernel
theorem dX1_variant_56 : decode cX1_variant 56 = .ok (.iload_n 3, 1) := by decide +kernel
theorem dX1_variant_57 : decode cX1_variant 57 = .ok (.iload 6, 2) := by decide +kernel
theorem dX1_variant_59 : decode cX1_variant 59 = .ok (.idiv, 1) := by decide +kernel
theorem dX1_variant_60 : decode cX1_variant 60 = .ok (.istore_n 3, 1) := by decide +kernel
theorem dX1_variant_61 : decode cX1_variant 61 = .ok (.iinc 4 (-1), 3) := by decide +kernel
theorem dX1_variant_64 : decode cX1_variant 64 = .ok (.goto (-47), 3) := by decide +kernel
theorem dX1_variant_67 : decode cX1_variant 67 = .ok (.iload_n 3, 1) := by decide +kernel
theorem dX1_variant_68 : decode cX1_variant 68 = .ok (.ifCond .ne 7, 3) := by decide +kernel
theorem dX1_variant_71 : decode cX1_variant 71 = .ok (.iload_n 2, 1) := by decide +kernel
theorem dX1_variant_72 : decode cX1_variant 72 = .ok (.goto 4, 3) := by decide +kernel
theorem dX1_variant_75 : decode cX1_variant 75 = .ok (.iconst 0, 1) := by decide +kernel
theorem dX1_variant_76 : decode cX1_variant 76 = .ok (.ireturn, 1) := by decide +kernel
set_option maxRecDepth 20000 in
theorem ggX1_piece_X1_hasPart : GoodIn wsX1_piece wsX1_hasPart := goodIn_r _ [8, 9, 13, 14, 15, 16, 17, 18, 19, 20, 21, 22, 23, 24] (by decide +kernel) (by decide +kernel)
set_option maxRecDepth 20000 in
theorem gX1_piece_X1_hasPart : GoodIn wsX1_piece (wsV RX1 80 RX1 yX1_hasPart wsX1_hasPart) := goodIn_app (goodIn_of _ (by decide +kernel)) ggX1_piece_X1_hasPart
set_option maxRecDepth 20000 in
theorem ggX1_piece_X5_contains : GoodIn wsX1_piece wsX5_contains := goodIn_r _ [12] (by decide +kernel) (by decide +kernel)
set_option maxRecDepth 20000 in
theorem gX1_piece_X5_contains_n71 : GoodIn wsX1_piece (wsX5_contains) := ggX1_piece_X5_contains
theorem dX1_piece_0 : decode cX1_piece 0 = .ok (.aload_n 0, 1) := by decide +kernel
theorem dX1_piece_1 : decode cX1_piece 1 = .ok (.iload_n 1, 1) := by decide +kernel
theorem dX1_piece_2 : decode cX1_piece 2 = .ok (.invokevirtual 80, 3) := by decide +kernel
theorem dX1_piece_5 : decode cX1_piece 5 = .ok (.ifCond .eq 11, 3) := by decide +kernel
theorem dX1_piece_8 : decode cX1_piece 8 = .ok (.iload_n 2, 1) := by decide +kernel
theorem dX1_piece_9 : decode cX1_piece 9 = .ok (.iload_n 1, 1) := by decide +kernel
theorem dX1_piece_10 : decode cX1_piece 10 = .ok (.invokestatic 71, 3) := by decide +kernel
theorem dX1_piece_13 : decode cX1_piece 13 = .ok (.ifCond .eq 5, 3) := by decide +kernel
theorem dX1_piece_16 : decode cX1_piece 16 = .ok (.iconst 0, 1) := by decide +kernel
theorem dX1_piece_17 : decode cX1_piece 17 = .ok (.ireturn, 1) := by decide +kernel
theorem dX1_piece_18 : decode cX1_piece 18 = .ok (.iconst 1, 1) := by decide +kernel
theorem dX1_piece_19 : decode cX1_piece 19 = .ok (.iload_n 1, 1) := by decide +kernel
theorem dX1_piece_20 : decode cX1_piece 20 = .ok (.ishl, 1) := by decide +kernel
theorem dX1_piece_21 : decode cX1_piece 21 = .ok (.istore_n 3, 1) := by decide +kernel
theorem dX1_piece_22 : decode cX1_piece 22 = .ok (.iconst 0, 1) := by decide +kernel
theorem dX1_piece_23 : decode cX1_piece 23 = .ok (.istore 4, 2) := by decide +kernel
theorem dX1_piece_25 : decode cX1_piece 25 = .ok (.iload 4, 2) := by decide +kernel
theorem dX1_piece_27 : decode cX1_piece 27 = .ok (.bipush 10, 2) := by decide +kernel
theorem dX1_piece_29 : decode cX1_piece 29 = .ok (.if_icmp .ge 79, 3) := by decide +kernel
theorem dX1_piece_32 : decode cX1_piece 32 = .ok (.iload_n 3, 1) := by decide +kernel
theorem dX1_piece_33 : decode cX1_piece 33 = .ok (.istore 5, 2) := by decide +kernel
theorem dX1_piece_35 : decode cX1_piece 35 = .ok (.iconst 0, 1) := by decide +kernel
theorem dX1_piece_36 : decode cX1_piece 36 = .ok (.istore 6, 2) := by decide +kernel
theorem dX1_piece_38 : decode cX1_piece 38 = .ok (.iload 6, 2) := by decide +kernel
theorem dX1_piece_40 : decode cX1_piece 40 = .ok (.aload_n 0, 1) := by decide +kernel
theorem dX1_piece_41 : decode cX1_piece 41 = .ok (.getfield 47, 3) := by decide +kernel
theorem dX1_piece_44 : decode cX1_piece 44 = .ok (.if_icmp .ge 49, 3) := by decide +kernel
theorem dX1_piece_47 : decode cX1_piece 47 = .ok (.iconst 1, 1) := by decide +kernel
theorem dX1_piece_48 : decode cX1_piece 48 = .ok (.aload_n 0, 1) := by decide +kernel
theorem dX1_piece_49 : decode cX1_piece 49 = .ok (.getfield 34, 3) := by decide +kernel
theorem dX1_piece_52 : decode cX1_piece 52 = .ok (.iload 6, 2) := by decide +kernel
theorem dX1_piece_54 : decode cX1_piece 54 = .ok (.iaload, 1) := by decide +kernel
theorem dX1_piece_55 : decode cX1_piece 55 = .ok (.ishl, 1) := by decide +kernel
theorem dX1_piece_56 : decode cX1_piece 56 = .ok (.iconst 1, 1) := by decide +kernel
theorem dX1_piece_57 : decode cX1_piece 57 = .ok (.aload_n 0, 1) := by decide +kernel
theorem dX1_piece_58 : decode cX1_piece 58 = .ok (.getfield 37, 3) := by decide +kernel
theorem dX1_piece_61 : decode cX1_piece 61 = .ok (.iload 6, 2) := by decide +kernel
theorem dX1_piece_63 : decode cX1_piece 63 = .ok (.iaload, 1) := by decide +kernel
theorem dX1_piece_64 : decode cX1_piece 64 = .ok (.ishl, 1) := by decide +kernel
theorem dX1_piece_65 : decode cX1_piece 65 = .ok (.ior, 1) := by decide +kernel
theorem dX1_piece_66 : decode cX1_piece 66 = .ok (.istore 7, 2) := by decide +kernel
theorem dX1_piece_68 : decode cX1_piece 68 = .ok (.iload 7, 2) := by decide +kernel
theorem dX1_piece_70 : decode cX1_piece 70 = .ok (.iload_n 2, 1) := by decide +kernel
theorem dX1_piece_71 : decode cX1_piece 71 = .ok (.iand, 1) := by decide +kernel
theorem dX1_piece_72 : decode cX1_piece 72 = .ok (.ifCond .ne 15, 3) := by decide +kernel
theorem dX1_piece_75 : decode cX1_piece 75 = .ok (.iload 7, 2) := by decide +kernel
theorem dX1_piece_77 : decode cX1_piece 77 = .ok (.iload_n 3, 1) := by decide +kernel
theorem dX1_piece_78 : decode cX1_piece 78 = .ok (.iand, 1) := by decide +kernel
theorem dX1_piece_79 : decode cX1_piece 79 = .ok (.ifCond .eq 8, 3) := by decide +kernel
theorem dX1_piece_82 : decode cX1_piece 82 = .ok (.iload_n 3, 1) := by decide +kernel
theorem dX1_piece_83 : decode cX1_piece 83 = .ok (.iload 7, 2) := by decide +kernel
theorem dX1_piece_85 : decode cX1_piece 85 = .ok (.ior, 1) := by decide +kernel
theorem dX1_piece_86 : decode cX1_piece 86 = .ok (.istore_n 3, 1) := by decide +kernel
theorem dX1_piece_87 : decode cX1_piece 87 = .ok (.iinc 6 1, 3) := by decide +kernel
theorem dX1_piece_90 : decode cX1_piece 90 = .ok (.goto (-52), 3) := by decide +kernel
theorem dX1_piece_93 : decode cX1_piece 93 = .ok (.iload_n 3, 1) := by decide +kernel
theorem dX1_piece_94 : decode cX1_piece 94 = .ok (.iload 5, 2) := by decide +kernel
theorem dX1_piece_96 : decode cX1_piece 96 = .ok (.if_icmp .ne 6, 3) := by decide +kernel
theorem dX1_piece_99 : decode cX1_piece 99 = .ok (.goto 9, 3) := by decide +kernel
theorem dX1_piece_102 : decode cX1_piece 102 = .ok (.iinc 4 1, 3) := by decide +kernel
theorem dX1_piece_105 : decode cX1_piece 105 = .ok (.goto (-80), 3) := by decide +kernel
theorem dX1_piece_108 : decode cX1_piece 108 = .ok (.iload_n 3, 1) := by decide +kernel
theorem dX1_piece_109 : decode cX1_piece 109 = .ok (.ireturn, 1) := by decide +kernel
set_option maxRecDepth 20000 in
theorem ggX1_pieces_X5_contains : GoodIn wsX1_pieces wsX5_contains := goodIn_r _ [4] (by decide +kernel) (by decide +kernel)
set_option maxRecDepth 20000 in
theorem gX1_pieces_X5_contains_n71 : GoodIn wsX1_pieces (wsX5_contains) := ggX1_pieces_X5_contains
set_option maxRecDepth 20000 in
theorem ggX1_pieces_X1_piece : GoodIn wsX1_pieces wsX1_piece := goodIn_r _ [9, 10, 11, 12, 13, 14, 15, 8, 16, 1, 2, 3, 4, 17, 18, 19, 20, 21, 22, 23, 24, 25, 26, 27, 28] (by decide +kernel) (by decide +kernel)
set_option maxRecDepth 20000 in
theorem gX1_pieces_X1_piece : GoodIn wsX1_pieces (wsV RX1 148 RX1 yX1_piece wsX1_piece) := goodIn_app (goodIn_of _ (by decide +kernel)) ggX1_pieces_X1_piece
theorem dX1_pieces_0 : decode cX1_pieces 0 = .ok (.iconst 0, 1) := by decide +kernel
theorem dX1_pieces_1 : decode cX1_pieces 1 = .ok (.istore_n 1, 1) := by decide +kernel
theorem dX1_pieces_2 : decode cX1_pieces 2 = .ok (.iconst 0, 1) := by decide +kernel
theorem dX1_pieces_3 : decode cX1_pieces 3 = .ok (.istore_n 2, 1) := by decide +kernel
theorem dX1_pieces_4 : decode cX1_pieces 4 = .ok (.iconst 0, 1) := by decide +kernel
theorem dX1_pieces_5 : decode cX1_pieces 5 = .ok (.istore_n 3, 1) := by decide +kernel
theorem dX1_pieces_6 : decode cX1_pieces 6 = .ok (.iload_n 3, 1) := by decide +kernel
theorem dX1_pieces_7 : decode cX1_pieces 7 = .ok (.aload_n 0, 1) := by decide +kernel
theorem dX1_pieces_8 : decode cX1_pieces 8 = .ok (.getfield 43, 3) := by decide +kernel
theorem dX1_pieces_11 : decode cX1_pieces 11 = .ok (.if_icmp .ge 29, 3) := by decide +kernel
theorem dX1_pieces_14 : decode cX1_pieces 14 = .ok (.iload_n 2, 1) := by decide +kernel
theorem dX1_pieces_15 : decode cX1_pieces 15 = .ok (.iload_n 3, 1) := by decide +kernel
theorem dX1_pieces_16 : decode cX1_pieces 16 = .ok (.invokestatic 71, 3) := by decide +kernel
theorem dX1_pieces_19 : decode cX1_pieces 19 = .ok (.ifCond .ne 15, 3) := by decide +kernel
theorem dX1_pieces_22 : decode cX1_pieces 22 = .ok (.iload_n 2, 1) := by decide +kernel
theorem dX1_pieces_23 : decode cX1_pieces 23 = .ok (.aload_n 0, 1) := by decide +kernel
theorem dX1_pieces_24 : decode cX1_pieces 24 = .ok (.iload_n 3, 1) := by decide +kernel
theorem dX1_pieces_25 : decode cX1_pieces 25 = .ok (.iconst 0, 1) := by decide +kernel
theorem dX1_pieces_26 : decode cX1_pieces 26 = .ok (.invokevirtual 148, 3) := by decide +kernel
theorem dX1_pieces_29 : decode cX1_pieces 29 = .ok (.ior, 1) := by decide +kernel
theorem dX1_pieces_30 : decode cX1_pieces 30 = .ok (.istore_n 2, 1) := by decide +kernel
theorem dX1_pieces_31 : decode cX1_pieces 31 = .ok (.iinc 1 1, 3) := by decide +kernel
theorem dX1_pieces_34 : decode cX1_pieces 34 = .ok (.iinc 3 1, 3) := by decide +kernel
theorem dX1_pieces_37 : decode cX1_pieces 37 = .ok (.goto (-31), 3) := by decide +kernel
theorem dX1_pieces_40 : decode cX1_pieces 40 = .ok (.iload_n 1, 1) := by decide +kernel
theorem dX1_pieces_41 : decode cX1_pieces 41 = .ok (.ireturn, 1) := by decide +kernel
set_option maxRecDepth 20000 in
theorem ggX1_gramsOf_X5_contains : GoodIn wsX1_gramsOf wsX5_contains := goodIn_r _ [5] (by decide +kernel) (by decide +kernel)
set_option maxRecDepth 20000 in
theorem gX1_gramsOf_X5_contains_n71 : GoodIn wsX1_gramsOf (wsX5_contains) := ggX1_gramsOf_X5_contains
theorem dX1_gramsOf_0 : decode cX1_gramsOf 0 = .ok (.lconst 0, 1) := by decide +kernel
theorem dX1_gramsOf_1 : decode cX1_gramsOf 1 = .ok (.lstore_n 2, 1) := by decide +kernel
theorem dX1_gramsOf_2 : decode cX1_gramsOf 2 = .ok (.iconst 0, 1) := by decide +kernel
theorem dX1_gramsOf_3 : decode cX1_gramsOf 3 = .ok (.istore 4, 2) := by decide +kernel
theorem dX1_gramsOf_5 : decode cX1_gramsOf 5 = .ok (.iload 4, 2) := by decide +kernel
theorem dX1_gramsOf_7 : decode cX1_gramsOf 7 = .ok (.aload_n 0, 1) := by decide +kernel
theorem dX1_gramsOf_8 : decode cX1_gramsOf 8 = .ok (.getfield 43, 3) := by decide +kernel
theorem dX1_gramsOf_11 : decode cX1_gramsOf 11 = .ok (.if_icmp .ge 28, 3) := by decide +kernel
theorem dX1_gramsOf_14 : decode cX1_gramsOf 14 = .ok (.iload_n 1, 1) := by decide +kernel
theorem dX1_gramsOf_15 : decode cX1_gramsOf 15 = .ok (.iload 4, 2) := by decide +kernel
theorem dX1_gramsOf_17 : decode cX1_gramsOf 17 = .ok (.invokestatic 71, 3) := by decide +kernel
theorem dX1_gramsOf_20 : decode cX1_gramsOf 20 = .ok (.ifCond .eq 13, 3) := by decide +kernel
theorem dX1_gramsOf_23 : decode cX1_gramsOf 23 = .ok (.lload_n 2, 1) := by decide +kernel
theorem dX1_gramsOf_24 : decode cX1_gramsOf 24 = .ok (.aload_n 0, 1) := by decide +kernel
theorem dX1_gramsOf_25 : decode cX1_gramsOf 25 = .ok (.getfield 15, 3) := by decide +kernel
theorem dX1_gramsOf_28 : decode cX1_gramsOf 28 = .ok (.iload 4, 2) := by decide +kernel
theorem dX1_gramsOf_30 : decode cX1_gramsOf 30 = .ok (.laload, 1) := by decide +kernel
theorem dX1_gramsOf_31 : decode cX1_gramsOf 31 = .ok (.ladd, 1) := by decide +kernel
theorem dX1_gramsOf_32 : decode cX1_gramsOf 32 = .ok (.lstore_n 2, 1) := by decide +kernel
theorem dX1_gramsOf_33 : decode cX1_gramsOf 33 = .ok (.iinc 4 1, 3) := by decide +kernel
theorem dX1_gramsOf_36 : decode cX1_gramsOf 36 = .ok (.goto (-31), 3) := by decide +kernel
theorem dX1_gramsOf_39 : decode cX1_gramsOf 39 = .ok (.lload_n 2, 1) := by decide +kernel
theorem dX1_gramsOf_40 : decode cX1_gramsOf 40 = .ok (.lreturn, 1) := by decide +kernel
set_option maxRecDepth 20000 in
theorem ggX1_partsLike_X1_hasPart : GoodIn wsX1_partsLike wsX1_hasPart := goodIn_r _ [9, 1, 10, 11, 12, 13, 14, 15, 16, 17, 18, 19, 20, 21] (by decide +kernel) (by decide +kernel)
set_option maxRecDepth 20000 in
theorem gX1_partsLike_X1_hasPart : GoodIn wsX1_partsLike (wsV RX1 80 RX1 yX1_hasPart wsX1_hasPart) := goodIn_app (goodIn_of _ (by decide +kernel)) ggX1_partsLike_X1_hasPart
theorem dX1_partsLike_0 : decode cX1_partsLike 0 = .ok (.iconst 0, 1) := by decide +kernel
theorem dX1_partsLike_1 : decode cX1_partsLike 1 = .ok (.istore_n 2, 1) := by decide +kernel
theorem dX1_partsLike_2 : decode cX1_partsLike 2 = .ok (.aload_n 0, 1) := by decide +kernel
theorem dX1_partsLike_3 : decode cX1_partsLike 3 = .ok (.iload_n 1, 1) := by decide +kernel
theorem dX1_partsLike_4 : decode cX1_partsLike 4 = .ok (.invokevirtual 80, 3) := by decide +kernel
theorem dX1_partsLike_7 : decode cX1_partsLike 7 = .ok (.ifCond .ne 5, 3) := by decide +kernel
theorem dX1_partsLike_10 : decode cX1_partsLike 10 = .ok (.iload_n 2, 1) := by decide +kernel
theorem dX1_partsLike_11 : decode cX1_partsLike 11 = .ok (.ireturn, 1) := by decide +kernel
theorem dX1_partsLike_12 : decode cX1_partsLike 12 = .ok (.iconst 0, 1) := by decide +kernel
theorem dX1_partsLike_13 : decode cX1_partsLike 13 = .ok (.istore_n 3, 1) := by decide +kernel
theorem dX1_partsLike_14 : decode cX1_partsLike 14 = .ok (.iload_n 3, 1) := by decide +kernel
theorem dX1_partsLike_15 : decode cX1_partsLike 15 = .ok (.aload_n 0, 1) := by decide +kernel
theorem dX1_partsLike_16 : decode cX1_partsLike 16 = .ok (.getfield 43, 3) := by decide +kernel
theorem dX1_partsLike_19 : decode cX1_partsLike 19 = .ok (.if_icmp .ge 66, 3) := by decide +kernel
theorem dX1_partsLike_22 : decode cX1_partsLike 22 = .ok (.iload_n 3, 1) := by decide +kernel
theorem dX1_partsLike_23 : decode cX1_partsLike 23 = .ok (.iload_n 1, 1) := by decide +kernel
theorem dX1_partsLike_24 : decode cX1_partsLike 24 = .ok (.if_icmp .eq 55, 3) := by decide +kernel
theorem dX1_partsLike_27 : decode cX1_partsLike 27 = .ok (.aload_n 0, 1) := by decide +kernel
theorem dX1_partsLike_28 : decode cX1_partsLike 28 = .ok (.getfield 9, 3) := by decide +kernel
theorem dX1_partsLike_31 : decode cX1_partsLike 31 = .ok (.iload_n 3, 1) := by decide +kernel
theorem dX1_partsLike_32 : decode cX1_partsLike 32 = .ok (.iaload, 1) := by decide +kernel
theorem dX1_partsLike_33 : decode cX1_partsLike 33 = .ok (.aload_n 0, 1) := by decide +kernel
theorem dX1_partsLike_34 : decode cX1_partsLike 34 = .ok (.getfield 9, 3) := by decide +kernel
theorem dX1_partsLike_37 : decode cX1_partsLike 37 = .ok (.iload_n 1, 1) := by decide +kernel
theorem dX1_partsLike_38 : decode cX1_partsLike 38 = .ok (.iaload, 1) := by decide +kernel
theorem dX1_partsLike_39 : decode cX1_partsLike 39 = .ok (.if_icmp .ne 40, 3) := by decide +kernel
theorem dX1_partsLike_42 : decode cX1_partsLike 42 = .ok (.aload_n 0, 1) := by decide +kernel
theorem dX1_partsLike_43 : decode cX1_partsLike 43 = .ok (.getfield 15, 3) := by decide +kernel
theorem dX1_partsLike_46 : decode cX1_partsLike 46 = .ok (.iload_n 3, 1) := by decide +kernel
theorem dX1_partsLike_47 : decode cX1_partsLike 47 = .ok (.laload, 1) := by decide +kernel
theorem dX1_partsLike_48 : decode cX1_partsLike 48 = .ok (.aload_n 0, 1) := by decide +kernel
theorem dX1_partsLike_49 : decode cX1_partsLike 49 = .ok (.getfield 15, 3) := by decide +kernel
theorem dX1_partsLike_52 : decode cX1_partsLike 52 = .ok (.iload_n 1, 1) := by decide +kernel
theorem dX1_partsLike_53 : decode cX1_partsLike 53 = .ok (.laload, 1) := by decide +kernel
theorem dX1_partsLike_54 : decode cX1_partsLike 54 = .ok (.lcmp, 1) := by decide +kernel
theorem dX1_partsLike_55 : decode cX1_partsLike 55 = .ok (.ifCond .ne 24, 3) := by decide +kernel
theorem dX1_partsLike_58 : decode cX1_partsLike 58 = .ok (.aload_n 0, 1) := by decide +kernel
theorem dX1_partsLike_59 : decode cX1_partsLike 59 = .ok (.getfield 25, 3) := by decide +kernel
theorem dX1_partsLike_62 : decode cX1_partsLike 62 = .ok (.iload_n 3, 1) := by decide +kernel
theorem dX1_partsLike_63 : decode cX1_partsLike 63 = .ok (.iaload, 1) := by decide +kernel
theorem dX1_partsLike_64 : decode cX1_partsLike 64 = .ok (.aload_n 0, 1) := by decide +kernel
theorem dX1_partsLike_65 : decode cX1_partsLike 65 = .ok (.getfield 25, 3) := by decide +kernel
theorem dX1_partsLike_68 : decode cX1_partsLike 68 = .ok (.iload_n 1, 1) := by decide +kernel
theorem dX1_partsLike_69 : decode cX1_partsLike 69 = .ok (.iaload, 1) := by decide +kernel
theorem dX1_partsLike_70 : decode cX1_partsLike 70 = .ok (.if_icmp .ne 9, 3) := by decide +kernel
theorem dX1_partsLike_73 : decode cX1_partsLike 73 = .ok (.iload_n 2, 1) := by decide +kernel
theorem dX1_partsLike_74 : decode cX1_partsLike 74 = .ok (.iconst 1, 1) := by decide +kernel
theorem dX1_partsLike_75 : decode cX1_partsLike 75 = .ok (.iload_n 3, 1) := by decide +kernel
theorem dX1_partsLike_76 : decode cX1_partsLike 76 = .ok (.ishl, 1) := by decide +kernel
theorem dX1_partsLike_77 : decode cX1_partsLike 77 = .ok (.ior, 1) := by decide +kernel
theorem dX1_partsLike_78 : decode cX1_partsLike 78 = .ok (.istore_n 2, 1) := by decide +kernel
theorem dX1_partsLike_79 : decode cX1_partsLike 79 = .ok (.iinc 3 1, 3) := by decide +kernel
theorem dX1_partsLike_82 : decode cX1_partsLike 82 = .ok (.goto (-68), 3) := by decide +kernel
theorem dX1_partsLike_85 : decode cX1_partsLike 85 = .ok (.iload_n 2, 1) := by decide +kernel
theorem dX1_partsLike_86 : decode cX1_partsLike 86 = .ok (.ireturn, 1) := by decide +kernel
set_option maxRecDepth 20000 in
theorem ggX1_coveredBy_X5_contains : GoodIn wsX1_coveredBy wsX5_contains := goodIn_r _ [5] (by decide +kernel) (by decide +kernel)
set_option maxRecDepth 20000 in
theorem gX1_coveredBy_X5_contains_n71 : GoodIn wsX1_coveredBy (wsX5_contains) := ggX1_coveredBy_X5_contains
theorem dX1_coveredBy_0 : decode cX1_coveredBy 0 = .ok (.iconst 0, 1) := by decide +kernel
theorem dX1_coveredBy_1 : decode cX1_coveredBy 1 = .ok (.istore_n 2, 1) := by decide +kernel
theorem dX1_coveredBy_2 : decode cX1_coveredBy 2 = .ok (.iconst 0, 1) := by decide +kernel
theorem dX1_coveredBy_3 : decode cX1_coveredBy 3 = .ok (.istore_n 3, 1) := by decide +kernel
theorem dX1_coveredBy_4 : decode cX1_coveredBy 4 = .ok (.iload_n 3, 1) := by decide +kernel
theorem dX1_coveredBy_5 : decode cX1_coveredBy 5 = .ok (.aload_n 0, 1) := by decide +kernel
theorem dX1_coveredBy_6 : decode cX1_coveredBy 6 = .ok (.getfield 43, 3) := by decide +kernel
theorem dX1_coveredBy_9 : decode cX1_coveredBy 9 = .ok (.if_icmp .ge 28, 3) := by decide +kernel
theorem dX1_coveredBy_12 : decode cX1_coveredBy 12 = .ok (.aload_n 0, 1) := by decide +kernel
theorem dX1_coveredBy_13 : decode cX1_coveredBy 13 = .ok (.getfield 19, 3) := by decide +kernel
theorem dX1_coveredBy_16 : decode cX1_coveredBy 16 = .ok (.iload_n 3, 1) := by decide +kernel
theorem dX1_coveredBy_17 : decode cX1_coveredBy 17 = .ok (.iaload, 1) := by decide +kernel
theorem dX1_coveredBy_18 : decode cX1_coveredBy 18 = .ok (.iload_n 1, 1) := by decide +kernel
theorem dX1_coveredBy_19 : decode cX1_coveredBy 19 = .ok (.invokestatic 71, 3) := by decide +kernel
theorem dX1_coveredBy_22 : decode cX1_coveredBy 22 = .ok (.ifCond .eq 9, 3) := by decide +kernel
theorem dX1_coveredBy_25 : decode cX1_coveredBy 25 = .ok (.iload_n 2, 1) := by decide +kernel
theorem dX1_coveredBy_26 : decode cX1_coveredBy 26 = .ok (.iconst 1, 1) := by decide +kernel
theorem dX1_coveredBy_27 : decode cX1_coveredBy 27 = .ok (.iload_n 3, 1) := by decide +kernel
theorem dX1_coveredBy_28 : decode cX1_coveredBy 28 = .ok (.ishl, 1) := by decide +kernel
theorem dX1_coveredBy_29 : decode cX1_coveredBy 29 = .ok (.ior, 1) := by decide +kernel
theorem dX1_coveredBy_30 : decode cX1_coveredBy 30 = .ok (.istore_n 2, 1) := by decide +kernel
theorem dX1_coveredBy_31 : decode cX1_coveredBy 31 = .ok (.iinc 3 1, 3) := by decide +kernel
theorem dX1_coveredBy_34 : decode cX1_coveredBy 34 = .ok (.goto (-30), 3) := by decide +kernel
theorem dX1_coveredBy_37 : decode cX1_coveredBy 37 = .ok (.iload_n 2, 1) := by decide +kernel
theorem dX1_coveredBy_38 : decode cX1_coveredBy 38 = .ok (.ireturn, 1) := by decide +kernel
end
section
theorem dX2_init_0 : decode cX2_init 0 = .ok (.aload_n 0, 1) := by decide +kernel
theorem dX2_init_1 : decode cX2_init 1 = .ok (.invokespecial 3, 3) := by decide +kernel
theorem dX2_init_4 : decode cX2_init 4 = .ok (.aload_n 0, 1) := by decide +kernel
theorem dX2_init_5 : decode cX2_init 5 = .ok (.sipush 2000, 3) := by decide +kernel
theorem dX2_init_8 : decode cX2_init 8 = .ok (.newarray .char, 2) := by decide +kernel
theorem dX2_init_10 : decode cX2_init 10 = .ok (.putfield 9, 3) := by decide +kernel
theorem dX2_init_13 : decode cX2_init 13 = .ok (.aload_n 0, 1) := by decide +kernel
theorem dX2_init_14 : decode cX2_init 14 = .ok (.iconst 3, 1) := by decide +kernel
theorem dX2_init_15 : decode cX2_init 15 = .ok (.newarray .int, 2) := by decide +kernel
theorem dX2_init_17 : decode cX2_init 17 = .ok (.putfield 15, 3) := by decide +kernel
theorem dX2_init_20 : decode cX2_init 20 = .ok (.return_, 1) := by decide +kernel
theorem dX2_take_0 : decode cX2_take 0 = .ok (.iload_n 1, 1) := by decide +kernel
theorem dX2_take_1 : decode cX2_take 1 = .ok (.ifCond .lt 20, 3) := by decide +kernel
theorem dX2_take_4 : decode cX2_take 4 = .ok (.iload_n 1, 1) := by decide +kernel
theorem dX2_take_5 : decode cX2_take 5 = .ok (.sipush 255, 3) := by decide +kernel
theorem dX2_take_8 : decode cX2_take 8 = .ok (.if_icmp .gt 13, 3) := by decide +kernel
theorem dX2_take_11 : decode cX2_take 11 = .ok (.aload_n 0, 1) := by decide +kernel
theorem dX2_take_12 : decode cX2_take 12 = .ok (.getfield 19, 3) := by decide +kernel
theorem dX2_take_15 : decode cX2_take 15 = .ok (.sipush 2000, 3) := by decide +kernel
theorem dX2_take_18 : decode cX2_take 18 = .ok (.if_icmp .lt 5, 3) := by decide +kernel
theorem dX2_take_21 : decode cX2_take 21 = .ok (.iconst 0, 1) := by decide +kernel
theorem dX2_take_22 : decode cX2_take 22 = .ok (.ireturn, 1) := by decide +kernel
theorem dX2_take_23 : decode cX2_take 23 = .ok (.aload_n 0, 1) := by decide +kernel
theorem dX2_take_24 : decode cX2_take 24 = .ok (.getfield 9, 3) := by decide +kernel
theorem dX2_take_27 : decode cX2_take 27 = .ok (.aload_n 0, 1) := by decide +kernel
theorem dX2_take_28 : decode cX2_take 28 = .ok (.getfield 19, 3) := by decide +kernel
theorem dX2_take_31 : decode cX2_take 31 = .ok (.iload_n 1, 1) := by decide +kernel
theorem dX2_take_32 : decode cX2_take 32 = .ok (.i2c, 1) := by decide +kernel
theorem dX2_take_33 : decode cX2_take 33 = .ok (.castore, 1) := by decide +kernel
theorem dX2_take_34 : decode cX2_take 34 = .ok (.aload_n 0, 1) := by decide +kernel
theorem dX2_take_35 : decode cX2_take 35 = .ok (.dup, 1) := by decide +kernel
theorem dX2_take_36 : decode cX2_take 36 = .ok (.getfield 19, 3) := by decide +kernel
theorem dX2_take_39 : decode cX2_take 39 = .ok (.iconst 1, 1) := by decide +kernel
theorem dX2_take_40 : decode cX2_take 40 = .ok (.iadd, 1) := by decide +kernel
theorem dX2_take_41 : decode cX2_take 41 = .ok (.putfield 19, 3) := by decide +kernel
theorem dX2_take_44 : decode cX2_take 44 = .ok (.iconst 1, 1) := by decide +kernel
theorem dX2_take_45 : decode cX2_take 45 = .ok (.ireturn, 1) := by decide +kernel
theorem dX2_clear_0 : decode cX2_clear 0 = .ok (.aload_n 0, 1) := by decide +kernel
theorem dX2_clear_1 : decode cX2_clear 1 = .ok (.iconst 0, 1) := by decide +kernel
theorem dX2_clear_2 : decode cX2_clear 2 = .ok (.putfield 19, 3) := by decide +kernel
theorem dX2_clear_5 : decode cX2_clear 5 = .ok (.return_, 1) := by decide +kernel
theorem dX2_wordBegin_0 : decode cX2_wordBegin 0 = .ok (.aload_n 0, 1) := by decide +kernel
theorem dX2_wordBegin_1 : decode cX2_wordBegin 1 = .ok (.getfield 23, 3) := by decide +kernel
theorem dX2_wordBegin_4 : decode cX2_wordBegin 4 = .ok (.ireturn, 1) := by decide +kernel
set_option maxRecDepth 20000 in
theorem ggX2_readAll_X2_findWord : GoodIn wsX2_readAll wsX2_findWord := goodIn_r _ [7, 2, 1, 8, 9, 10, 11, 6, 12, 13, 188, 189, 190, 191, 192] (by decide +kernel) (by decide +kernel)
set_option maxRecDepth 20000 in
theorem gX2_readAll_X2_findWord : GoodIn wsX2_readAll (wsV RX2 29 RX2 yX2_findWord wsX2_findWord) := goodIn_app (goodIn_of _ (by decide +kernel)) ggX2_readAll_X2_findWord
set_option maxRecDepth 20000 in
theorem ggX2_readAll_X2_readSentence : GoodIn wsX2_readAll wsX2_readSentence := goodIn_r _ [17, 18, 19, 20, 21, 22, 6, 23, 24, 25, 26, 27, 28, 2, 1, 13, 29, 30, 31, 32, 33, 34, 35, 36, 37, 38, 39, 40, 41, 42, 43, 44, 45, 46, 47, 48, 49, 50, 51, 52, 53, 54, 55, 56, 57, 58, 59, 60, 61, 62, 63, 64, 65, 66, 67, 68, 69, 70, 71, 72, 73, 74, 75, 76, 77, 78, 79, 80, 81, 82, 83, 84, 85, 86, 87, 88, 89, 90, 91, 92, 93, 94, 95, 96, 97, 98, 99, 100, 101, 102, 103, 104, 105, 106, 107, 108, 109, 110, 111, 112, 113, 114, 115, 116, 117, 118, 119, 120, 121, 122, 123, 124, 125, 126, 127, 128, 129, 130, 131, 132, 133, 134, 135, 136, 137, 138, 139, 140, 141, 142, 143, 144, 145, 3, 4, 5, 7, 8, 9, 10, 11, 12, 146, 147, 148, 149, 150, 151, 152, 153, 154, 155, 156, 157, 158, 159, 160, 161, 162, 163, 164, 165, 166, 167, 168, 169, 170, 171, 172, 173, 174, 175, 176, 177, 178, 179, 180, 181, 182, 183, 184, 185, 186, 187, 188, 189, 190, 191, 192, 193, 194, 195, 196, 197, 198, 199, 200, 201, 202, 203, 204] (by decide +kernel) (by decide +kernel)
set_option maxRecDepth 20000 in
theorem gX2_readAll_X2_readSentence : GoodIn wsX2_readAll (wsV RX2 33 RX2 yX2_readSentence wsX2_readSentence) := goodIn_app (goodIn_of _ (by decide +kernel)) ggX2_readAll_X2_readSentence
theorem dX2_readAll_0 : decode cX2_readAll 0 = .ok (.aload_n 0, 1) := by decide +kernel
theorem dX2_readAll_1 : decode cX2_readAll 1 = .ok (.iconst 0, 1) := by decide +kernel
theorem dX2_readAll_2 : decode cX2_readAll 2 = .ok (.putfield 23, 3) := by decide +kernel
theorem dX2_readAll_5 : decode cX2_readAll 5 = .ok (.aload_n 0, 1) := by decide +kernel
theorem dX2_readAll_6 : decode cX2_readAll 6 = .ok (.iconst 0, 1) := by decide +kernel
theorem dX2_readAll_7 : decode cX2_readAll 7 = .ok (.putfield 26, 3) := by decide +kernel
theorem dX2_readAll_10 : decode cX2_readAll 10 = .ok (.iconst 0, 1) := by decide +kernel
theorem dX2_readAll_11 : decode cX2_readAll 11 = .ok (.istore_n 2, 1) := by decide +kernel
theorem dX2_readAll_12 : decode cX2_readAll 12 = .ok (.iload_n 2, 1) := by decide +kernel
theorem dX2_readAll_13 : decode cX2_readAll 13 = .ok (.sipush 2000, 3) := by decide +kernel
theorem dX2_readAll_16 : decode cX2_readAll 16 = .ok (.if_icmp .ge 28, 3) := by decide +kernel
theorem dX2_readAll_19 : decode cX2_readAll 19 = .ok (.aload_n 0, 1) := by decide +kernel
theorem dX2_readAll_20 : decode cX2_readAll 20 = .ok (.invokevirtual 29, 3) := by decide +kernel
theorem dX2_readAll_23 : decode cX2_readAll 23 = .ok (.ifCond .ne 5, 3) := by decide +kernel
theorem dX2_readAll_26 : decode cX2_readAll 26 = .ok (.iconst 1, 1) := by decide +kernel
theorem dX2_readAll_27 : decode cX2_readAll 27 = .ok (.ireturn, 1) := by decide +kernel
theorem dX2_readAll_28 : decode cX2_readAll 28 = .ok (.aload_n 0, 1) := by decide +kernel
theorem dX2_readAll_29 : decode cX2_readAll 29 = .ok (.aload_n 1, 1) := by decide +kernel
theorem dX2_readAll_30 : decode cX2_readAll 30 = .ok (.invokevirtual 33, 3) := by decide +kernel
theorem dX2_readAll_33 : decode cX2_readAll 33 = .ok (.ifCond .ne 5, 3) := by decide +kernel
theorem dX2_readAll_36 : decode cX2_readAll 36 = .ok (.iconst 0, 1) := by decide +kernel
theorem dX2_readAll_37 : decode cX2_readAll 37 = .ok (.ireturn, 1) := by decide +kernel
theorem dX2_readAll_38 : decode cX2_readAll 38 = .ok (.iinc 2 1, 3) := by decide +kernel
theorem dX2_readAll_41 : decode cX2_readAll 41 = .ok (.goto (-29), 3) := by decide +kernel
theorem dX2_readAll_44 : decode cX2_readAll 44 = .ok (.iconst 1, 1) := by decide +kernel
theorem dX2_readAll_45 : decode cX2_readAll 45 = .ok (.ireturn, 1) := by decide +kernel
set_option maxRecDepth 20000 in
theorem ggX2_readSentence_X2_verbHere : GoodIn wsX2_readSentence wsX2_verbHere := goodIn_r _ [7, 8, 9, 10, 11, 6, 12, 13, 14, 15, 16, 17, 18, 19, 20, 21, 22, 23, 24, 25, 26, 27, 28, 29, 30, 31, 32, 33, 34, 35, 36, 37, 38, 39, 40, 41, 42, 43, 44, 45, 46, 47, 48, 49, 50, 51, 52, 53, 54, 55, 56, 57, 58, 59, 60, 61, 62, 63, 64, 184, 185, 186, 187, 188] (by decide +kernel) (by decide +kernel)
set_option maxRecDepth 20000 in
theorem gX2_readSentence_X2_verbHere : GoodIn wsX2_readSentence (wsV RX2 37 RX2 yX2_verbHere wsX2_verbHere) := goodIn_app (goodIn_of _ (by decide +kernel)) ggX2_readSentence_X2_verbHere
set_option maxRecDepth 20000 in
theorem ggX2_readSentence_X2_canGoOn : GoodIn wsX2_readSentence wsX2_canGoOn := goodIn_r _ [68, 1, 2, 69, 70, 71, 72, 73, 74, 75, 76, 77, 78, 79, 80, 81, 82, 83, 84, 85, 86, 87, 88, 89, 90, 91, 92, 93, 94, 95, 96, 97, 98, 99, 100, 101, 102, 103, 104, 105, 106, 107, 108, 109, 110, 111, 112, 113, 114, 115, 116, 117, 118, 119, 120, 121, 122, 123, 124, 125, 126, 127, 128, 129, 130, 131, 132, 65, 66, 67, 6, 184, 185, 186, 187, 188, 189, 190, 191, 192, 193, 194, 195, 196, 197, 198, 199, 200] (by decide +kernel) (by decide +kernel)
set_option maxRecDepth 20000 in
theorem gX2_readSentence_X2_canGoOn : GoodIn wsX2_readSentence (wsV RX2 41 RX2 yX2_canGoOn wsX2_canGoOn) := goodIn_app (goodIn_of _ (by decide +kernel)) ggX2_readSentence_X2_canGoOn
set_option maxRecDepth 20000 in
theorem ggX2_readSentence_X2_findWord : GoodIn wsX2_readSentence wsX2_findWord := goodIn_r _ [136, 13, 14, 137, 138, 139, 140, 6, 141, 15, 184, 185, 186, 187, 188] (by decide +kernel) (by decide +kernel)
set_option maxRecDepth 20000 in
theorem gX2_readSentence_X2_findWord : GoodIn wsX2_readSentence (wsV RX2 29 RX2 yX2_findWord wsX2_findWord) := goodIn_app (goodIn_of _ (by decide +kernel)) ggX2_readSentence_X2_findWord
set_option maxRecDepth 20000 in
theorem ggX2_readSentence_X2_numberHere : GoodIn wsX2_readSentence wsX2_numberHere := goodIn_r _ [145, 13, 14, 15, 184, 185, 186, 187, 188] (by decide +kernel) (by decide +kernel)
set_option maxRecDepth 20000 in
theorem gX2_readSentence_X2_numberHere : GoodIn wsX2_readSentence (wsV RX2 49 RX2 yX2_numberHere wsX2_numberHere) := goodIn_app (goodIn_of _ (by decide +kernel)) ggX2_readSentence_X2_numberHere
set_option maxRecDepth 20000 in
theorem ggX2_readSentence_X1_carryOut : GoodIn wsX2_readSentence wsX1_carryOut := goodIn_r _ [149, 74, 75, 76, 77, 78, 79, 80, 81, 150, 151, 152, 72, 153, 86, 154, 155, 95, 106, 119, 128, 156, 82, 83, 84, 85, 87, 88, 89, 90, 107, 108, 109, 157, 158, 159, 160, 91, 92, 93, 94, 96, 97, 98, 99, 100, 101, 161, 162, 163, 164, 102, 103, 104, 105, 165, 166, 167, 168, 114, 169, 170, 171, 110, 111, 112, 113, 172, 173, 174, 175, 115, 116, 117, 118, 120, 121, 122, 123, 176, 177, 178, 179, 124, 125, 126, 127, 180, 181, 182, 183, 129, 130, 131, 132, 189, 190, 191, 192, 193, 194, 195, 196, 197, 198, 199, 200] (by decide +kernel) (by decide +kernel)
set_option maxRecDepth 20000 in
theorem gX2_readSentence_X1_carryOut : GoodIn wsX2_readSentence (wsV RX2 53 RX1 yX1_carryOut wsX1_carryOut) := goodIn_app (goodIn_of _ (by decide +kernel)) ggX2_readSentence_X1_carryOut
theorem dX2_readSentence_0 : decode cX2_readSentence 0 = .ok (.aload_n 0, 1) := by decide +kernel
theorem dX2_readSentence_1 : decode cX2_readSentence 1 = .ok (.invokevirtual 37, 3) := by decide +kernel
theorem dX2_readSentence_4 : decode cX2_readSentence 4 = .ok (.astore_n 2, 1) := by decide +kernel
theorem dX2_readSentence_5 : decode cX2_readSentence 5 = .ok (.aload_n 2, 1) := by decide +kernel
theorem dX2_readSentence_6 : decode cX2_readSentence 6 = .ok (.ifnull 13, 3) := by decide +kernel
theorem dX2_readSentence_9 : decode cX2_readSentence 9 = .ok (.aload_n 0, 1) := by decide +kernel
theorem dX2_readSentence_10 : decode cX2_readSentence 10 = .ok (.aload_n 1, 1) := by decide +kernel
theorem dX2_readSentence_11 : decode cX2_readSentence 11 = .ok (.aload_n 2, 1) := by decide +kernel
theorem dX2_readSentence_12 : decode cX2_readSentence 12 = .ok (.iconst 0, 1) := by decide +kernel
theorem dX2_readSentence_13 : decode cX2_readSentence 13 = .ok (.invokevirtual 41, 3) := by decide +kernel
theorem dX2_readSentence_16 : decode cX2_readSentence 16 = .ok (.ifCond .ne 5, 3) := by decide +kernel
theorem dX2_readSentence_19 : decode cX2_readSentence 19 = .ok (.iconst 0, 1) := by decide +kernel
theorem dX2_readSentence_20 : decode cX2_readSentence 20 = .ok (.ireturn, 1) := by decide +kernel
theorem dX2_readSentence_21 : decode cX2_readSentence 21 = .ok (.iconst 0, 1) := by decide +kernel
theorem dX2_readSentence_22 : decode cX2_readSentence 22 = .ok (.istore_n 3, 1) := by decide +kernel
theorem dX2_readSentence_23 : decode cX2_readSentence 23 = .ok (.iload_n 3, 1) := by decide +kernel
theorem dX2_readSentence_24 : decode cX2_readSentence 24 = .ok (.aload_n 2, 1) := by decide +kernel
theorem dX2_readSentence_25 : decode cX2_readSentence 25 = .ok (.getfield 45, 3) := by decide +kernel
theorem dX2_readSentence_28 : decode cX2_readSentence 28 = .ok (.if_icmp .ge 59, 3) := by decide +kernel
theorem dX2_readSentence_31 : decode cX2_readSentence 31 = .ok (.iload_n 3, 1) := by decide +kernel
theorem dX2_readSentence_32 : decode cX2_readSentence 32 = .ok (.iconst 3, 1) := by decide +kernel
theorem dX2_readSentence_33 : decode cX2_readSentence 33 = .ok (.if_icmp .ge 54, 3) := by decide +kernel
theorem dX2_readSentence_36 : decode cX2_readSentence 36 = .ok (.aload_n 0, 1) := by decide +kernel
theorem dX2_readSentence_37 : decode cX2_readSentence 37 = .ok (.invokevirtual 29, 3) := by decide +kernel
theorem dX2_readSentence_40 : decode cX2_readSentence 40 = .ok (.ifCond .ne 5, 3) := by decide +kernel
theorem dX2_readSentence_43 : decode cX2_readSentence 43 = .ok (.iconst 0, 1) := by decide +kernel
theorem dX2_readSentence_44 : decode cX2_readSentence 44 = .ok (.ireturn, 1) := by decide +kernel
theorem dX2_readSentence_45 : decode cX2_readSentence 45 = .ok (.aload_n 0, 1) := by decide +kernel
theorem dX2_readSentence_46 : decode cX2_readSentence 46 = .ok (.invokevirtual 49, 3) := by decide +kernel
theorem dX2_readSentence_49 : decode cX2_readSentence 49 = .ok (.istore 4, 2) := by decide +kernel
theorem dX2_readSentence_51 : decode cX2_readSentence 51 = .ok (.iload 4, 2) := by decide +kernel
theorem dX2_readSentence_53 : decode cX2_readSentence 53 = .ok (.iconst (-1), 1) := by decide +kernel
theorem dX2_readSentence_54 : decode cX2_readSentence 54 = .ok (.if_icmp .ne 5, 3) := by decide +kernel
theorem dX2_readSentence_57 : decode cX2_readSentence 57 = .ok (.iconst 0, 1) := by decide +kernel
theorem dX2_readSentence_58 : decode cX2_readSentence 58 = .ok (.ireturn, 1) := by decide +kernel
theorem dX2_readSentence_59 : decode cX2_readSentence 59 = .ok (.aload_n 0, 1) := by decide +kernel
theorem dX2_readSentence_60 : decode cX2_readSentence 60 = .ok (.getfield 15, 3) := by decide +kernel
theorem dX2_readSentence_63 : decode cX2_readSentence 63 = .ok (.iload_n 3, 1) := by decide +kernel
theorem dX2_readSentence_64 : decode cX2_readSentence 64 = .ok (.iload 4, 2) := by decide +kernel
theorem dX2_readSentence_66 : decode cX2_readSentence 66 = .ok (.iastore, 1) := by decide +kernel
theorem dX2_readSentence_67 : decode cX2_readSentence 67 = .ok (.aload_n 0, 1) := by decide +kernel
theorem dX2_readSentence_68 : decode cX2_readSentence 68 = .ok (.aload_n 1, 1) := by decide +kernel
theorem dX2_readSentence_69 : decode cX2_readSentence 69 = .ok (.aload_n 2, 1) := by decide +kernel
theorem dX2_readSentence_70 : decode cX2_readSentence 70 = .ok (.iload_n 3, 1) := by decide +kernel
theorem dX2_readSentence_71 : decode cX2_readSentence 71 = .ok (.iconst 1, 1) := by decide +kernel
theorem dX2_readSentence_72 : decode cX2_readSentence 72 = .ok (.iadd, 1) := by decide +kernel
theorem dX2_readSentence_73 : decode cX2_readSentence 73 = .ok (.invokevirtual 41, 3) := by decide +kernel
theorem dX2_readSentence_76 : decode cX2_readSentence 76 = .ok (.ifCond .ne 5, 3) := by decide +kernel
theorem dX2_readSentence_79 : decode cX2_readSentence 79 = .ok (.iconst 0, 1) := by decide +kernel
theorem dX2_readSentence_80 : decode cX2_readSentence 80 = .ok (.ireturn, 1) := by decide +kernel
theorem dX2_readSentence_81 : decode cX2_readSentence 81 = .ok (.iinc 3 1, 3) := by decide +kernel
theorem dX2_readSentence_84 : decode cX2_readSentence 84 = .ok (.goto (-61), 3) := by decide +kernel
theorem dX2_readSentence_87 : decode cX2_readSentence 87 = .ok (.aload_n 1, 1) := by decide +kernel
theorem dX2_readSentence_88 : decode cX2_readSentence 88 = .ok (.aload_n 2, 1) := by decide +kernel
theorem dX2_readSentence_89 : decode cX2_readSentence 89 = .ok (.aload_n 0, 1) := by decide +kernel
theorem dX2_readSentence_90 : decode cX2_readSentence 90 = .ok (.getfield 15, 3) := by decide +kernel
theorem dX2_readSentence_93 : decode cX2_readSentence 93 = .ok (.iconst 0, 1) := by decide +kernel
theorem dX2_readSentence_94 : decode cX2_readSentence 94 = .ok (.iaload, 1) := by decide +kernel
theorem dX2_readSentence_95 : decode cX2_readSentence 95 = .ok (.aload_n 0, 1) := by decide +kernel
theorem dX2_readSentence_96 : decode cX2_readSentence 96 = .ok (.getfield 15, 3) := by decide +kernel
theorem dX2_readSentence_99 : decode cX2_readSentence 99 = .ok (.iconst 1, 1) := by decide +kernel
theorem dX2_readSentence_100 : decode cX2_readSentence 100 = .ok (.iaload, 1) := by decide +kernel
theorem dX2_readSentence_101 : decode cX2_readSentence 101 = .ok (.aload_n 0, 1) := by decide +kernel
theorem dX2_readSentence_102 : decode cX2_readSentence 102 = .ok (.getfield 15, 3) := by decide +kernel
theorem dX2_readSentence_105 : decode cX2_readSentence 105 = .ok (.iconst 2, 1) := by decide +kernel
theorem dX2_readSentence_106 : decode cX2_readSentence 106 = .ok (.iaload, 1) := by decide +kernel
theorem dX2_readSentence_107 : decode cX2_readSentence 107 = .ok (.invokevirtual 53, 3) := by decide +kernel
theorem dX2_readSentence_110 : decode cX2_readSentence 110 = .ok (.iconst 1, 1) := by decide +kernel
theorem dX2_readSentence_111 : decode cX2_readSentence 111 = .ok (.ireturn, 1) := by decide +kernel
set_option maxRecDepth 20000 in
theorem ggX2_canGoOn_X1_allows : GoodIn wsX2_canGoOn wsX1_allows := goodIn_r _ [7, 8, 9, 10, 11, 12, 13, 14, 15, 16, 17, 18, 6, 19, 20, 21, 22, 23, 24, 25, 26, 27, 28, 29, 30, 31, 32, 33, 34, 35, 36, 37, 38, 39, 40, 41, 42, 43, 44, 45, 46, 47, 48, 49, 50, 51, 52, 53, 54, 55, 56, 57, 58, 59, 60, 61, 62, 63, 64, 65, 66, 76, 77, 78, 79, 80, 81, 82, 83, 84, 85, 86, 87] (by decide +kernel) (by decide +kernel)
set_option maxRecDepth 20000 in
theorem gX2_canGoOn_X1_allows : GoodIn wsX2_canGoOn (wsV RX2 59 RX1 yX1_allows wsX1_allows) := goodIn_app (goodIn_of _ (by decide +kernel)) ggX2_canGoOn_X1_allows
set_option maxRecDepth 20000 in
theorem ggX2_canGoOn_X2_canGoOn : GoodIn wsX2_canGoOn wsX2_canGoOn := goodIn_r _ [0, 1, 2, 3, 4, 5, 6, 7, 8, 9, 10, 11, 12, 13, 14, 15, 16, 17, 18, 19, 20, 21, 22, 23, 24, 25, 26, 27, 28, 29, 30, 31, 32, 33, 34, 35, 36, 37, 38, 39, 40, 41, 42, 43, 44, 45, 46, 47, 48, 49, 50, 51, 52, 53, 54, 55, 56, 57, 58, 59, 60, 61, 62, 63, 64, 65, 66, 67, 68, 69, 70, 71, 72, 73, 74, 75, 76, 77, 78, 79, 80, 81, 82, 83, 84, 85, 86, 87] (by decide +kernel) (by decide +kernel)
set_option maxRecDepth 20000 in
theorem gX2_canGoOn_X2_canGoOn : GoodIn wsX2_canGoOn (wsV RX2 41 RX2 yX2_canGoOn wsX2_canGoOn) := goodIn_app (goodIn_of _ (by decide +kernel)) ggX2_canGoOn_X2_canGoOn
theorem dX2_canGoOn_0 : decode cX2_canGoOn 0 = .ok (.iload_n 3, 1) := by decide +kernel
theorem dX2_canGoOn_1 : decode cX2_canGoOn 1 = .ok (.aload_n 2, 1) := by decide +kernel
theorem dX2_canGoOn_2 : decode cX2_canGoOn 2 = .ok (.getfield 45, 3) := by decide +kernel
theorem dX2_canGoOn_5 : decode cX2_canGoOn 5 = .ok (.if_icmp .ge 8, 3) := by decide +kernel
theorem dX2_canGoOn_8 : decode cX2_canGoOn 8 = .ok (.iload_n 3, 1) := by decide +kernel
theorem dX2_canGoOn_9 : decode cX2_canGoOn 9 = .ok (.iconst 3, 1) := by decide +kernel
theorem dX2_canGoOn_10 : decode cX2_canGoOn 10 = .ok (.if_icmp .lt 27, 3) := by decide +kernel
theorem dX2_canGoOn_13 : decode cX2_canGoOn 13 = .ok (.aload_n 1, 1) := by decide +kernel
theorem dX2_canGoOn_14 : decode cX2_canGoOn 14 = .ok (.aload_n 2, 1) := by decide +kernel
theorem dX2_canGoOn_15 : decode cX2_canGoOn 15 = .ok (.aload_n 0, 1) := by decide +kernel
theorem dX2_canGoOn_16 : decode cX2_canGoOn 16 = .ok (.getfield 15, 3) := by decide +kernel
theorem dX2_canGoOn_19 : decode cX2_canGoOn 19 = .ok (.iconst 0, 1) := by decide +kernel
theorem dX2_canGoOn_20 : decode cX2_canGoOn 20 = .ok (.iaload, 1) := by decide +kernel
theorem dX2_canGoOn_21 : decode cX2_canGoOn 21 = .ok (.aload_n 0, 1) := by decide +kernel
theorem dX2_canGoOn_22 : decode cX2_canGoOn 22 = .ok (.getfield 15, 3) := by decide +kernel
theorem dX2_canGoOn_25 : decode cX2_canGoOn 25 = .ok (.iconst 1, 1) := by decide +kernel
theorem dX2_canGoOn_26 : decode cX2_canGoOn 26 = .ok (.iaload, 1) := by decide +kernel
theorem dX2_canGoOn_27 : decode cX2_canGoOn 27 = .ok (.aload_n 0, 1) := by decide +kernel
theorem dX2_canGoOn_28 : decode cX2_canGoOn 28 = .ok (.getfield 15, 3) := by decide +kernel
theorem dX2_canGoOn_31 : decode cX2_canGoOn 31 = .ok (.iconst 2, 1) := by decide +kernel
theorem dX2_canGoOn_32 : decode cX2_canGoOn 32 = .ok (.iaload, 1) := by decide +kernel
theorem dX2_canGoOn_33 : decode cX2_canGoOn 33 = .ok (.invokevirtual 59, 3) := by decide +kernel
theorem dX2_canGoOn_36 : decode cX2_canGoOn 36 = .ok (.ireturn, 1) := by decide +kernel
theorem dX2_canGoOn_37 : decode cX2_canGoOn 37 = .ok (.iconst 0, 1) := by decide +kernel
theorem dX2_canGoOn_38 : decode cX2_canGoOn 38 = .ok (.istore 4, 2) := by decide +kernel
theorem dX2_canGoOn_40 : decode cX2_canGoOn 40 = .ok (.iload 4, 2) := by decide +kernel
theorem dX2_canGoOn_42 : decode cX2_canGoOn 42 = .ok (.bipush 10, 2) := by decide +kernel
theorem dX2_canGoOn_44 : decode cX2_canGoOn 44 = .ok (.if_icmp .ge 31, 3) := by decide +kernel
theorem dX2_canGoOn_47 : decode cX2_canGoOn 47 = .ok (.aload_n 0, 1) := by decide +kernel
theorem dX2_canGoOn_48 : decode cX2_canGoOn 48 = .ok (.getfield 15, 3) := by decide +kernel
theorem dX2_canGoOn_51 : decode cX2_canGoOn 51 = .ok (.iload_n 3, 1) := by decide +kernel
theorem dX2_canGoOn_52 : decode cX2_canGoOn 52 = .ok (.iload 4, 2) := by decide +kernel
theorem dX2_canGoOn_54 : decode cX2_canGoOn 54 = .ok (.iastore, 1) := by decide +kernel
theorem dX2_canGoOn_55 : decode cX2_canGoOn 55 = .ok (.aload_n 0, 1) := by decide +kernel
theorem dX2_canGoOn_56 : decode cX2_canGoOn 56 = .ok (.aload_n 1, 1) := by decide +kernel
theorem dX2_canGoOn_57 : decode cX2_canGoOn 57 = .ok (.aload_n 2, 1) := by decide +kernel
theorem dX2_canGoOn_58 : decode cX2_canGoOn 58 = .ok (.iload_n 3, 1) := by decide +kernel
theorem dX2_canGoOn_59 : decode cX2_canGoOn 59 = .ok (.iconst 1, 1) := by decide +kernel
theorem dX2_canGoOn_60 : decode cX2_canGoOn 60 = .ok (.iadd, 1) := by decide +kernel
theorem dX2_canGoOn_61 : decode cX2_canGoOn 61 = .ok (.invokevirtual 41, 3) := by decide +kernel
theorem dX2_canGoOn_64 : decode cX2_canGoOn 64 = .ok (.ifCond .eq 5, 3) := by decide +kernel
theorem dX2_canGoOn_67 : decode cX2_canGoOn 67 = .ok (.iconst 1, 1) := by decide +kernel
theorem dX2_canGoOn_68 : decode cX2_canGoOn 68 = .ok (.ireturn, 1) := by decide +kernel
theorem dX2_canGoOn_69 : decode cX2_canGoOn 69 = .ok (.iinc 4 1, 3) := by decide +kernel
theorem dX2_canGoOn_72 : decode cX2_canGoOn 72 = .ok (.goto (-32), 3) := by decide +kernel
theorem dX2_canGoOn_75 : decode cX2_canGoOn 75 = .ok (.iconst 0, 1) := by decide +kernel
theorem dX2_canGoOn_76 : decode cX2_canGoOn 76 = .ok (.ireturn, 1) := by decide +kernel
set_option maxRecDepth 20000 in
theorem ggX2_findWord_X2_isBlankAt : GoodIn wsX2_findWord wsX2_isBlankAt := goodIn_r _ [8, 9, 10, 11, 12, 13, 14] (by decide +kernel) (by decide +kernel)
set_option maxRecDepth 20000 in
theorem gX2_findWord_X2_isBlankAt : GoodIn wsX2_findWord (wsV RX2 63 RX2 yX2_isBlankAt wsX2_isBlankAt) := goodIn_app (goodIn_of _ (by decide +kernel)) ggX2_findWord_X2_isBlankAt
theorem dX2_findWord_0 : decode cX2_findWord 0 = .ok (.aload_n 0, 1) := by decide +kernel
theorem dX2_findWord_1 : decode cX2_findWord 1 = .ok (.aload_n 0, 1) := by decide +kernel
theorem dX2_findWord_2 : decode cX2_findWord 2 = .ok (.getfield 26, 3) := by decide +kernel
theorem dX2_findWord_5 : decode cX2_findWord 5 = .ok (.putfield 23, 3) := by decide +kernel
theorem dX2_findWord_8 : decode cX2_findWord 8 = .ok (.aload_n 0, 1) := by decide +kernel
theorem dX2_findWord_9 : decode cX2_findWord 9 = .ok (.getfield 23, 3) := by decide +kernel
theorem dX2_findWord_12 : decode cX2_findWord 12 = .ok (.aload_n 0, 1) := by decide +kernel
theorem dX2_findWord_13 : decode cX2_findWord 13 = .ok (.getfield 19, 3) := by decide +kernel
theorem dX2_findWord_16 : decode cX2_findWord 16 = .ok (.if_icmp .ge 27, 3) := by decide +kernel
theorem dX2_findWord_19 : decode cX2_findWord 19 = .ok (.aload_n 0, 1) := by decide +kernel
theorem dX2_findWord_20 : decode cX2_findWord 20 = .ok (.aload_n 0, 1) := by decide +kernel
theorem dX2_findWord_21 : decode cX2_findWord 21 = .ok (.getfield 23, 3) := by decide +kernel
theorem dX2_findWord_24 : decode cX2_findWord 24 = .ok (.invokevirtual 63, 3) := by decide +kernel
theorem dX2_findWord_27 : decode cX2_findWord 27 = .ok (.ifCond .eq 16, 3) := by decide +kernel
theorem dX2_findWord_30 : decode cX2_findWord 30 = .ok (.aload_n 0, 1) := by decide +kernel
theorem dX2_findWord_31 : decode cX2_findWord 31 = .ok (.dup, 1) := by decide +kernel
theorem dX2_findWord_32 : decode cX2_findWord 32 = .ok (.getfield 23, 3) := by decide +kernel
theorem dX2_findWord_35 : decode cX2_findWord 35 = .ok (.iconst 1, 1) := by decide +kernel
theorem dX2_findWord_36 : decode cX2_findWord 36 = .ok (.iadd, 1) := by decide +kernel
theorem dX2_findWord_37 : decode cX2_findWord 37 = .ok (.putfield 23, 3) := by decide +kernel
theorem dX2_findWord_40 : decode cX2_findWord 40 = .ok (.goto (-32), 3) := by decide +kernel
theorem dX2_findWord_43 : decode cX2_findWord 43 = .ok (.aload_n 0, 1) := by decide +kernel
theorem dX2_findWord_44 : decode cX2_findWord 44 = .ok (.aload_n 0, 1) := by decide +kernel
theorem dX2_findWord_45 : decode cX2_findWord 45 = .ok (.getfield 23, 3) := by decide +kernel
theorem dX2_findWord_48 : decode cX2_findWord 48 = .ok (.putfield 26, 3) := by decide +kernel
theorem dX2_findWord_51 : decode cX2_findWord 51 = .ok (.aload_n 0, 1) := by decide +kernel
theorem dX2_findWord_52 : decode cX2_findWord 52 = .ok (.getfield 26, 3) := by decide +kernel
theorem dX2_findWord_55 : decode cX2_findWord 55 = .ok (.aload_n 0, 1) := by decide +kernel
theorem dX2_findWord_56 : decode cX2_findWord 56 = .ok (.getfield 19, 3) := by decide +kernel
theorem dX2_findWord_59 : decode cX2_findWord 59 = .ok (.if_icmp .ge 27, 3) := by decide +kernel
theorem dX2_findWord_62 : decode cX2_findWord 62 = .ok (.aload_n 0, 1) := by decide +kernel
theorem dX2_findWord_63 : decode cX2_findWord 63 = .ok (.aload_n 0, 1) := by decide +kernel
theorem dX2_findWord_64 : decode cX2_findWord 64 = .ok (.getfield 26, 3) := by decide +kernel
theorem dX2_findWord_67 : decode cX2_findWord 67 = .ok (.invokevirtual 63, 3) := by decide +kernel
theorem dX2_findWord_70 : decode cX2_findWord 70 = .ok (.ifCond .ne 16, 3) := by decide +kernel
theorem dX2_findWord_73 : decode cX2_findWord 73 = .ok (.aload_n 0, 1) := by decide +kernel
theorem dX2_findWord_74 : decode cX2_findWord 74 = .ok (.dup, 1) := by decide +kernel
theorem dX2_findWord_75 : decode cX2_findWord 75 = .ok (.getfield 26, 3) := by decide +kernel
theorem dX2_findWord_78 : decode cX2_findWord 78 = .ok (.iconst 1, 1) := by decide +kernel
theorem dX2_findWord_79 : decode cX2_findWord 79 = .ok (.iadd, 1) := by decide +kernel
theorem dX2_findWord_80 : decode cX2_findWord 80 = .ok (.putfield 26, 3) := by decide +kernel
theorem dX2_findWord_83 : decode cX2_findWord 83 = .ok (.goto (-32), 3) := by decide +kernel
theorem dX2_findWord_86 : decode cX2_findWord 86 = .ok (.aload_n 0, 1) := by decide +kernel
theorem dX2_findWord_87 : decode cX2_findWord 87 = .ok (.getfield 23, 3) := by decide +kernel
theorem dX2_findWord_90 : decode cX2_findWord 90 = .ok (.aload_n 0, 1) := by decide +kernel
theorem dX2_findWord_91 : decode cX2_findWord 91 = .ok (.getfield 26, 3) := by decide +kernel
theorem dX2_findWord_94 : decode cX2_findWord 94 = .ok (.if_icmp .ge 7, 3) := by decide +kernel
theorem dX2_findWord_97 : decode cX2_findWord 97 = .ok (.iconst 1, 1) := by decide +kernel
theorem dX2_findWord_98 : decode cX2_findWord 98 = .ok (.goto 4, 3) := by decide +kernel
theorem dX2_findWord_101 : decode cX2_findWord 101 = .ok (.iconst 0, 1) := by decide +kernel
theorem dX2_findWord_102 : decode cX2_findWord 102 = .ok (.ireturn, 1) := by decide +kernel
theorem dX2_isBlankAt_0 : decode cX2_isBlankAt 0 = .ok (.aload_n 0, 1) := by decide +kernel
theorem dX2_isBlankAt_1 : decode cX2_isBlankAt 1 = .ok (.getfield 9, 3) := by decide +kernel
theorem dX2_isBlankAt_4 : decode cX2_isBlankAt 4 = .ok (.iload_n 1, 1) := by decide +kernel
theorem dX2_isBlankAt_5 : decode cX2_isBlankAt 5 = .ok (.caload, 1) := by decide +kernel
theorem dX2_isBlankAt_6 : decode cX2_isBlankAt 6 = .ok (.bipush 32, 2) := by decide +kernel
theorem dX2_isBlankAt_8 : decode cX2_isBlankAt 8 = .ok (.if_icmp .eq 14, 3) := by decide +kernel
theorem dX2_isBlankAt_11 : decode cX2_isBlankAt 11 = .ok (.aload_n 0, 1) := by decide +kernel
theorem dX2_isBlankAt_12 : decode cX2_isBlankAt 12 = .ok (.getfield 9, 3) := by decide +kernel
theorem dX2_isBlankAt_15 : decode cX2_isBlankAt 15 = .ok (.iload_n 1, 1) := by decide +kernel
theorem dX2_isBlankAt_16 : decode cX2_isBlankAt 16 = .ok (.caload, 1) := by decide +kernel
theorem dX2_isBlankAt_17 : decode cX2_isBlankAt 17 = .ok (.bipush 10, 2) := by decide +kernel
theorem dX2_isBlankAt_19 : decode cX2_isBlankAt 19 = .ok (.if_icmp .ne 7, 3) := by decide +kernel
theorem dX2_isBlankAt_22 : decode cX2_isBlankAt 22 = .ok (.iconst 1, 1) := by decide +kernel
theorem dX2_isBlankAt_23 : decode cX2_isBlankAt 23 = .ok (.goto 4, 3) := by decide +kernel
theorem dX2_isBlankAt_26 : decode cX2_isBlankAt 26 = .ok (.iconst 0, 1) := by decide +kernel
theorem dX2_isBlankAt_27 : decode cX2_isBlankAt 27 = .ok (.ireturn, 1) := by decide +kernel
set_option maxRecDepth 20000 in
theorem ggX2_verbHere_X2_isWordHere : GoodIn wsX2_verbHere wsX2_isWordHere := goodIn_r _ [6, 7, 8, 9, 10, 11, 12, 13, 14, 15, 16, 17, 18, 19, 20, 21, 22, 23, 24, 25, 26, 27, 28, 29, 30, 31, 32, 33, 34, 35, 36, 37, 38, 39, 40, 41, 42, 43, 44, 45, 46, 47, 48, 49, 50, 51, 52, 53, 54, 55, 56, 57, 58, 59, 60, 61, 62, 63] (by decide +kernel) (by decide +kernel)
set_option maxRecDepth 20000 in
theorem gX2_verbHere_X2_isWordHere : GoodIn wsX2_verbHere (wsV RX2 75 RX2 yX2_isWordHere wsX2_isWordHere) := goodIn_app (goodIn_of _ (by decide +kernel)) ggX2_verbHere_X2_isWordHere
theorem dX2_verbHere_0 : decode cX2_verbHere 0 = .ok (.iconst 0, 1) := by decide +kernel
theorem dX2_verbHere_1 : decode cX2_verbHere 1 = .ok (.istore_n 1, 1) := by decide +kernel
theorem dX2_verbHere_2 : decode cX2_verbHere 2 = .ok (.iload_n 1, 1) := by decide +kernel
theorem dX2_verbHere_3 : decode cX2_verbHere 3 = .ok (.getstatic 67, 3) := by decide +kernel
theorem dX2_verbHere_6 : decode cX2_verbHere 6 = .ok (.arraylength, 1) := by decide +kernel
theorem dX2_verbHere_7 : decode cX2_verbHere 7 = .ok (.if_icmp .ge 30, 3) := by decide +kernel
theorem dX2_verbHere_10 : decode cX2_verbHere 10 = .ok (.aload_n 0, 1) := by decide +kernel
theorem dX2_verbHere_11 : decode cX2_verbHere 11 = .ok (.getstatic 67, 3) := by decide +kernel
theorem dX2_verbHere_14 : decode cX2_verbHere 14 = .ok (.iload_n 1, 1) := by decide +kernel
theorem dX2_verbHere_15 : decode cX2_verbHere 15 = .ok (.aaload, 1) := by decide +kernel
theorem dX2_verbHere_16 : decode cX2_verbHere 16 = .ok (.getfield 71, 3) := by decide +kernel
theorem dX2_verbHere_19 : decode cX2_verbHere 19 = .ok (.invokevirtual 75, 3) := by decide +kernel
theorem dX2_verbHere_22 : decode cX2_verbHere 22 = .ok (.ifCond .eq 9, 3) := by decide +kernel
theorem dX2_verbHere_25 : decode cX2_verbHere 25 = .ok (.getstatic 67, 3) := by decide +kernel
theorem dX2_verbHere_28 : decode cX2_verbHere 28 = .ok (.iload_n 1, 1) := by decide +kernel
theorem dX2_verbHere_29 : decode cX2_verbHere 29 = .ok (.aaload, 1) := by decide +kernel
theorem dX2_verbHere_30 : decode cX2_verbHere 30 = .ok (.areturn, 1) := by decide +kernel
theorem dX2_verbHere_31 : decode cX2_verbHere 31 = .ok (.iinc 1 1, 3) := by decide +kernel
theorem dX2_verbHere_34 : decode cX2_verbHere 34 = .ok (.goto (-32), 3) := by decide +kernel
theorem dX2_verbHere_37 : decode cX2_verbHere 37 = .ok (.aconst_null, 1) := by decide +kernel
theorem dX2_verbHere_38 : decode cX2_verbHere 38 = .ok (.areturn, 1) := by decide +kernel
set_option maxRecDepth 20000 in
theorem ggX2_isWordHere_J0_length_8abf5 : GoodIn wsX2_isWordHere wsJ0_length_8abf5 := goodIn_r _ [8, 9, 10, 11, 12, 7, 13, 14, 15] (by decide +kernel) (by decide +kernel)
set_option maxRecDepth 20000 in
theorem gX2_isWordHere_J0_length_8abf5 : GoodIn wsX2_isWordHere (wsV RX2 79 RJ0 yJ0_length_8abf5 wsJ0_length_8abf5) := goodIn_app (goodIn_of _ (by decide +kernel)) ggX2_isWordHere_J0_length_8abf5
set_option maxRecDepth 20000 in
theorem ggX2_isWordHere_J0_charAt_5068e : GoodIn wsX2_isWordHere wsJ0_charAt_5068e := goodIn_r _ [19, 9, 20, 21, 22, 7, 23, 14, 15, 24, 25, 26, 27, 28, 29, 30, 31, 32, 33, 34, 35, 36, 37, 38, 39, 40, 41, 42, 43, 44, 45, 46, 47, 48, 49, 50, 51, 52] (by decide +kernel) (by decide +kernel)
set_option maxRecDepth 20000 in
theorem gX2_isWordHere_J0_charAt_5068e : GoodIn wsX2_isWordHere (wsV RX2 83 RJ0 yJ0_charAt_5068e wsJ0_charAt_5068e) := goodIn_app (goodIn_of _ (by decide +kernel)) ggX2_isWordHere_J0_charAt_5068e
theorem dX2_isWordHere_0 : decode cX2_isWordHere 0 = .ok (.aload_n 1, 1) := by decide +kernel
theorem dX2_isWordHere_1 : decode cX2_isWordHere 1 = .ok (.invokevirtual 79, 3) := by decide +kernel
theorem dX2_isWordHere_4 : decode cX2_isWordHere 4 = .ok (.aload_n 0, 1) := by decide +kernel
theorem dX2_isWordHere_5 : decode cX2_isWordHere 5 = .ok (.getfield 26, 3) := by decide +kernel
theorem dX2_isWordHere_8 : decode cX2_isWordHere 8 = .ok (.aload_n 0, 1) := by decide +kernel
theorem dX2_isWordHere_9 : decode cX2_isWordHere 9 = .ok (.getfield 23, 3) := by decide +kernel
theorem dX2_isWordHere_12 : decode cX2_isWordHere 12 = .ok (.isub, 1) := by decide +kernel
theorem dX2_isWordHere_13 : decode cX2_isWordHere 13 = .ok (.if_icmp .eq 5, 3) := by decide +kernel
theorem dX2_isWordHere_16 : decode cX2_isWordHere 16 = .ok (.iconst 0, 1) := by decide +kernel
theorem dX2_isWordHere_17 : decode cX2_isWordHere 17 = .ok (.ireturn, 1) := by decide +kernel
theorem dX2_isWordHere_18 : decode cX2_isWordHere 18 = .ok (.iconst 0, 1) := by decide +kernel
theorem dX2_isWordHere_19 : decode cX2_isWordHere 19 = .ok (.istore_n 2, 1) := by decide +kernel
theorem dX2_isWordHere_20 : decode cX2_isWordHere 20 = .ok (.iload_n 2, 1) := by decide +kernel
theorem dX2_isWordHere_21 : decode cX2_isWordHere 21 = .ok (.aload_n 1, 1) := by decide +kernel
theorem dX2_isWordHere_22 : decode cX2_isWordHere 22 = .ok (.invokevirtual 79, 3) := by decide +kernel
theorem dX2_isWordHere_25 : decode cX2_isWordHere 25 = .ok (.if_icmp .ge 30, 3) := by decide +kernel
theorem dX2_isWordHere_28 : decode cX2_isWordHere 28 = .ok (.aload_n 0, 1) := by decide +kernel
theorem dX2_isWordHere_29 : decode cX2_isWordHere 29 = .ok (.getfield 9, 3) := by decide +kernel
theorem dX2_isWordHere_32 : decode cX2_isWordHere 32 = .ok (.aload_n 0, 1) := by decide +kernel
theorem dX2_isWordHere_33 : decode cX2_isWordHere 33 = .ok (.getfield 23, 3) := by decide +kernel
theorem dX2_isWordHere_36 : decode cX2_isWordHere 36 = .ok (.iload_n 2, 1) := by decide +kernel
theorem dX2_isWordHere_37 : decode cX2_isWordHere 37 = .ok (.iadd, 1) := by decide +kernel
theorem dX2_isWordHere_38 : decode cX2_isWordHere 38 = .ok (.caload, 1) := by decide +kernel
theorem dX2_isWordHere_39 : decode cX2_isWordHere 39 = .ok (.aload_n 1, 1) := by decide +kernel
theorem dX2_isWordHere_40 : decode cX2_isWordHere 40 = .ok (.iload_n 2, 1) := by decide +kernel
theorem dX2_isWordHere_41 : decode cX2_isWordHere 41 = .ok (.invokevirtual 83, 3) := by decide +kernel
theorem dX2_isWordHere_44 : decode cX2_isWordHere 44 = .ok (.if_icmp .eq 5, 3) := by decide +kernel
theorem dX2_isWordHere_47 : decode cX2_isWordHere 47 = .ok (.iconst 0, 1) := by decide +kernel
theorem dX2_isWordHere_48 : decode cX2_isWordHere 48 = .ok (.ireturn, 1) := by decide +kernel
theorem dX2_isWordHere_49 : decode cX2_isWordHere 49 = .ok (.iinc 2 1, 3) := by decide +kernel
theorem dX2_isWordHere_52 : decode cX2_isWordHere 52 = .ok (.goto (-32), 3) := by decide +kernel
theorem dX2_isWordHere_55 : decode cX2_isWordHere 55 = .ok (.iconst 1, 1) := by decide +kernel
theorem dX2_isWordHere_56 : decode cX2_isWordHere 56 = .ok (.ireturn, 1) := by decide +kernel
theorem dX2_numberHere_0 : decode cX2_numberHere 0 = .ok (.aload_n 0, 1) := by decide +kernel
theorem dX2_numberHere_1 : decode cX2_numberHere 1 = .ok (.getfield 26, 3) := by decide +kernel
theorem dX2_numberHere_4 : decode cX2_numberHere 4 = .ok (.aload_n 0, 1) := by decide +kernel
theorem dX2_numberHere_5 : decode cX2_numberHere 5 = .ok (.getfield 23, 3) := by decide +kernel
theorem dX2_numberHere_8 : decode cX2_numberHere 8 = .ok (.isub, 1) := by decide +kernel
theorem dX2_numberHere_9 : decode cX2_numberHere 9 = .ok (.bipush 9, 2) := by decide +kernel
theorem dX2_numberHere_11 : decode cX2_numberHere 11 = .ok (.if_icmp .le 5, 3) := by decide +kernel
theorem dX2_numberHere_14 : decode cX2_numberHere 14 = .ok (.iconst (-1), 1) := by decide +kernel
theorem dX2_numberHere_15 : decode cX2_numberHere 15 = .ok (.ireturn, 1) := by decide +kernel
theorem dX2_numberHere_16 : decode cX2_numberHere 16 = .ok (.iconst 0, 1) := by decide +kernel
theorem dX2_numberHere_17 : decode cX2_numberHere 17 = .ok (.istore_n 1, 1) := by decide +kernel
theorem dX2_numberHere_18 : decode cX2_numberHere 18 = .ok (.aload_n 0, 1) := by decide +kernel
theorem dX2_numberHere_19 : decode cX2_numberHere 19 = .ok (.getfield 23, 3) := by decide +kernel
theorem dX2_numberHere_22 : decode cX2_numberHere 22 = .ok (.istore_n 2, 1) := by decide +kernel
theorem dX2_numberHere_23 : decode cX2_numberHere 23 = .ok (.iload_n 2, 1) := by decide +kernel
theorem dX2_numberHere_24 : decode cX2_numberHere 24 = .ok (.aload_n 0, 1) := by decide +kernel
theorem dX2_numberHere_25 : decode cX2_numberHere 25 = .ok (.getfield 26, 3) := by decide +kernel
theorem dX2_numberHere_28 : decode cX2_numberHere 28 = .ok (.if_icmp .ge 48, 3) := by decide +kernel
theorem dX2_numberHere_31 : decode cX2_numberHere 31 = .ok (.aload_n 0, 1) := by decide +kernel
theorem dX2_numberHere_32 : decode cX2_numberHere 32 = .ok (.getfield 9, 3) := by decide +kernel
theorem dX2_numberHere_35 : decode cX2_numberHere 35 = .ok (.iload_n 2, 1) := by decide +kernel
theorem dX2_numberHere_36 : decode cX2_numberHere 36 = .ok (.caload, 1) := by decide +kernel
theorem dX2_numberHere_37 : decode cX2_numberHere 37 = .ok (.bipush 48, 2) := by decide +kernel
theorem dX2_numberHere_39 : decode cX2_numberHere 39 = .ok (.if_icmp .lt 14, 3) := by decide +kernel
theorem dX2_numberHere_42 : decode cX2_numberHere 42 = .ok (.aload_n 0, 1) := by decide +kernel
theorem dX2_numberHere_43 : decode cX2_numberHere 43 = .ok (.getfield 9, 3) := by decide +kernel
theorem dX2_numberHere_46 : decode cX2_numberHere 46 = .ok (.iload_n 2, 1) := by decide +kernel
theorem dX2_numberHere_47 : decode cX2_numberHere 47 = .ok (.caload, 1) := by decide +kernel
theorem dX2_numberHere_48 : decode cX2_numberHere 48 = .ok (.bipush 57, 2) := by decide +kernel
theorem dX2_numberHere_50 : decode cX2_numberHere 50 = .ok (.if_icmp .le 5, 3) := by decide +kernel
theorem dX2_numberHere_53 : decode cX2_numberHere 53 = .ok (.iconst (-1), 1) := by decide +kernel
theorem dX2_numberHere_54 : decode cX2_numberHere 54 = .ok (.ireturn, 1) := by decide +kernel
theorem dX2_numberHere_55 : decode cX2_numberHere 55 = .ok (.iload_n 1, 1) := by decide +kernel
theorem dX2_numberHere_56 : decode cX2_numberHere 56 = .ok (.bipush 10, 2) := by decide +kernel
theorem dX2_numberHere_58 : decode cX2_numberHere 58 = .ok (.imul, 1) := by decide +kernel
theorem dX2_numberHere_59 : decode cX2_numberHere 59 = .ok (.aload_n 0, 1) := by decide +kernel
theorem dX2_numberHere_60 : decode cX2_numberHere 60 = .ok (.getfield 9, 3) := by decide +kernel
theorem dX2_numberHere_63 : decode cX2_numberHere 63 = .ok (.iload_n 2, 1) := by decide +kernel
theorem dX2_numberHere_64 : decode cX2_numberHere 64 = .ok (.caload, 1) := by decide +kernel
theorem dX2_numberHere_65 : decode cX2_numberHere 65 = .ok (.bipush 48, 2) := by decide +kernel
theorem dX2_numberHere_67 : decode cX2_numberHere 67 = .ok (.isub, 1) := by decide +kernel
theorem dX2_numberHere_68 : decode cX2_numberHere 68 = .ok (.iadd, 1) := by decide +kernel
theorem dX2_numberHere_69 : decode cX2_numberHere 69 = .ok (.istore_n 1, 1) := by decide +kernel
theorem dX2_numberHere_70 : decode cX2_numberHere 70 = .ok (.iinc 2 1, 3) := by decide +kernel
theorem dX2_numberHere_73 : decode cX2_numberHere 73 = .ok (.goto (-50), 3) := by decide +kernel
theorem dX2_numberHere_76 : decode cX2_numberHere 76 = .ok (.iload_n 1, 1) := by decide +kernel
theorem dX2_numberHere_77 : decode cX2_numberHere 77 = .ok (.ireturn, 1) := by decide +kernel
end
section
theorem dX3_init_0 : decode cX3_init 0 = .ok (.aload_n 0, 1) := by decide +kernel
theorem dX3_init_1 : decode cX3_init 1 = .ok (.invokespecial 3, 3) := by decide +kernel
theorem dX3_init_4 : decode cX3_init 4 = .ok (.return_, 1) := by decide +kernel
set_option maxRecDepth 20000 in
theorem ggX3_byteAt_X3_tellParts : GoodIn wsX3_byteAt wsX3_tellParts := goodIn_r _ [8, 3, 1, 9, 10, 11, 12, 13, 14, 7, 15, 16, 17, 18, 19, 20, 21, 22, 23, 24, 25, 26, 27, 28, 29, 30, 31, 32, 33, 34, 35, 36, 37, 38, 39, 40, 41, 42, 43, 44, 45, 46, 47, 48, 49, 50, 51, 52, 53, 54, 55, 56, 57, 58, 59, 60, 61, 62, 63, 64, 65, 66, 67, 68, 69, 2, 70, 71, 72, 73, 74, 123, 124, 125, 126, 127, 128, 129, 130, 131, 132, 133, 134, 121, 122] (by decide +kernel) (by decide +kernel)
set_option maxRecDepth 20000 in
theorem gX3_byteAt_X3_tellParts : GoodIn wsX3_byteAt (wsV RX3 18 RX3 yX3_tellParts wsX3_tellParts) := goodIn_app (goodIn_of _ (by decide +kernel)) ggX3_byteAt_X3_tellParts
set_option maxRecDepth 20000 in
theorem ggX3_byteAt_X3_tellDetails : GoodIn wsX3_byteAt wsX3_tellDetails := goodIn_r _ [78, 79, 80, 81, 82, 83, 84, 85, 86, 87, 88, 89, 90, 91, 92, 93, 94, 95, 96, 97, 98, 99, 7, 100, 101, 102, 103, 104, 12, 13, 14, 15, 16, 17, 18, 19, 20, 21, 22, 23, 24, 25, 26, 27, 28, 29, 30, 31, 32, 33, 34, 35, 36, 37, 38, 39, 40, 41, 42, 43, 44, 45, 46, 47, 48, 49, 50, 51, 52, 53, 54, 55, 56, 57, 58, 59, 60, 61, 62, 63, 64, 65, 66, 67, 68, 69, 1, 2, 70, 71, 72, 73, 74, 105, 106, 107, 108, 109, 110, 111, 123, 124, 125, 126, 127, 128, 129, 130, 131, 132, 133, 134, 121, 122] (by decide +kernel) (by decide +kernel)
set_option maxRecDepth 20000 in
theorem gX3_byteAt_X3_tellDetails : GoodIn wsX3_byteAt (wsV RX3 27 RX3 yX3_tellDetails wsX3_tellDetails) := goodIn_app (goodIn_of _ (by decide +kernel)) ggX3_byteAt_X3_tellDetails
set_option maxRecDepth 20000 in
theorem ggX3_byteAt_X3_tellFastenings : GoodIn wsX3_byteAt wsX3_tellFastenings := goodIn_r _ [115, 116, 1, 117, 118, 119, 120, 101, 102, 103, 7, 104, 12, 13, 14, 15, 16, 17, 18, 19, 20, 21, 22, 23, 24, 25, 26, 27, 28, 29, 30, 31, 32, 33, 34, 35, 36, 37, 38, 39, 40, 41, 42, 43, 44, 45, 46, 47, 48, 49, 50, 51, 52, 53, 54, 55, 56, 57, 58, 59, 60, 61, 62, 63, 64, 65, 66, 67, 68, 69, 2, 70, 71, 72, 73, 74, 123, 124, 125, 126, 127, 128, 129, 130, 131, 132, 133, 134, 121, 122] (by decide +kernel) (by decide +kernel)
set_option maxRecDepth 20000 in
theorem gX3_byteAt_X3_tellFastenings : GoodIn wsX3_byteAt (wsV RX3 31 RX3 yX3_tellFastenings wsX3_tellFastenings) := goodIn_app (goodIn_of _ (by decide +kernel)) ggX3_byteAt_X3_tellFastenings
theorem dX3_byteAt_0 : decode cX3_byteAt 0 = .ok (.iload_n 2, 1) := by decide +kernel
theorem dX3_byteAt_1 : decode cX3_byteAt 1 = .ok (.ifCond .ge 5, 3) := by decide +kernel
theorem dX3_byteAt_4 : decode cX3_byteAt 4 = .ok (.iconst (-1), 1) := by decide +kernel
theorem dX3_byteAt_5 : decode cX3_byteAt 5 = .ok (.ireturn, 1) := by decide +kernel
theorem dX3_byteAt_6 : decode cX3_byteAt 6 = .ok (.aload_n 0, 1) := by decide +kernel
theorem dX3_byteAt_7 : decode cX3_byteAt 7 = .ok (.iload_n 2, 1) := by decide +kernel
theorem dX3_byteAt_8 : decode cX3_byteAt 8 = .ok (.putfield 9, 3) := by decide +kernel
theorem dX3_byteAt_11 : decode cX3_byteAt 11 = .ok (.aload_n 0, 1) := by decide +kernel
theorem dX3_byteAt_12 : decode cX3_byteAt 12 = .ok (.iconst (-1), 1) := by decide +kernel
theorem dX3_byteAt_13 : decode cX3_byteAt 13 = .ok (.putfield 15, 3) := by decide +kernel
theorem dX3_byteAt_16 : decode cX3_byteAt 16 = .ok (.aload_n 0, 1) := by decide +kernel
theorem dX3_byteAt_17 : decode cX3_byteAt 17 = .ok (.aload_n 1, 1) := by decide +kernel
theorem dX3_byteAt_18 : decode cX3_byteAt 18 = .ok (.invokevirtual 18, 3) := by decide +kernel
theorem dX3_byteAt_21 : decode cX3_byteAt 21 = .ok (.iconst 0, 1) := by decide +kernel
theorem dX3_byteAt_22 : decode cX3_byteAt 22 = .ok (.istore_n 3, 1) := by decide +kernel
theorem dX3_byteAt_23 : decode cX3_byteAt 23 = .ok (.iload_n 3, 1) := by decide +kernel
theorem dX3_byteAt_24 : decode cX3_byteAt 24 = .ok (.aload_n 1, 1) := by decide +kernel
theorem dX3_byteAt_25 : decode cX3_byteAt 25 = .ok (.getfield 22, 3) := by decide +kernel
theorem dX3_byteAt_28 : decode cX3_byteAt 28 = .ok (.if_icmp .ge 22, 3) := by decide +kernel
theorem dX3_byteAt_31 : decode cX3_byteAt 31 = .ok (.aload_n 0, 1) := by decide +kernel
theorem dX3_byteAt_32 : decode cX3_byteAt 32 = .ok (.getfield 9, 3) := by decide +kernel
theorem dX3_byteAt_35 : decode cX3_byteAt 35 = .ok (.ifCond .lt 15, 3) := by decide +kernel
theorem dX3_byteAt_38 : decode cX3_byteAt 38 = .ok (.aload_n 0, 1) := by decide +kernel
theorem dX3_byteAt_39 : decode cX3_byteAt 39 = .ok (.aload_n 1, 1) := by decide +kernel
theorem dX3_byteAt_40 : decode cX3_byteAt 40 = .ok (.iload_n 3, 1) := by decide +kernel
theorem dX3_byteAt_41 : decode cX3_byteAt 41 = .ok (.invokevirtual 27, 3) := by decide +kernel
theorem dX3_byteAt_44 : decode cX3_byteAt 44 = .ok (.iinc 3 1, 3) := by decide +kernel
theorem dX3_byteAt_47 : decode cX3_byteAt 47 = .ok (.goto (-24), 3) := by decide +kernel
theorem dX3_byteAt_50 : decode cX3_byteAt 50 = .ok (.aload_n 0, 1) := by decide +kernel
theorem dX3_byteAt_51 : decode cX3_byteAt 51 = .ok (.aload_n 1, 1) := by decide +kernel
theorem dX3_byteAt_52 : decode cX3_byteAt 52 = .ok (.invokevirtual 31, 3) := by decide +kernel
theorem dX3_byteAt_55 : decode cX3_byteAt 55 = .ok (.aload_n 0, 1) := by decide +kernel
theorem dX3_byteAt_56 : decode cX3_byteAt 56 = .ok (.getfield 15, 3) := by decide +kernel
theorem dX3_byteAt_59 : decode cX3_byteAt 59 = .ok (.ireturn, 1) := by decide +kernel
set_option maxRecDepth 20000 in
theorem ggX3_tellParts_X3_tellWord : GoodIn wsX3_tellParts wsX3_tellWord := goodIn_r _ [10, 11, 12, 13, 14, 15, 16, 17, 18, 19, 20, 21, 22, 23, 24, 25, 26, 27, 28, 29, 30, 31, 32, 33, 34, 35, 36, 37, 38, 39, 40, 41, 42, 43, 44, 45, 46, 47, 48, 49, 50, 51, 52, 53, 54, 55, 56, 57, 58, 59, 60, 61, 62, 63, 9, 64, 2, 65, 83, 84] (by decide +kernel) (by decide +kernel)
set_option maxRecDepth 20000 in
theorem gX3_tellParts_X3_tellWord : GoodIn wsX3_tellParts (wsV RX3 40 RX3 yX3_tellWord wsX3_tellWord) := goodIn_app (goodIn_of _ (by decide +kernel)) ggX3_tellParts_X3_tellWord
set_option maxRecDepth 20000 in
theorem ggX3_tellParts_X3_tellNumber : GoodIn wsX3_tellParts wsX3_tellNumber := goodIn_r _ [69, 70, 61, 62, 63, 9, 64, 2, 65, 83, 84] (by decide +kernel) (by decide +kernel)
set_option maxRecDepth 20000 in
theorem gX3_tellParts_X3_tellNumber : GoodIn wsX3_tellParts (wsV RX3 48 RX3 yX3_tellNumber wsX3_tellNumber) := goodIn_app (goodIn_of _ (by decide +kernel)) ggX3_tellParts_X3_tellNumber
theorem dX3_tellParts_0 : decode cX3_tellParts 0 = .ok (.iconst 0, 1) := by decide +kernel
theorem dX3_tellParts_1 : decode cX3_tellParts 1 = .ok (.istore_n 2, 1) := by decide +kernel
theorem dX3_tellParts_2 : decode cX3_tellParts 2 = .ok (.iload_n 2, 1) := by decide +kernel
theorem dX3_tellParts_3 : decode cX3_tellParts 3 = .ok (.aload_n 1, 1) := by decide +kernel
theorem dX3_tellParts_4 : decode cX3_tellParts 4 = .ok (.getfield 22, 3) := by decide +kernel
theorem dX3_tellParts_7 : decode cX3_tellParts 7 = .ok (.if_icmp .ge 44, 3) := by decide +kernel
theorem dX3_tellParts_10 : decode cX3_tellParts 10 = .ok (.aload_n 0, 1) := by decide +kernel
theorem dX3_tellParts_11 : decode cX3_tellParts 11 = .ok (.getfield 9, 3) := by decide +kernel
theorem dX3_tellParts_14 : decode cX3_tellParts 14 = .ok (.ifCond .lt 37, 3) := by decide +kernel
theorem dX3_tellParts_17 : decode cX3_tellParts 17 = .ok (.aload_n 0, 1) := by decide +kernel
theorem dX3_tellParts_18 : decode cX3_tellParts 18 = .ok (.getstatic 34, 3) := by decide +kernel
theorem dX3_tellParts_21 : decode cX3_tellParts 21 = .ok (.invokevirtual 40, 3) := by decide +kernel
theorem dX3_tellParts_24 : decode cX3_tellParts 24 = .ok (.aload_n 0, 1) := by decide +kernel
theorem dX3_tellParts_25 : decode cX3_tellParts 25 = .ok (.aload_n 1, 1) := by decide +kernel
theorem dX3_tellParts_26 : decode cX3_tellParts 26 = .ok (.getfield 44, 3) := by decide +kernel
theorem dX3_tellParts_29 : decode cX3_tellParts 29 = .ok (.iload_n 2, 1) := by decide +kernel
theorem dX3_tellParts_30 : decode cX3_tellParts 30 = .ok (.iaload, 1) := by decide +kernel
theorem dX3_tellParts_31 : decode cX3_tellParts 31 = .ok (.i2l, 1) := by decide +kernel
theorem dX3_tellParts_32 : decode cX3_tellParts 32 = .ok (.invokevirtual 48, 3) := by decide +kernel
theorem dX3_tellParts_35 : decode cX3_tellParts 35 = .ok (.aload_n 0, 1) := by decide +kernel
theorem dX3_tellParts_36 : decode cX3_tellParts 36 = .ok (.aload_n 1, 1) := by decide +kernel
theorem dX3_tellParts_37 : decode cX3_tellParts 37 = .ok (.getfield 52, 3) := by decide +kernel
theorem dX3_tellParts_40 : decode cX3_tellParts 40 = .ok (.iload_n 2, 1) := by decide +kernel
theorem dX3_tellParts_41 : decode cX3_tellParts 41 = .ok (.laload, 1) := by decide +kernel
theorem dX3_tellParts_42 : decode cX3_tellParts 42 = .ok (.invokevirtual 48, 3) := by decide +kernel
theorem dX3_tellParts_45 : decode cX3_tellParts 45 = .ok (.iinc 2 1, 3) := by decide +kernel
theorem dX3_tellParts_48 : decode cX3_tellParts 48 = .ok (.goto (-46), 3) := by decide +kernel
theorem dX3_tellParts_51 : decode cX3_tellParts 51 = .ok (.return_, 1) := by decide +kernel
set_option maxRecDepth 20000 in
theorem ggX3_tellDetails_X1_coveredBy : GoodIn wsX3_tellDetails wsX1_coveredBy := goodIn_r _ [13, 14, 15, 16, 17, 18, 100, 101, 102, 103, 104, 105, 106, 107, 108, 109, 110, 111] (by decide +kernel) (by decide +kernel)
set_option maxRecDepth 20000 in
theorem gX3_tellDetails_X1_coveredBy : GoodIn wsX3_tellDetails (wsV RX3 59 RX1 yX1_coveredBy wsX1_coveredBy) := goodIn_app (goodIn_of _ (by decide +kernel)) ggX3_tellDetails_X1_coveredBy
set_option maxRecDepth 20000 in
theorem ggX3_tellDetails_X3_tellEach : GoodIn wsX3_tellDetails wsX3_tellEach := goodIn_r _ [23, 16, 17, 18, 24, 25, 26, 22, 27, 28, 29, 30, 31, 32, 33, 34, 35, 36, 37, 38, 39, 40, 41, 42, 43, 44, 45, 46, 47, 48, 49, 50, 51, 52, 53, 54, 55, 56, 57, 58, 59, 60, 61, 62, 63, 64, 65, 66, 67, 68, 69, 70, 71, 72, 73, 74, 75, 76, 77, 78, 79, 80, 81, 82, 83, 84, 85, 86, 87, 88, 89, 90, 91, 92, 112, 113] (by decide +kernel) (by decide +kernel)
set_option maxRecDepth 20000 in
theorem gX3_tellDetails_X3_tellEach : GoodIn wsX3_tellDetails (wsV RX3 63 RX3 yX3_tellEach wsX3_tellEach) := goodIn_app (goodIn_of _ (by decide +kernel)) ggX3_tellDetails_X3_tellEach
set_option maxRecDepth 20000 in
theorem ggX3_tellDetails_X1_barIndex : GoodIn wsX3_tellDetails wsX1_barIndex := goodIn_r _ [94] (by decide +kernel) (by decide +kernel)
set_option maxRecDepth 20000 in
theorem gX3_tellDetails_X1_barIndex_n70 : GoodIn wsX3_tellDetails (wsX1_barIndex) := ggX3_tellDetails_X1_barIndex
set_option maxRecDepth 20000 in
theorem ggX3_tellDetails_X3_tellBars : GoodIn wsX3_tellDetails wsX3_tellBars := goodIn_r _ [98, 99, 16, 17, 18, 24, 25, 26, 22, 27, 28, 29, 30, 31, 32, 33, 34, 35, 36, 37, 38, 39, 40, 41, 42, 43, 44, 45, 46, 47, 48, 49, 50, 51, 52, 53, 54, 55, 56, 57, 58, 59, 60, 61, 62, 63, 64, 65, 66, 67, 68, 69, 70, 71, 72, 73, 74, 75, 76, 77, 78, 79, 80, 81, 82, 83, 84, 85, 86, 87, 88, 89, 90, 91, 92, 112, 113] (by decide +kernel) (by decide +kernel)
set_option maxRecDepth 20000 in
theorem gX3_tellDetails_X3_tellBars : GoodIn wsX3_tellDetails (wsV RX3 74 RX3 yX3_tellBars wsX3_tellBars) := goodIn_app (goodIn_of _ (by decide +kernel)) ggX3_tellDetails_X3_tellBars
set_option maxRecDepth 20000 in
theorem ggX3_tellDetails_X3_tellPair : GoodIn wsX3_tellDetails wsX3_tellPair := goodIn_r _ [27, 28, 29, 30, 22, 31, 32, 33, 34, 35, 36, 37, 38, 39, 40, 41, 42, 43, 44, 45, 46, 47, 48, 49, 50, 51, 52, 53, 54, 55, 56, 57, 58, 59, 60, 61, 62, 63, 64, 65, 66, 67, 68, 69, 70, 71, 72, 73, 74, 75, 76, 77, 78, 79, 80, 81, 82, 83, 84, 85, 86, 87, 88, 89, 90, 91, 92, 112, 113] (by decide +kernel) (by decide +kernel)
set_option maxRecDepth 20000 in
theorem gX3_tellDetails_X3_tellPair : GoodIn wsX3_tellDetails (wsV RX3 90 RX3 yX3_tellPair wsX3_tellPair) := goodIn_app (goodIn_of _ (by decide +kernel)) ggX3_tellDetails_X3_tellPair
theorem dX3_tellDetails_0 : decode cX3_tellDetails 0 = .ok (.aload_n 0, 1) := by decide +kernel
theorem dX3_tellDetails_1 : decode cX3_tellDetails 1 = .ok (.getstatic 56, 3) := by decide +kernel
theorem dX3_tellDetails_4 : decode cX3_tellDetails 4 = .ok (.iload_n 2, 1) := by decide +kernel
theorem dX3_tellDetails_5 : decode cX3_tellDetails 5 = .ok (.aload_n 1, 1) := by decide +kernel
theorem dX3_tellDetails_6 : decode cX3_tellDetails 6 = .ok (.iload_n 2, 1) := by decide +kernel
theorem dX3_tellDetails_7 : decode cX3_tellDetails 7 = .ok (.invokevirtual 59, 3) := by decide +kernel
theorem dX3_tellDetails_10 : decode cX3_tellDetails 10 = .ok (.invokevirtual 63, 3) := by decide +kernel
theorem dX3_tellDetails_13 : decode cX3_tellDetails 13 = .ok (.iconst 0, 1) := by decide +kernel
theorem dX3_tellDetails_14 : decode cX3_tellDetails 14 = .ok (.istore_n 3, 1) := by decide +kernel
theorem dX3_tellDetails_15 : decode cX3_tellDetails 15 = .ok (.iload_n 3, 1) := by decide +kernel
theorem dX3_tellDetails_16 : decode cX3_tellDetails 16 = .ok (.bipush 6, 2) := by decide +kernel
theorem dX3_tellDetails_18 : decode cX3_tellDetails 18 = .ok (.if_icmp .ge 25, 3) := by decide +kernel
theorem dX3_tellDetails_21 : decode cX3_tellDetails 21 = .ok (.aload_n 0, 1) := by decide +kernel
theorem dX3_tellDetails_22 : decode cX3_tellDetails 22 = .ok (.iload_n 2, 1) := by decide +kernel
theorem dX3_tellDetails_23 : decode cX3_tellDetails 23 = .ok (.iload_n 3, 1) := by decide +kernel
theorem dX3_tellDetails_24 : decode cX3_tellDetails 24 = .ok (.aload_n 1, 1) := by decide +kernel
theorem dX3_tellDetails_25 : decode cX3_tellDetails 25 = .ok (.getfield 67, 3) := by decide +kernel
theorem dX3_tellDetails_28 : decode cX3_tellDetails 28 = .ok (.iload_n 2, 1) := by decide +kernel
theorem dX3_tellDetails_29 : decode cX3_tellDetails 29 = .ok (.iload_n 3, 1) := by decide +kernel
theorem dX3_tellDetails_30 : decode cX3_tellDetails 30 = .ok (.invokestatic 70, 3) := by decide +kernel
theorem dX3_tellDetails_33 : decode cX3_tellDetails 33 = .ok (.iaload, 1) := by decide +kernel
theorem dX3_tellDetails_34 : decode cX3_tellDetails 34 = .ok (.invokevirtual 74, 3) := by decide +kernel
theorem dX3_tellDetails_37 : decode cX3_tellDetails 37 = .ok (.iinc 3 1, 3) := by decide +kernel
theorem dX3_tellDetails_40 : decode cX3_tellDetails 40 = .ok (.goto (-25), 3) := by decide +kernel
theorem dX3_tellDetails_43 : decode cX3_tellDetails 43 = .ok (.aload_n 0, 1) := by decide +kernel
theorem dX3_tellDetails_44 : decode cX3_tellDetails 44 = .ok (.getstatic 78, 3) := by decide +kernel
theorem dX3_tellDetails_47 : decode cX3_tellDetails 47 = .ok (.iload_n 2, 1) := by decide +kernel
theorem dX3_tellDetails_48 : decode cX3_tellDetails 48 = .ok (.aload_n 1, 1) := by decide +kernel
theorem dX3_tellDetails_49 : decode cX3_tellDetails 49 = .ok (.getfield 81, 3) := by decide +kernel
theorem dX3_tellDetails_52 : decode cX3_tellDetails 52 = .ok (.iload_n 2, 1) := by decide +kernel
theorem dX3_tellDetails_53 : decode cX3_tellDetails 53 = .ok (.iaload, 1) := by decide +kernel
theorem dX3_tellDetails_54 : decode cX3_tellDetails 54 = .ok (.invokevirtual 63, 3) := by decide +kernel
theorem dX3_tellDetails_57 : decode cX3_tellDetails 57 = .ok (.aload_n 1, 1) := by decide +kernel
theorem dX3_tellDetails_58 : decode cX3_tellDetails 58 = .ok (.getfield 84, 3) := by decide +kernel
theorem dX3_tellDetails_61 : decode cX3_tellDetails 61 = .ok (.iload_n 2, 1) := by decide +kernel
theorem dX3_tellDetails_62 : decode cX3_tellDetails 62 = .ok (.iaload, 1) := by decide +kernel
theorem dX3_tellDetails_63 : decode cX3_tellDetails 63 = .ok (.iconst (-1), 1) := by decide +kernel
theorem dX3_tellDetails_64 : decode cX3_tellDetails 64 = .ok (.if_icmp .eq 17, 3) := by decide +kernel
theorem dX3_tellDetails_67 : decode cX3_tellDetails 67 = .ok (.aload_n 0, 1) := by decide +kernel
theorem dX3_tellDetails_68 : decode cX3_tellDetails 68 = .ok (.getstatic 87, 3) := by decide +kernel
theorem dX3_tellDetails_71 : decode cX3_tellDetails 71 = .ok (.iload_n 2, 1) := by decide +kernel
theorem dX3_tellDetails_72 : decode cX3_tellDetails 72 = .ok (.aload_n 1, 1) := by decide +kernel
theorem dX3_tellDetails_73 : decode cX3_tellDetails 73 = .ok (.getfield 84, 3) := by decide +kernel
theorem dX3_tellDetails_76 : decode cX3_tellDetails 76 = .ok (.iload_n 2, 1) := by decide +kernel
theorem dX3_tellDetails_77 : decode cX3_tellDetails 77 = .ok (.iaload, 1) := by decide +kernel
theorem dX3_tellDetails_78 : decode cX3_tellDetails 78 = .ok (.invokevirtual 90, 3) := by decide +kernel
theorem dX3_tellDetails_81 : decode cX3_tellDetails 81 = .ok (.aload_n 1, 1) := by decide +kernel
theorem dX3_tellDetails_82 : decode cX3_tellDetails 82 = .ok (.getfield 93, 3) := by decide +kernel
theorem dX3_tellDetails_85 : decode cX3_tellDetails 85 = .ok (.iload_n 2, 1) := by decide +kernel
theorem dX3_tellDetails_86 : decode cX3_tellDetails 86 = .ok (.iaload, 1) := by decide +kernel
theorem dX3_tellDetails_87 : decode cX3_tellDetails 87 = .ok (.ifCond .le 17, 3) := by decide +kernel
theorem dX3_tellDetails_90 : decode cX3_tellDetails 90 = .ok (.aload_n 0, 1) := by decide +kernel
theorem dX3_tellDetails_91 : decode cX3_tellDetails 91 = .ok (.getstatic 96, 3) := by decide +kernel
theorem dX3_tellDetails_94 : decode cX3_tellDetails 94 = .ok (.iload_n 2, 1) := by decide +kernel
theorem dX3_tellDetails_95 : decode cX3_tellDetails 95 = .ok (.aload_n 1, 1) := by decide +kernel
theorem dX3_tellDetails_96 : decode cX3_tellDetails 96 = .ok (.getfield 93, 3) := by decide +kernel
theorem dX3_tellDetails_99 : decode cX3_tellDetails 99 = .ok (.iload_n 2, 1) := by decide +kernel
theorem dX3_tellDetails_100 : decode cX3_tellDetails 100 = .ok (.iaload, 1) := by decide +kernel
theorem dX3_tellDetails_101 : decode cX3_tellDetails 101 = .ok (.invokevirtual 90, 3) := by decide +kernel
theorem dX3_tellDetails_104 : decode cX3_tellDetails 104 = .ok (.return_, 1) := by decide +kernel
set_option maxRecDepth 20000 in
theorem ggX3_tellFastenings_X3_tellPair : GoodIn wsX3_tellFastenings wsX3_tellPair := goodIn_r _ [11, 12, 13, 14, 10, 15, 16, 17, 18, 19, 20, 21, 22, 23, 24, 25, 26, 27, 28, 29, 30, 31, 32, 33, 34, 35, 36, 37, 38, 39, 40, 41, 42, 43, 44, 45, 46, 47, 48, 49, 50, 51, 52, 53, 54, 55, 56, 57, 58, 59, 60, 61, 62, 63, 64, 65, 66, 67, 68, 69, 2, 70, 71, 72, 73, 74, 75, 88, 89] (by decide +kernel) (by decide +kernel)
set_option maxRecDepth 20000 in
theorem gX3_tellFastenings_X3_tellPair : GoodIn wsX3_tellFastenings (wsV RX3 90 RX3 yX3_tellPair wsX3_tellPair) := goodIn_app (goodIn_of _ (by decide +kernel)) ggX3_tellFastenings_X3_tellPair
set_option maxRecDepth 20000 in
theorem ggX3_tellFastenings_X3_tellNumber : GoodIn wsX3_tellFastenings wsX3_tellNumber := goodIn_r _ [74, 75, 66, 67, 68, 10, 69, 2, 70, 88, 89] (by decide +kernel) (by decide +kernel)
set_option maxRecDepth 20000 in
theorem gX3_tellFastenings_X3_tellNumber : GoodIn wsX3_tellFastenings (wsV RX3 48 RX3 yX3_tellNumber wsX3_tellNumber) := goodIn_app (goodIn_of _ (by decide +kernel)) ggX3_tellFastenings_X3_tellNumber
theorem dX3_tellFastenings_0 : decode cX3_tellFastenings 0 = .ok (.iconst 0, 1) := by decide +kernel
theorem dX3_tellFastenings_1 : decode cX3_tellFastenings 1 = .ok (.istore_n 2, 1) := by decide +kernel
theorem dX3_tellFastenings_2 : decode cX3_tellFastenings 2 = .ok (.iload_n 2, 1) := by decide +kernel
theorem dX3_tellFastenings_3 : decode cX3_tellFastenings 3 = .ok (.aload_n 1, 1) := by decide +kernel
theorem dX3_tellFastenings_4 : decode cX3_tellFastenings 4 = .ok (.getfield 99, 3) := by decide +kernel
theorem dX3_tellFastenings_7 : decode cX3_tellFastenings 7 = .ok (.if_icmp .ge 46, 3) := by decide +kernel
theorem dX3_tellFastenings_10 : decode cX3_tellFastenings 10 = .ok (.aload_n 0, 1) := by decide +kernel
theorem dX3_tellFastenings_11 : decode cX3_tellFastenings 11 = .ok (.getfield 9, 3) := by decide +kernel
theorem dX3_tellFastenings_14 : decode cX3_tellFastenings 14 = .ok (.ifCond .lt 39, 3) := by decide +kernel
theorem dX3_tellFastenings_17 : decode cX3_tellFastenings 17 = .ok (.aload_n 0, 1) := by decide +kernel
theorem dX3_tellFastenings_18 : decode cX3_tellFastenings 18 = .ok (.getstatic 102, 3) := by decide +kernel
theorem dX3_tellFastenings_21 : decode cX3_tellFastenings 21 = .ok (.aload_n 1, 1) := by decide +kernel
theorem dX3_tellFastenings_22 : decode cX3_tellFastenings 22 = .ok (.getfield 105, 3) := by decide +kernel
theorem dX3_tellFastenings_25 : decode cX3_tellFastenings 25 = .ok (.iload_n 2, 1) := by decide +kernel
theorem dX3_tellFastenings_26 : decode cX3_tellFastenings 26 = .ok (.iaload, 1) := by decide +kernel
theorem dX3_tellFastenings_27 : decode cX3_tellFastenings 27 = .ok (.aload_n 1, 1) := by decide +kernel
theorem dX3_tellFastenings_28 : decode cX3_tellFastenings 28 = .ok (.getfield 108, 3) := by decide +kernel
theorem dX3_tellFastenings_31 : decode cX3_tellFastenings 31 = .ok (.iload_n 2, 1) := by decide +kernel
theorem dX3_tellFastenings_32 : decode cX3_tellFastenings 32 = .ok (.iaload, 1) := by decide +kernel
theorem dX3_tellFastenings_33 : decode cX3_tellFastenings 33 = .ok (.invokevirtual 90, 3) := by decide +kernel
theorem dX3_tellFastenings_36 : decode cX3_tellFastenings 36 = .ok (.aload_n 0, 1) := by decide +kernel
theorem dX3_tellFastenings_37 : decode cX3_tellFastenings 37 = .ok (.aload_n 1, 1) := by decide +kernel
theorem dX3_tellFastenings_38 : decode cX3_tellFastenings 38 = .ok (.getfield 111, 3) := by decide +kernel
theorem dX3_tellFastenings_41 : decode cX3_tellFastenings 41 = .ok (.iload_n 2, 1) := by decide +kernel
theorem dX3_tellFastenings_42 : decode cX3_tellFastenings 42 = .ok (.iaload, 1) := by decide +kernel
theorem dX3_tellFastenings_43 : decode cX3_tellFastenings 43 = .ok (.i2l, 1) := by decide +kernel
theorem dX3_tellFastenings_44 : decode cX3_tellFastenings 44 = .ok (.invokevirtual 48, 3) := by decide +kernel
theorem dX3_tellFastenings_47 : decode cX3_tellFastenings 47 = .ok (.iinc 2 1, 3) := by decide +kernel
theorem dX3_tellFastenings_50 : decode cX3_tellFastenings 50 = .ok (.goto (-48), 3) := by decide +kernel
theorem dX3_tellFastenings_53 : decode cX3_tellFastenings 53 = .ok (.return_, 1) := by decide +kernel
set_option maxRecDepth 20000 in
theorem ggX3_tellBars_X5_contains : GoodIn wsX3_tellBars wsX5_contains := goodIn_r _ [4] (by decide +kernel) (by decide +kernel)
set_option maxRecDepth 20000 in
theorem gX3_tellBars_X5_contains_n114 : GoodIn wsX3_tellBars (wsX5_contains) := ggX3_tellBars_X5_contains
set_option maxRecDepth 20000 in
theorem ggX3_tellBars_X3_tellPair : GoodIn wsX3_tellBars wsX3_tellPair := goodIn_r _ [9, 10, 11, 12, 8, 13, 14, 15, 16, 17, 18, 19, 20, 21, 22, 23, 24, 25, 26, 27, 28, 29, 30, 31, 32, 33, 34, 35, 36, 37, 38, 39, 40, 41, 42, 43, 44, 45, 46, 47, 48, 49, 50, 51, 52, 53, 54, 55, 56, 57, 58, 59, 60, 61, 62, 63, 64, 65, 66, 67, 68, 69, 70, 71, 72, 73, 74, 75, 76] (by decide +kernel) (by decide +kernel)
set_option maxRecDepth 20000 in
theorem gX3_tellBars_X3_tellPair : GoodIn wsX3_tellBars (wsV RX3 90 RX3 yX3_tellPair wsX3_tellPair) := goodIn_app (goodIn_of _ (by decide +kernel)) ggX3_tellBars_X3_tellPair
set_option maxRecDepth 20000 in
theorem ggX3_tellBars_X3_tellNumber : GoodIn wsX3_tellBars wsX3_tellNumber := goodIn_r _ [73, 74, 64, 65, 66, 8, 67, 68, 69, 75, 76] (by decide +kernel) (by decide +kernel)
set_option maxRecDepth 20000 in
theorem gX3_tellBars_X3_tellNumber : GoodIn wsX3_tellBars (wsV RX3 48 RX3 yX3_tellNumber wsX3_tellNumber) := goodIn_app (goodIn_of _ (by decide +kernel)) ggX3_tellBars_X3_tellNumber
theorem dX3_tellBars_0 : decode cX3_tellBars 0 = .ok (.iconst 0, 1) := by decide +kernel
theorem dX3_tellBars_1 : decode cX3_tellBars 1 = .ok (.istore 4, 2) := by decide +kernel
theorem dX3_tellBars_3 : decode cX3_tellBars 3 = .ok (.iload 4, 2) := by decide +kernel
theorem dX3_tellBars_5 : decode cX3_tellBars 5 = .ok (.bipush 10, 2) := by decide +kernel
theorem dX3_tellBars_7 : decode cX3_tellBars 7 = .ok (.if_icmp .ge 34, 3) := by decide +kernel
theorem dX3_tellBars_10 : decode cX3_tellBars 10 = .ok (.iload_n 3, 1) := by decide +kernel
theorem dX3_tellBars_11 : decode cX3_tellBars 11 = .ok (.iload 4, 2) := by decide +kernel
theorem dX3_tellBars_13 : decode cX3_tellBars 13 = .ok (.invokestatic 114, 3) := by decide +kernel
theorem dX3_tellBars_16 : decode cX3_tellBars 16 = .ok (.ifCond .eq 19, 3) := by decide +kernel
theorem dX3_tellBars_19 : decode cX3_tellBars 19 = .ok (.aload_n 0, 1) := by decide +kernel
theorem dX3_tellBars_20 : decode cX3_tellBars 20 = .ok (.getstatic 118, 3) := by decide +kernel
theorem dX3_tellBars_23 : decode cX3_tellBars 23 = .ok (.iload_n 1, 1) := by decide +kernel
theorem dX3_tellBars_24 : decode cX3_tellBars 24 = .ok (.iload_n 2, 1) := by decide +kernel
theorem dX3_tellBars_25 : decode cX3_tellBars 25 = .ok (.invokevirtual 90, 3) := by decide +kernel
theorem dX3_tellBars_28 : decode cX3_tellBars 28 = .ok (.aload_n 0, 1) := by decide +kernel
theorem dX3_tellBars_29 : decode cX3_tellBars 29 = .ok (.iload 4, 2) := by decide +kernel
theorem dX3_tellBars_31 : decode cX3_tellBars 31 = .ok (.i2l, 1) := by decide +kernel
theorem dX3_tellBars_32 : decode cX3_tellBars 32 = .ok (.invokevirtual 48, 3) := by decide +kernel
theorem dX3_tellBars_35 : decode cX3_tellBars 35 = .ok (.iinc 4 1, 3) := by decide +kernel
theorem dX3_tellBars_38 : decode cX3_tellBars 38 = .ok (.goto (-35), 3) := by decide +kernel
theorem dX3_tellBars_41 : decode cX3_tellBars 41 = .ok (.return_, 1) := by decide +kernel
set_option maxRecDepth 20000 in
theorem ggX3_tellEach_X5_contains : GoodIn wsX3_tellEach wsX5_contains := goodIn_r _ [3] (by decide +kernel) (by decide +kernel)
set_option maxRecDepth 20000 in
theorem gX3_tellEach_X5_contains_n114 : GoodIn wsX3_tellEach (wsX5_contains) := ggX3_tellEach_X5_contains
set_option maxRecDepth 20000 in
theorem ggX3_tellEach_X3_tellPair : GoodIn wsX3_tellEach wsX3_tellPair := goodIn_r _ [8, 9, 10, 11, 7, 12, 13, 14, 15, 16, 17, 18, 19, 20, 21, 22, 23, 24, 25, 26, 27, 28, 29, 30, 31, 32, 33, 34, 35, 36, 37, 38, 39, 40, 41, 42, 43, 44, 45, 46, 47, 48, 49, 50, 51, 52, 53, 54, 55, 56, 57, 58, 59, 60, 61, 62, 63, 64, 65, 66, 67, 68, 69, 70, 71, 72, 73, 74, 75] (by decide +kernel) (by decide +kernel)
set_option maxRecDepth 20000 in
theorem gX3_tellEach_X3_tellPair : GoodIn wsX3_tellEach (wsV RX3 90 RX3 yX3_tellPair wsX3_tellPair) := goodIn_app (goodIn_of _ (by decide +kernel)) ggX3_tellEach_X3_tellPair
theorem dX3_tellEach_0 : decode cX3_tellEach 0 = .ok (.iconst 0, 1) := by decide +kernel
theorem dX3_tellEach_1 : decode cX3_tellEach 1 = .ok (.istore 4, 2) := by decide +kernel
theorem dX3_tellEach_3 : decode cX3_tellEach 3 = .ok (.iload 4, 2) := by decide +kernel
theorem dX3_tellEach_5 : decode cX3_tellEach 5 = .ok (.bipush 10, 2) := by decide +kernel
theorem dX3_tellEach_7 : decode cX3_tellEach 7 = .ok (.if_icmp .ge 26, 3) := by decide +kernel
theorem dX3_tellEach_10 : decode cX3_tellEach 10 = .ok (.iload_n 3, 1) := by decide +kernel
theorem dX3_tellEach_11 : decode cX3_tellEach 11 = .ok (.iload 4, 2) := by decide +kernel
theorem dX3_tellEach_13 : decode cX3_tellEach 13 = .ok (.invokestatic 114, 3) := by decide +kernel
theorem dX3_tellEach_16 : decode cX3_tellEach 16 = .ok (.ifCond .eq 11, 3) := by decide +kernel
theorem dX3_tellEach_19 : decode cX3_tellEach 19 = .ok (.aload_n 0, 1) := by decide +kernel
theorem dX3_tellEach_20 : decode cX3_tellEach 20 = .ok (.aload_n 1, 1) := by decide +kernel
theorem dX3_tellEach_21 : decode cX3_tellEach 21 = .ok (.iload_n 2, 1) := by decide +kernel
theorem dX3_tellEach_22 : decode cX3_tellEach 22 = .ok (.iload 4, 2) := by decide +kernel
theorem dX3_tellEach_24 : decode cX3_tellEach 24 = .ok (.invokevirtual 90, 3) := by decide +kernel
theorem dX3_tellEach_27 : decode cX3_tellEach 27 = .ok (.iinc 4 1, 3) := by decide +kernel
theorem dX3_tellEach_30 : decode cX3_tellEach 30 = .ok (.goto (-27), 3) := by decide +kernel
theorem dX3_tellEach_33 : decode cX3_tellEach 33 = .ok (.return_, 1) := by decide +kernel
set_option maxRecDepth 20000 in
theorem ggX3_tellPair_X3_tellWord : GoodIn wsX3_tellPair wsX3_tellWord := goodIn_r _ [5, 6, 7, 8, 9, 10, 11, 12, 13, 14, 15, 16, 17, 18, 19, 20, 21, 22, 23, 24, 25, 26, 27, 28, 29, 30, 31, 32, 33, 34, 35, 36, 37, 38, 39, 40, 41, 42, 43, 44, 45, 46, 47, 48, 49, 50, 51, 52, 53, 54, 55, 56, 57, 58, 4, 59, 60, 61, 67, 68] (by decide +kernel) (by decide +kernel)
set_option maxRecDepth 20000 in
theorem gX3_tellPair_X3_tellWord : GoodIn wsX3_tellPair (wsV RX3 40 RX3 yX3_tellWord wsX3_tellWord) := goodIn_app (goodIn_of _ (by decide +kernel)) ggX3_tellPair_X3_tellWord
set_option maxRecDepth 20000 in
theorem ggX3_tellPair_X3_tellNumber : GoodIn wsX3_tellPair wsX3_tellNumber := goodIn_r _ [65, 66, 56, 57, 58, 4, 59, 60, 61, 67, 68] (by decide +kernel) (by decide +kernel)
set_option maxRecDepth 20000 in
theorem gX3_tellPair_X3_tellNumber : GoodIn wsX3_tellPair (wsV RX3 48 RX3 yX3_tellNumber wsX3_tellNumber) := goodIn_app (goodIn_of _ (by decide +kernel)) ggX3_tellPair_X3_tellNumber
theorem dX3_tellPair_0 : decode cX3_tellPair 0 = .ok (.aload_n 0, 1) := by decide +kernel
theorem dX3_tellPair_1 : decode cX3_tellPair 1 = .ok (.aload_n 1, 1) := by decide +kernel
theorem dX3_tellPair_2 : decode cX3_tellPair 2 = .ok (.invokevirtual 40, 3) := by decide +kernel
theorem dX3_tellPair_5 : decode cX3_tellPair 5 = .ok (.aload_n 0, 1) := by decide +kernel
theorem dX3_tellPair_6 : decode cX3_tellPair 6 = .ok (.iload_n 2, 1) := by decide +kernel
theorem dX3_tellPair_7 : decode cX3_tellPair 7 = .ok (.i2l, 1) := by decide +kernel
theorem dX3_tellPair_8 : decode cX3_tellPair 8 = .ok (.invokevirtual 48, 3) := by decide +kernel
theorem dX3_tellPair_11 : decode cX3_tellPair 11 = .ok (.aload_n 0, 1) := by decide +kernel
theorem dX3_tellPair_12 : decode cX3_tellPair 12 = .ok (.iload_n 3, 1) := by decide +kernel
theorem dX3_tellPair_13 : decode cX3_tellPair 13 = .ok (.i2l, 1) := by decide +kernel
theorem dX3_tellPair_14 : decode cX3_tellPair 14 = .ok (.invokevirtual 48, 3) := by decide +kernel
theorem dX3_tellPair_17 : decode cX3_tellPair 17 = .ok (.return_, 1) := by decide +kernel
set_option maxRecDepth 20000 in
theorem ggX3_tellWord_J0_length_8abf5 : GoodIn wsX3_tellWord wsJ0_length_8abf5 := goodIn_r _ [6, 7, 8, 9, 10, 5, 11, 12, 13] (by decide +kernel) (by decide +kernel)
set_option maxRecDepth 20000 in
theorem gX3_tellWord_J0_length_8abf5 : GoodIn wsX3_tellWord (wsV RX3 125 RJ0 yJ0_length_8abf5 wsJ0_length_8abf5) := goodIn_app (goodIn_of _ (by decide +kernel)) ggX3_tellWord_J0_length_8abf5
set_option maxRecDepth 20000 in
theorem ggX3_tellWord_J0_charAt_5068e : GoodIn wsX3_tellWord wsJ0_charAt_5068e := goodIn_r _ [17, 7, 18, 19, 20, 5, 21, 12, 13, 22, 23, 24, 25, 26, 27, 28, 29, 30, 31, 32, 33, 34, 35, 36, 37, 38, 39, 40, 41, 42, 43, 44, 45, 46, 47, 48, 49, 50] (by decide +kernel) (by decide +kernel)
set_option maxRecDepth 20000 in
theorem gX3_tellWord_J0_charAt_5068e : GoodIn wsX3_tellWord (wsV RX3 131 RJ0 yJ0_charAt_5068e wsJ0_charAt_5068e) := goodIn_app (goodIn_of _ (by decide +kernel)) ggX3_tellWord_J0_charAt_5068e
set_option maxRecDepth 20000 in
theorem ggX3_tellWord_X3_tellByte : GoodIn wsX3_tellWord wsX3_tellByte := goodIn_r _ [55, 56, 57, 58, 59] (by decide +kernel) (by decide +kernel)
set_option maxRecDepth 20000 in
theorem gX3_tellWord_X3_tellByte : GoodIn wsX3_tellWord (wsV RX3 135 RX3 yX3_tellByte wsX3_tellByte) := goodIn_app (goodIn_of _ (by decide +kernel)) ggX3_tellWord_X3_tellByte
theorem dX3_tellWord_0 : decode cX3_tellWord 0 = .ok (.iconst 0, 1) := by decide +kernel
theorem dX3_tellWord_1 : decode cX3_tellWord 1 = .ok (.istore_n 2, 1) := by decide +kernel
theorem dX3_tellWord_2 : decode cX3_tellWord 2 = .ok (.iload_n 2, 1) := by decide +kernel
theorem dX3_tellWord_3 : decode cX3_tellWord 3 = .ok (.aload_n 1, 1) := by decide +kernel
theorem dX3_tellWord_4 : decode cX3_tellWord 4 = .ok (.getfield 121, 3) := by decide +kernel
theorem dX3_tellWord_7 : decode cX3_tellWord 7 = .ok (.invokevirtual 125, 3) := by decide +kernel
theorem dX3_tellWord_10 : decode cX3_tellWord 10 = .ok (.if_icmp .ge 21, 3) := by decide +kernel
theorem dX3_tellWord_13 : decode cX3_tellWord 13 = .ok (.aload_n 0, 1) := by decide +kernel
theorem dX3_tellWord_14 : decode cX3_tellWord 14 = .ok (.aload_n 1, 1) := by decide +kernel
theorem dX3_tellWord_15 : decode cX3_tellWord 15 = .ok (.getfield 121, 3) := by decide +kernel
theorem dX3_tellWord_18 : decode cX3_tellWord 18 = .ok (.iload_n 2, 1) := by decide +kernel
theorem dX3_tellWord_19 : decode cX3_tellWord 19 = .ok (.invokevirtual 131, 3) := by decide +kernel
theorem dX3_tellWord_22 : decode cX3_tellWord 22 = .ok (.invokevirtual 135, 3) := by decide +kernel
theorem dX3_tellWord_25 : decode cX3_tellWord 25 = .ok (.iinc 2 1, 3) := by decide +kernel
theorem dX3_tellWord_28 : decode cX3_tellWord 28 = .ok (.goto (-26), 3) := by decide +kernel
theorem dX3_tellWord_31 : decode cX3_tellWord 31 = .ok (.aload_n 0, 1) := by decide +kernel
theorem dX3_tellWord_32 : decode cX3_tellWord 32 = .ok (.bipush 32, 2) := by decide +kernel
theorem dX3_tellWord_34 : decode cX3_tellWord 34 = .ok (.invokevirtual 135, 3) := by decide +kernel
theorem dX3_tellWord_37 : decode cX3_tellWord 37 = .ok (.return_, 1) := by decide +kernel
set_option maxRecDepth 20000 in
theorem ggX3_tellNumber_X3_tellByte : GoodIn wsX3_tellNumber wsX3_tellByte := goodIn_r _ [6, 7, 8, 9, 10] (by decide +kernel) (by decide +kernel)
set_option maxRecDepth 20000 in
theorem gX3_tellNumber_X3_tellByte : GoodIn wsX3_tellNumber (wsV RX3 135 RX3 yX3_tellByte wsX3_tellByte) := goodIn_app (goodIn_of _ (by decide +kernel)) ggX3_tellNumber_X3_tellByte
theorem dX3_tellNumber_0 : decode cX3_tellNumber 0 = .ok (.lconst 1, 1) := by decide +kernel
theorem dX3_tellNumber_1 : decode cX3_tellNumber 1 = .ok (.lstore_n 3, 1) := by decide +kernel
theorem dX3_tellNumber_2 : decode cX3_tellNumber 2 = .ok (.iconst 1, 1) := by decide +kernel
theorem dX3_tellNumber_3 : decode cX3_tellNumber 3 = .ok (.istore 5, 2) := by decide +kernel
theorem dX3_tellNumber_5 : decode cX3_tellNumber 5 = .ok (.iload 5, 2) := by decide +kernel
theorem dX3_tellNumber_7 : decode cX3_tellNumber 7 = .ok (.bipush 9, 2) := by decide +kernel
theorem dX3_tellNumber_9 : decode cX3_tellNumber 9 = .ok (.if_icmp .ge 25, 3) := by decide +kernel
theorem dX3_tellNumber_12 : decode cX3_tellNumber 12 = .ok (.lload_n 1, 1) := by decide +kernel
theorem dX3_tellNumber_13 : decode cX3_tellNumber 13 = .ok (.lload_n 3, 1) := by decide +kernel
theorem dX3_tellNumber_14 : decode cX3_tellNumber 14 = .ok (.ldiv, 1) := by decide +kernel
theorem dX3_tellNumber_15 : decode cX3_tellNumber 15 = .ok (.ldc2_w 139, 3) := by decide +kernel
theorem dX3_tellNumber_18 : decode cX3_tellNumber 18 = .ok (.lcmp, 1) := by decide +kernel
theorem dX3_tellNumber_19 : decode cX3_tellNumber 19 = .ok (.ifCond .lt 15, 3) := by decide +kernel
theorem dX3_tellNumber_22 : decode cX3_tellNumber 22 = .ok (.lload_n 3, 1) := by decide +kernel
theorem dX3_tellNumber_23 : decode cX3_tellNumber 23 = .ok (.ldc2_w 139, 3) := by decide +kernel
theorem dX3_tellNumber_26 : decode cX3_tellNumber 26 = .ok (.lmul, 1) := by decide +kernel
theorem dX3_tellNumber_27 : decode cX3_tellNumber 27 = .ok (.lstore_n 3, 1) := by decide +kernel
theorem dX3_tellNumber_28 : decode cX3_tellNumber 28 = .ok (.iinc 5 1, 3) := by decide +kernel
theorem dX3_tellNumber_31 : decode cX3_tellNumber 31 = .ok (.goto (-26), 3) := by decide +kernel
theorem dX3_tellNumber_34 : decode cX3_tellNumber 34 = .ok (.iconst 0, 1) := by decide +kernel
theorem dX3_tellNumber_35 : decode cX3_tellNumber 35 = .ok (.istore 5, 2) := by decide +kernel
theorem dX3_tellNumber_37 : decode cX3_tellNumber 37 = .ok (.iload 5, 2) := by decide +kernel
theorem dX3_tellNumber_39 : decode cX3_tellNumber 39 = .ok (.bipush 9, 2) := by decide +kernel
theorem dX3_tellNumber_41 : decode cX3_tellNumber 41 = .ok (.if_icmp .ge 36, 3) := by decide +kernel
theorem dX3_tellNumber_44 : decode cX3_tellNumber 44 = .ok (.lload_n 3, 1) := by decide +kernel
theorem dX3_tellNumber_45 : decode cX3_tellNumber 45 = .ok (.lconst 0, 1) := by decide +kernel
theorem dX3_tellNumber_46 : decode cX3_tellNumber 46 = .ok (.lcmp, 1) := by decide +kernel
theorem dX3_tellNumber_47 : decode cX3_tellNumber 47 = .ok (.ifCond .le 30, 3) := by decide +kernel
theorem dX3_tellNumber_50 : decode cX3_tellNumber 50 = .ok (.aload_n 0, 1) := by decide +kernel
theorem dX3_tellNumber_51 : decode cX3_tellNumber 51 = .ok (.bipush 48, 2) := by decide +kernel
theorem dX3_tellNumber_53 : decode cX3_tellNumber 53 = .ok (.lload_n 1, 1) := by decide +kernel
theorem dX3_tellNumber_54 : decode cX3_tellNumber 54 = .ok (.lload_n 3, 1) := by decide +kernel
theorem dX3_tellNumber_55 : decode cX3_tellNumber 55 = .ok (.ldiv, 1) := by decide +kernel
theorem dX3_tellNumber_56 : decode cX3_tellNumber 56 = .ok (.ldc2_w 139, 3) := by decide +kernel
theorem dX3_tellNumber_59 : decode cX3_tellNumber 59 = .ok (.lrem, 1) := by decide +kernel
theorem dX3_tellNumber_60 : decode cX3_tellNumber 60 = .ok (.l2i, 1) := by decide +kernel
theorem dX3_tellNumber_61 : decode cX3_tellNumber 61 = .ok (.iadd, 1) := by decide +kernel
theorem dX3_tellNumber_62 : decode cX3_tellNumber 62 = .ok (.invokevirtual 135, 3) := by decide +kernel
theorem dX3_tellNumber_65 : decode cX3_tellNumber 65 = .ok (.lload_n 3, 1) := by decide +kernel
theorem dX3_tellNumber_66 : decode cX3_tellNumber 66 = .ok (.ldc2_w 139, 3) := by decide +kernel
theorem dX3_tellNumber_69 : decode cX3_tellNumber 69 = .ok (.ldiv, 1) := by decide +kernel
theorem dX3_tellNumber_70 : decode cX3_tellNumber 70 = .ok (.lstore_n 3, 1) := by decide +kernel
theorem dX3_tellNumber_71 : decode cX3_tellNumber 71 = .ok (.iinc 5 1, 3) := by decide +kernel
theorem dX3_tellNumber_74 : decode cX3_tellNumber 74 = .ok (.goto (-37), 3) := by decide +kernel
theorem dX3_tellNumber_77 : decode cX3_tellNumber 77 = .ok (.aload_n 0, 1) := by decide +kernel
theorem dX3_tellNumber_78 : decode cX3_tellNumber 78 = .ok (.bipush 32, 2) := by decide +kernel
theorem dX3_tellNumber_80 : decode cX3_tellNumber 80 = .ok (.invokevirtual 135, 3) := by decide +kernel
theorem dX3_tellNumber_83 : decode cX3_tellNumber 83 = .ok (.return_, 1) := by decide +kernel
theorem dX3_tellByte_0 : decode cX3_tellByte 0 = .ok (.aload_n 0, 1) := by decide +kernel
theorem dX3_tellByte_1 : decode cX3_tellByte 1 = .ok (.getfield 9, 3) := by decide +kernel
theorem dX3_tellByte_4 : decode cX3_tellByte 4 = .ok (.ifCond .ne 8, 3) := by decide +kernel
theorem dX3_tellByte_7 : decode cX3_tellByte 7 = .ok (.aload_n 0, 1) := by decide +kernel
theorem dX3_tellByte_8 : decode cX3_tellByte 8 = .ok (.iload_n 1, 1) := by decide +kernel
theorem dX3_tellByte_9 : decode cX3_tellByte 9 = .ok (.putfield 15, 3) := by decide +kernel
theorem dX3_tellByte_12 : decode cX3_tellByte 12 = .ok (.aload_n 0, 1) := by decide +kernel
theorem dX3_tellByte_13 : decode cX3_tellByte 13 = .ok (.dup, 1) := by decide +kernel
theorem dX3_tellByte_14 : decode cX3_tellByte 14 = .ok (.getfield 9, 3) := by decide +kernel
theorem dX3_tellByte_17 : decode cX3_tellByte 17 = .ok (.iconst 1, 1) := by decide +kernel
theorem dX3_tellByte_18 : decode cX3_tellByte 18 = .ok (.isub, 1) := by decide +kernel
theorem dX3_tellByte_19 : decode cX3_tellByte 19 = .ok (.putfield 9, 3) := by decide +kernel
theorem dX3_tellByte_22 : decode cX3_tellByte 22 = .ok (.return_, 1) := by decide +kernel
end
section
set_option maxRecDepth 20000 in
theorem ggX5_init_X2_init : GoodIn wsX5_init wsX2_init := goodIn_r _ [19, 20, 2, 3, 21, 22, 23, 24, 43, 44, 45, 46, 47] (by decide +kernel) (by decide +kernel)
set_option maxRecDepth 20000 in
theorem gX5_init_X2_init : GoodIn wsX5_init (wsX2_init) := ggX5_init_X2_init
set_option maxRecDepth 20000 in
theorem ggX5_init_X3_init : GoodIn wsX5_init wsX3_init := goodIn_r _ [26, 27, 2, 3] (by decide +kernel) (by decide +kernel)
set_option maxRecDepth 20000 in
theorem gX5_init_X3_init_n18 : GoodIn wsX5_init (wsX3_init) := ggX5_init_X3_init
set_option maxRecDepth 20000 in
theorem ggX5_init_X1_init : GoodIn wsX5_init wsX1_init := goodIn_r _ [30, 31, 2, 3, 23, 32, 33, 34, 35, 36, 37, 38, 39, 40, 41, 42, 54, 55, 56, 57, 58, 59, 60, 61, 62, 63, 64, 65] (by decide +kernel) (by decide +kernel)
set_option maxRecDepth 20000 in
theorem gX5_init_X1_init : GoodIn wsX5_init (wsX1_init) := ggX5_init_X1_init
theorem dX5_init_0 : decode cX5_init 0 = .ok (.aload_n 0, 1) := by decide +kernel
theorem dX5_init_1 : decode cX5_init 1 = .ok (.invokespecial 1, 3) := by decide +kernel
theorem dX5_init_4 : decode cX5_init 4 = .ok (.aload_n 0, 1) := by decide +kernel
theorem dX5_init_5 : decode cX5_init 5 = .ok (.new 7, 3) := by decide +kernel
theorem dX5_init_8 : decode cX5_init 8 = .ok (.dup, 1) := by decide +kernel
theorem dX5_init_9 : decode cX5_init 9 = .ok (.invokespecial 9, 3) := by decide +kernel
theorem dX5_init_12 : decode cX5_init 12 = .ok (.putfield 10, 3) := by decide +kernel
theorem dX5_init_15 : decode cX5_init 15 = .ok (.aload_n 0, 1) := by decide +kernel
theorem dX5_init_16 : decode cX5_init 16 = .ok (.new 16, 3) := by decide +kernel
theorem dX5_init_19 : decode cX5_init 19 = .ok (.dup, 1) := by decide +kernel
theorem dX5_init_20 : decode cX5_init 20 = .ok (.invokespecial 18, 3) := by decide +kernel
theorem dX5_init_23 : decode cX5_init 23 = .ok (.putfield 19, 3) := by decide +kernel
theorem dX5_init_26 : decode cX5_init 26 = .ok (.aload_n 0, 1) := by decide +kernel
theorem dX5_init_27 : decode cX5_init 27 = .ok (.new 23, 3) := by decide +kernel
theorem dX5_init_30 : decode cX5_init 30 = .ok (.dup, 1) := by decide +kernel
theorem dX5_init_31 : decode cX5_init 31 = .ok (.invokespecial 25, 3) := by decide +kernel
theorem dX5_init_34 : decode cX5_init 34 = .ok (.putfield 26, 3) := by decide +kernel
theorem dX5_init_37 : decode cX5_init 37 = .ok (.aload_n 0, 1) := by decide +kernel
theorem dX5_init_38 : decode cX5_init 38 = .ok (.new 23, 3) := by decide +kernel
theorem dX5_init_41 : decode cX5_init 41 = .ok (.dup, 1) := by decide +kernel
theorem dX5_init_42 : decode cX5_init 42 = .ok (.invokespecial 25, 3) := by decide +kernel
theorem dX5_init_45 : decode cX5_init 45 = .ok (.putfield 30, 3) := by decide +kernel
theorem dX5_init_48 : decode cX5_init 48 = .ok (.return_, 1) := by decide +kernel
set_option maxRecDepth 20000 in
theorem ggX5_unit_X2_take : GoodIn wsX5_unit wsX2_take := goodIn_r _ [6, 7, 8, 13, 14, 15, 16, 17] (by decide +kernel) (by decide +kernel)
set_option maxRecDepth 20000 in
theorem gX5_unit_X2_take : GoodIn wsX5_unit (wsV RX5 33 RX2 yX2_take wsX2_take) := goodIn_app (goodIn_of _ (by decide +kernel)) ggX5_unit_X2_take
theorem dX5_unit_0 : decode cX5_unit 0 = .ok (.aload_n 0, 1) := by decide +kernel
theorem dX5_unit_1 : decode cX5_unit 1 = .ok (.getfield 10, 3) := by decide +kernel
theorem dX5_unit_4 : decode cX5_unit 4 = .ok (.iload_n 1, 1) := by decide +kernel
theorem dX5_unit_5 : decode cX5_unit 5 = .ok (.invokevirtual 33, 3) := by decide +kernel
theorem dX5_unit_8 : decode cX5_unit 8 = .ok (.ireturn, 1) := by decide +kernel
set_option maxRecDepth 20000 in
theorem ggX5_read_X1_clear : GoodIn wsX5_read wsX1_clear := goodIn_r _ [9, 10, 11, 212, 213, 214, 215, 216, 217, 218, 219, 220, 221, 222, 223] (by decide +kernel) (by decide +kernel)
set_option maxRecDepth 20000 in
theorem gX5_read_X1_clear : GoodIn wsX5_read (wsV RX5 37 RX1 yX1_clear wsX1_clear) := goodIn_app (goodIn_of _ (by decide +kernel)) ggX5_read_X1_clear
set_option maxRecDepth 20000 in
theorem ggX5_read_X2_readAll : GoodIn wsX5_read wsX2_readAll := goodIn_r _ [16, 17, 18, 19, 20, 21, 15, 22, 23, 24, 25, 26, 27, 28, 29, 30, 31, 32, 33, 34, 35, 36, 37, 38, 39, 40, 41, 42, 43, 44, 45, 46, 47, 48, 49, 50, 51, 52, 53, 54, 55, 56, 57, 58, 59, 60, 61, 62, 63, 64, 65, 66, 67, 68, 69, 70, 71, 72, 73, 74, 75, 76, 77, 78, 79, 80, 81, 82, 83, 84, 85, 86, 87, 88, 89, 90, 91, 92, 93, 94, 95, 96, 97, 98, 99, 8, 100, 101, 102, 103, 104, 105, 106, 107, 108, 109, 110, 111, 112, 10, 113, 114, 115, 116, 117, 118, 119, 120, 121, 122, 123, 124, 125, 126, 127, 128, 129, 130, 131, 132, 133, 134, 135, 136, 137, 138, 139, 11, 140, 141, 142, 143, 144, 145, 146, 147, 148, 149, 150, 151, 152, 153, 154, 155, 156, 157, 158, 159, 160, 161, 162, 163, 164, 165, 166, 167, 168, 169, 170, 171, 172, 173, 174, 175, 176, 177, 178, 179, 180, 181, 182, 183, 184, 185, 186, 187, 188, 189, 190, 191, 192, 193, 194, 195, 196, 197, 198, 199, 224, 225, 226, 227, 228, 212, 213, 214, 215, 216, 217, 218, 219, 220, 221, 222, 223] (by decide +kernel) (by decide +kernel)
set_option maxRecDepth 20000 in
theorem gX5_read_X2_readAll : GoodIn wsX5_read (wsV RX5 40 RX2 yX2_readAll wsX2_readAll) := goodIn_app (goodIn_of _ (by decide +kernel)) ggX5_read_X2_readAll
set_option maxRecDepth 20000 in
theorem ggX5_read_X2_wordBegin : GoodIn wsX5_read wsX2_wordBegin := goodIn_r _ [203, 17, 224, 225, 226, 227, 228] (by decide +kernel) (by decide +kernel)
set_option maxRecDepth 20000 in
theorem gX5_read_X2_wordBegin : GoodIn wsX5_read (wsV RX5 44 RX2 yX2_wordBegin wsX2_wordBegin) := goodIn_app (goodIn_of _ (by decide +kernel)) ggX5_read_X2_wordBegin
set_option maxRecDepth 20000 in
theorem ggX5_read_X2_clear : GoodIn wsX5_read wsX2_clear := goodIn_r _ [207, 23, 224, 225, 226, 227, 228] (by decide +kernel) (by decide +kernel)
set_option maxRecDepth 20000 in
theorem gX5_read_X2_clear : GoodIn wsX5_read (wsV RX5 48 RX2 yX2_clear wsX2_clear) := goodIn_app (goodIn_of _ (by decide +kernel)) ggX5_read_X2_clear
theorem dX5_read_0 : decode cX5_read 0 = .ok (.aload_n 0, 1) := by decide +kernel
theorem dX5_read_1 : decode cX5_read 1 = .ok (.getfield 30, 3) := by decide +kernel
theorem dX5_read_4 : decode cX5_read 4 = .ok (.invokevirtual 37, 3) := by decide +kernel
theorem dX5_read_7 : decode cX5_read 7 = .ok (.aload_n 0, 1) := by decide +kernel
theorem dX5_read_8 : decode cX5_read 8 = .ok (.getfield 10, 3) := by decide +kernel
theorem dX5_read_11 : decode cX5_read 11 = .ok (.aload_n 0, 1) := by decide +kernel
theorem dX5_read_12 : decode cX5_read 12 = .ok (.getfield 30, 3) := by decide +kernel
theorem dX5_read_15 : decode cX5_read 15 = .ok (.invokevirtual 40, 3) := by decide +kernel
theorem dX5_read_18 : decode cX5_read 18 = .ok (.istore_n 1, 1) := by decide +kernel
theorem dX5_read_19 : decode cX5_read 19 = .ok (.aload_n 0, 1) := by decide +kernel
theorem dX5_read_20 : decode cX5_read 20 = .ok (.getfield 10, 3) := by decide +kernel
theorem dX5_read_23 : decode cX5_read 23 = .ok (.invokevirtual 44, 3) := by decide +kernel
theorem dX5_read_26 : decode cX5_read 26 = .ok (.istore_n 2, 1) := by decide +kernel
theorem dX5_read_27 : decode cX5_read 27 = .ok (.aload_n 0, 1) := by decide +kernel
theorem dX5_read_28 : decode cX5_read 28 = .ok (.getfield 10, 3) := by decide +kernel
theorem dX5_read_31 : decode cX5_read 31 = .ok (.invokevirtual 48, 3) := by decide +kernel
theorem dX5_read_34 : decode cX5_read 34 = .ok (.iload_n 1, 1) := by decide +kernel
theorem dX5_read_35 : decode cX5_read 35 = .ok (.ifCond .ne 7, 3) := by decide +kernel
theorem dX5_read_38 : decode cX5_read 38 = .ok (.iconst (-1), 1) := by decide +kernel
theorem dX5_read_39 : decode cX5_read 39 = .ok (.iload_n 2, 1) := by decide +kernel
theorem dX5_read_40 : decode cX5_read 40 = .ok (.isub, 1) := by decide +kernel
theorem dX5_read_41 : decode cX5_read 41 = .ok (.ireturn, 1) := by decide +kernel
theorem dX5_read_42 : decode cX5_read 42 = .ok (.aload_n 0, 1) := by decide +kernel
theorem dX5_read_43 : decode cX5_read 43 = .ok (.getfield 26, 3) := by decide +kernel
theorem dX5_read_46 : decode cX5_read 46 = .ok (.astore_n 3, 1) := by decide +kernel
theorem dX5_read_47 : decode cX5_read 47 = .ok (.aload_n 0, 1) := by decide +kernel
theorem dX5_read_48 : decode cX5_read 48 = .ok (.aload_n 0, 1) := by decide +kernel
theorem dX5_read_49 : decode cX5_read 49 = .ok (.getfield 30, 3) := by decide +kernel
theorem dX5_read_52 : decode cX5_read 52 = .ok (.putfield 26, 3) := by decide +kernel
theorem dX5_read_55 : decode cX5_read 55 = .ok (.aload_n 0, 1) := by decide +kernel
theorem dX5_read_56 : decode cX5_read 56 = .ok (.aload_n 3, 1) := by decide +kernel
theorem dX5_read_57 : decode cX5_read 57 = .ok (.putfield 30, 3) := by decide +kernel
theorem dX5_read_60 : decode cX5_read 60 = .ok (.aload_n 0, 1) := by decide +kernel
theorem dX5_read_61 : decode cX5_read 61 = .ok (.getfield 26, 3) := by decide +kernel
theorem dX5_read_64 : decode cX5_read 64 = .ok (.getfield 49, 3) := by decide +kernel
theorem dX5_read_67 : decode cX5_read 67 = .ok (.ireturn, 1) := by decide +kernel
set_option maxRecDepth 20000 in
theorem ggX5_part_X1_addPart : GoodIn wsX5_part wsX1_addPart := goodIn_r _ [6, 7, 8, 9, 10, 11, 12, 13, 14, 15, 16, 17, 5, 18, 19, 20, 21, 22, 23, 24, 25, 30, 31, 32, 33, 34, 35, 36, 37, 38, 39, 40, 41] (by decide +kernel) (by decide +kernel)
set_option maxRecDepth 20000 in
theorem gX5_part_X1_addPart : GoodIn wsX5_part (wsV RX5 53 RX1 yX1_addPart wsX1_addPart) := goodIn_app (goodIn_of _ (by decide +kernel)) ggX5_part_X1_addPart
theorem dX5_part_0 : decode cX5_part 0 = .ok (.aload_n 0, 1) := by decide +kernel
theorem dX5_part_1 : decode cX5_part 1 = .ok (.getfield 26, 3) := by decide +kernel
theorem dX5_part_4 : decode cX5_part 4 = .ok (.iload_n 1, 1) := by decide +kernel
theorem dX5_part_5 : decode cX5_part 5 = .ok (.lload_n 2, 1) := by decide +kernel
theorem dX5_part_6 : decode cX5_part 6 = .ok (.invokevirtual 53, 3) := by decide +kernel
theorem dX5_part_9 : decode cX5_part 9 = .ok (.ireturn, 1) := by decide +kernel
set_option maxRecDepth 20000 in
theorem ggX5_fasten_X1_addFastening : GoodIn wsX5_fasten wsX1_addFastening := goodIn_r _ [6, 7, 8, 9, 10, 11, 12, 13, 5, 14, 15, 16, 17, 18, 19, 20, 21, 22, 27, 28, 29, 30, 31, 32, 33, 34, 35, 36, 37, 38] (by decide +kernel) (by decide +kernel)
set_option maxRecDepth 20000 in
theorem gX5_fasten_X1_addFastening : GoodIn wsX5_fasten (wsV RX5 57 RX1 yX1_addFastening wsX1_addFastening) := goodIn_app (goodIn_of _ (by decide +kernel)) ggX5_fasten_X1_addFastening
theorem dX5_fasten_0 : decode cX5_fasten 0 = .ok (.aload_n 0, 1) := by decide +kernel
theorem dX5_fasten_1 : decode cX5_fasten 1 = .ok (.getfield 26, 3) := by decide +kernel
theorem dX5_fasten_4 : decode cX5_fasten 4 = .ok (.iload_n 1, 1) := by decide +kernel
theorem dX5_fasten_5 : decode cX5_fasten 5 = .ok (.iload_n 2, 1) := by decide +kernel
theorem dX5_fasten_6 : decode cX5_fasten 6 = .ok (.iload_n 3, 1) := by decide +kernel
theorem dX5_fasten_7 : decode cX5_fasten 7 = .ok (.invokevirtual 57, 3) := by decide +kernel
theorem dX5_fasten_10 : decode cX5_fasten 10 = .ok (.ireturn, 1) := by decide +kernel
set_option maxRecDepth 20000 in
theorem ggX5_cover_X1_addCover : GoodIn wsX5_cover wsX1_addCover := goodIn_r _ [6, 7, 8, 9, 10, 5, 11, 12, 13, 14, 15, 16, 17, 18, 19, 24, 25, 26, 27, 28, 29, 30, 31, 32, 33, 34, 35] (by decide +kernel) (by decide +kernel)
set_option maxRecDepth 20000 in
theorem gX5_cover_X1_addCover : GoodIn wsX5_cover (wsV RX5 61 RX1 yX1_addCover wsX1_addCover) := goodIn_app (goodIn_of _ (by decide +kernel)) ggX5_cover_X1_addCover
theorem dX5_cover_0 : decode cX5_cover 0 = .ok (.aload_n 0, 1) := by decide +kernel
theorem dX5_cover_1 : decode cX5_cover 1 = .ok (.getfield 26, 3) := by decide +kernel
theorem dX5_cover_4 : decode cX5_cover 4 = .ok (.iload_n 1, 1) := by decide +kernel
theorem dX5_cover_5 : decode cX5_cover 5 = .ok (.iload_n 2, 1) := by decide +kernel
theorem dX5_cover_6 : decode cX5_cover 6 = .ok (.invokevirtual 61, 3) := by decide +kernel
theorem dX5_cover_9 : decode cX5_cover 9 = .ok (.ireturn, 1) := by decide +kernel
set_option maxRecDepth 20000 in
theorem ggX5_way_X1_hasPart : GoodIn wsX5_way wsX1_hasPart := goodIn_r _ [9, 10, 43, 44, 45, 46, 47, 48, 49, 50, 51, 52, 53, 54] (by decide +kernel) (by decide +kernel)
set_option maxRecDepth 20000 in
theorem gX5_way_X1_hasPart : GoodIn wsX5_way (wsV RX5 65 RX1 yX1_hasPart wsX1_hasPart) := goodIn_app (goodIn_of _ (by decide +kernel)) ggX5_way_X1_hasPart
set_option maxRecDepth 20000 in
theorem ggX5_way_X5_isBelow : GoodIn wsX5_way wsX5_isBelow := goodIn_r _ [14] (by decide +kernel) (by decide +kernel)
set_option maxRecDepth 20000 in
theorem gX5_way_X5_isBelow : GoodIn wsX5_way (va_wsS RX5 68 yX5_isBelow wsX5_isBelow) := goodIn_app (goodIn_of _ (by decide +kernel)) ggX5_way_X5_isBelow
set_option maxRecDepth 20000 in
theorem ggX5_way_X1_addBar : GoodIn wsX5_way wsX1_addBar := goodIn_r _ [18, 19, 20, 21, 22, 8, 23, 24, 25, 26, 27, 10, 12, 13, 14, 28, 29, 30, 31, 32, 43, 44, 45, 46, 47, 48, 49, 50, 51, 52, 53, 54] (by decide +kernel) (by decide +kernel)
set_option maxRecDepth 20000 in
theorem gX5_way_X1_addBar : GoodIn wsX5_way (wsV RX5 78 RX1 yX1_addBar wsX1_addBar) := goodIn_app (goodIn_of _ (by decide +kernel)) ggX5_way_X1_addBar
theorem dX5_way_0 : decode cX5_way 0 = .ok (.aload_n 0, 1) := by decide +kernel
theorem dX5_way_1 : decode cX5_way 1 = .ok (.getfield 26, 3) := by decide +kernel
theorem dX5_way_4 : decode cX5_way 4 = .ok (.iload_n 1, 1) := by decide +kernel
theorem dX5_way_5 : decode cX5_way 5 = .ok (.invokevirtual 65, 3) := by decide +kernel
theorem dX5_way_8 : decode cX5_way 8 = .ok (.ifCond .eq 23, 3) := by decide +kernel
theorem dX5_way_11 : decode cX5_way 11 = .ok (.aload_n 0, 1) := by decide +kernel
theorem dX5_way_12 : decode cX5_way 12 = .ok (.getfield 26, 3) := by decide +kernel
theorem dX5_way_15 : decode cX5_way 15 = .ok (.iload_n 3, 1) := by decide +kernel
theorem dX5_way_16 : decode cX5_way 16 = .ok (.invokevirtual 65, 3) := by decide +kernel
theorem dX5_way_19 : decode cX5_way 19 = .ok (.ifCond .eq 12, 3) := by decide +kernel
theorem dX5_way_22 : decode cX5_way 22 = .ok (.iload_n 2, 1) := by decide +kernel
theorem dX5_way_23 : decode cX5_way 23 = .ok (.bipush 6, 2) := by decide +kernel
theorem dX5_way_25 : decode cX5_way 25 = .ok (.invokestatic 68, 3) := by decide +kernel
theorem dX5_way_28 : decode cX5_way 28 = .ok (.ifCond .ne 13, 3) := by decide +kernel
theorem dX5_way_31 : decode cX5_way 31 = .ok (.new 71, 3) := by decide +kernel
theorem dX5_way_34 : decode cX5_way 34 = .ok (.dup, 1) := by decide +kernel
theorem dX5_way_35 : decode cX5_way 35 = .ok (.ldc 73, 2) := by decide +kernel
theorem dX5_way_37 : decode cX5_way 37 = .ok (.invokespecial 75, 3) := by decide +kernel
theorem dX5_way_40 : decode cX5_way 40 = .ok (.athrow, 1) := by decide +kernel
theorem dX5_way_41 : decode cX5_way 41 = .ok (.aload_n 0, 1) := by decide +kernel
theorem dX5_way_42 : decode cX5_way 42 = .ok (.getfield 26, 3) := by decide +kernel
theorem dX5_way_45 : decode cX5_way 45 = .ok (.iload_n 1, 1) := by decide +kernel
theorem dX5_way_46 : decode cX5_way 46 = .ok (.iload_n 2, 1) := by decide +kernel
theorem dX5_way_47 : decode cX5_way 47 = .ok (.iload_n 3, 1) := by decide +kernel
theorem dX5_way_48 : decode cX5_way 48 = .ok (.invokevirtual 78, 3) := by decide +kernel
theorem dX5_way_51 : decode cX5_way 51 = .ok (.ireturn, 1) := by decide +kernel
set_option maxRecDepth 20000 in
theorem ggX5_before_X1_mustComeOffBefore : GoodIn wsX5_before wsX1_mustComeOffBefore := goodIn_r _ [6, 7, 8, 9, 10, 5, 11, 12, 13, 14, 15, 16, 17, 18, 19, 20, 21, 22, 23, 24, 25, 26, 27, 28, 29, 30, 31, 40, 41, 42, 43, 44, 45, 46, 47, 48, 49, 50, 51] (by decide +kernel) (by decide +kernel)
set_option maxRecDepth 20000 in
theorem gX5_before_X1_mustComeOffBefore : GoodIn wsX5_before (wsV RX5 82 RX1 yX1_mustComeOffBefore wsX1_mustComeOffBefore) := goodIn_app (goodIn_of _ (by decide +kernel)) ggX5_before_X1_mustComeOffBefore
set_option maxRecDepth 20000 in
theorem ggX5_before_X5_memberOf : GoodIn wsX5_before wsX5_memberOf := goodIn_r _ [34, 35, 26, 27, 28] (by decide +kernel) (by decide +kernel)
set_option maxRecDepth 20000 in
theorem gX5_before_X5_memberOf : GoodIn wsX5_before (va_wsS RX5 86 yX5_memberOf wsX5_memberOf) := goodIn_app (goodIn_of _ (by decide +kernel)) ggX5_before_X5_memberOf
theorem dX5_before_0 : decode cX5_before 0 = .ok (.aload_n 0, 1) := by decide +kernel
theorem dX5_before_1 : decode cX5_before 1 = .ok (.getfield 26, 3) := by decide +kernel
theorem dX5_before_4 : decode cX5_before 4 = .ok (.iload_n 1, 1) := by decide +kernel
theorem dX5_before_5 : decode cX5_before 5 = .ok (.invokevirtual 82, 3) := by decide +kernel
theorem dX5_before_8 : decode cX5_before 8 = .ok (.iload_n 2, 1) := by decide +kernel
theorem dX5_before_9 : decode cX5_before 9 = .ok (.invokestatic 86, 3) := by decide +kernel
theorem dX5_before_12 : decode cX5_before 12 = .ok (.ireturn, 1) := by decide +kernel
set_option maxRecDepth 20000 in
theorem ggX5_ring_X1_neverComingOff : GoodIn wsX5_ring wsX1_neverComingOff := goodIn_r _ [6, 7, 8, 9, 10, 5, 11, 12, 13, 14, 15, 16, 17, 18, 19, 20, 21, 22, 23, 24, 25, 26, 27, 28, 29, 30, 31, 40, 41, 42, 43, 44, 45, 46, 47, 48, 49, 50, 51] (by decide +kernel) (by decide +kernel)
set_option maxRecDepth 20000 in
theorem gX5_ring_X1_neverComingOff : GoodIn wsX5_ring (wsV RX5 90 RX1 yX1_neverComingOff wsX1_neverComingOff) := goodIn_app (goodIn_of _ (by decide +kernel)) ggX5_ring_X1_neverComingOff
set_option maxRecDepth 20000 in
theorem ggX5_ring_X5_memberOf : GoodIn wsX5_ring wsX5_memberOf := goodIn_r _ [34, 35, 26, 27, 28] (by decide +kernel) (by decide +kernel)
set_option maxRecDepth 20000 in
theorem gX5_ring_X5_memberOf : GoodIn wsX5_ring (va_wsS RX5 86 yX5_memberOf wsX5_memberOf) := goodIn_app (goodIn_of _ (by decide +kernel)) ggX5_ring_X5_memberOf
theorem dX5_ring_0 : decode cX5_ring 0 = .ok (.aload_n 0, 1) := by decide +kernel
theorem dX5_ring_1 : decode cX5_ring 1 = .ok (.getfield 26, 3) := by decide +kernel
theorem dX5_ring_4 : decode cX5_ring 4 = .ok (.invokevirtual 90, 3) := by decide +kernel
theorem dX5_ring_7 : decode cX5_ring 7 = .ok (.iload_n 1, 1) := by decide +kernel
theorem dX5_ring_8 : decode cX5_ring 8 = .ok (.invokestatic 86, 3) := by decide +kernel
theorem dX5_ring_11 : decode cX5_ring 11 = .ok (.ireturn, 1) := by decide +kernel
set_option maxRecDepth 20000 in
theorem ggX5_option_X1_addOption : GoodIn wsX5_option wsX1_addOption := goodIn_r _ [6, 7, 8, 9, 10, 5, 11, 12, 13, 14, 15, 16, 17, 18, 19, 24, 25, 26, 27, 28, 29, 30, 31, 32, 33, 34, 35] (by decide +kernel) (by decide +kernel)
set_option maxRecDepth 20000 in
theorem gX5_option_X1_addOption : GoodIn wsX5_option (wsV RX5 93 RX1 yX1_addOption wsX1_addOption) := goodIn_app (goodIn_of _ (by decide +kernel)) ggX5_option_X1_addOption
theorem dX5_option_0 : decode cX5_option 0 = .ok (.aload_n 0, 1) := by decide +kernel
theorem dX5_option_1 : decode cX5_option 1 = .ok (.getfield 26, 3) := by decide +kernel
theorem dX5_option_4 : decode cX5_option 4 = .ok (.iload_n 1, 1) := by decide +kernel
theorem dX5_option_5 : decode cX5_option 5 = .ok (.iload_n 2, 1) := by decide +kernel
theorem dX5_option_6 : decode cX5_option 6 = .ok (.invokevirtual 93, 3) := by decide +kernel
theorem dX5_option_9 : decode cX5_option 9 = .ok (.ireturn, 1) := by decide +kernel
set_option maxRecDepth 20000 in
theorem ggX5_family_X1_variant : GoodIn wsX5_family wsX1_variant := goodIn_r _ [6, 7, 8, 9, 5, 10, 11, 12, 13, 14, 15, 16, 17, 18, 19, 20, 21, 22, 23, 24, 25, 31, 32, 33, 34, 35, 36, 37, 38, 39, 40, 41, 42] (by decide +kernel) (by decide +kernel)
set_option maxRecDepth 20000 in
theorem gX5_family_X1_variant : GoodIn wsX5_family (wsV RX5 96 RX1 yX1_variant wsX1_variant) := goodIn_app (goodIn_of _ (by decide +kernel)) ggX5_family_X1_variant
set_option maxRecDepth 20000 in
theorem ggX5_family_X5_memberOf : GoodIn wsX5_family wsX5_memberOf := goodIn_r _ [22, 23, 24, 21, 25] (by decide +kernel) (by decide +kernel)
set_option maxRecDepth 20000 in
theorem gX5_family_X5_memberOf : GoodIn wsX5_family (va_wsS RX5 86 yX5_memberOf wsX5_memberOf) := goodIn_app (goodIn_of _ (by decide +kernel)) ggX5_family_X5_memberOf
theorem dX5_family_0 : decode cX5_family 0 = .ok (.aload_n 0, 1) := by decide +kernel
theorem dX5_family_1 : decode cX5_family 1 = .ok (.getfield 26, 3) := by decide +kernel
theorem dX5_family_4 : decode cX5_family 4 = .ok (.iload_n 1, 1) := by decide +kernel
theorem dX5_family_5 : decode cX5_family 5 = .ok (.invokevirtual 96, 3) := by decide +kernel
theorem dX5_family_8 : decode cX5_family 8 = .ok (.iload_n 2, 1) := by decide +kernel
theorem dX5_family_9 : decode cX5_family 9 = .ok (.invokestatic 86, 3) := by decide +kernel
theorem dX5_family_12 : decode cX5_family 12 = .ok (.ireturn, 1) := by decide +kernel
set_option maxRecDepth 20000 in
theorem ggX5_holds_X1_hasPart : GoodIn wsX5_holds wsX1_hasPart := goodIn_r _ [6, 7, 24, 25, 26, 27, 28, 29, 30, 31, 32, 33, 34, 35] (by decide +kernel) (by decide +kernel)
set_option maxRecDepth 20000 in
theorem gX5_holds_X1_hasPart : GoodIn wsX5_holds (wsV RX5 65 RX1 yX1_hasPart wsX1_hasPart) := goodIn_app (goodIn_of _ (by decide +kernel)) ggX5_holds_X1_hasPart
set_option maxRecDepth 20000 in
theorem ggX5_holds_X1_piece : GoodIn wsX5_holds wsX1_piece := goodIn_r _ [11, 12, 13, 14, 15, 3, 4, 5, 6, 7, 16, 17, 18, 24, 25, 26, 27, 28, 29, 30, 31, 32, 33, 34, 35] (by decide +kernel) (by decide +kernel)
set_option maxRecDepth 20000 in
theorem gX5_holds_X1_piece : GoodIn wsX5_holds (wsV RX5 99 RX1 yX1_piece wsX1_piece) := goodIn_app (goodIn_of _ (by decide +kernel)) ggX5_holds_X1_piece
set_option maxRecDepth 20000 in
theorem ggX5_holds_X5_contains : GoodIn wsX5_holds wsX5_contains := goodIn_r _ [18] (by decide +kernel) (by decide +kernel)
set_option maxRecDepth 20000 in
theorem gX5_holds_X5_contains : GoodIn wsX5_holds (va_wsS RX5 102 yX5_contains wsX5_contains) := goodIn_app (goodIn_of _ (by decide +kernel)) ggX5_holds_X5_contains
theorem dX5_holds_0 : decode cX5_holds 0 = .ok (.aload_n 0, 1) := by decide +kernel
theorem dX5_holds_1 : decode cX5_holds 1 = .ok (.getfield 26, 3) := by decide +kernel
theorem dX5_holds_4 : decode cX5_holds 4 = .ok (.iload_n 2, 1) := by decide +kernel
theorem dX5_holds_5 : decode cX5_holds 5 = .ok (.invokevirtual 65, 3) := by decide +kernel
theorem dX5_holds_8 : decode cX5_holds 8 = .ok (.ifCond .eq 23, 3) := by decide +kernel
theorem dX5_holds_11 : decode cX5_holds 11 = .ok (.aload_n 0, 1) := by decide +kernel
theorem dX5_holds_12 : decode cX5_holds 12 = .ok (.getfield 26, 3) := by decide +kernel
theorem dX5_holds_15 : decode cX5_holds 15 = .ok (.iload_n 1, 1) := by decide +kernel
theorem dX5_holds_16 : decode cX5_holds 16 = .ok (.iload_n 3, 1) := by decide +kernel
theorem dX5_holds_17 : decode cX5_holds 17 = .ok (.invokevirtual 99, 3) := by decide +kernel
theorem dX5_holds_20 : decode cX5_holds 20 = .ok (.iload_n 2, 1) := by decide +kernel
theorem dX5_holds_21 : decode cX5_holds 21 = .ok (.invokestatic 102, 3) := by decide +kernel
theorem dX5_holds_24 : decode cX5_holds 24 = .ok (.ifCond .eq 7, 3) := by decide +kernel
theorem dX5_holds_27 : decode cX5_holds 27 = .ok (.iconst 1, 1) := by decide +kernel
theorem dX5_holds_28 : decode cX5_holds 28 = .ok (.goto 4, 3) := by decide +kernel
theorem dX5_holds_31 : decode cX5_holds 31 = .ok (.iconst 0, 1) := by decide +kernel
theorem dX5_holds_32 : decode cX5_holds 32 = .ok (.ireturn, 1) := by decide +kernel
set_option maxRecDepth 20000 in
theorem ggX5_alike_X1_partsLike : GoodIn wsX5_alike wsX1_partsLike := goodIn_r _ [6, 7, 8, 9, 10, 11, 12, 13, 5, 14, 26, 27, 28, 29, 30, 31, 32, 33, 34, 35, 36, 37] (by decide +kernel) (by decide +kernel)
set_option maxRecDepth 20000 in
theorem gX5_alike_X1_partsLike : GoodIn wsX5_alike (wsV RX5 105 RX1 yX1_partsLike wsX1_partsLike) := goodIn_app (goodIn_of _ (by decide +kernel)) ggX5_alike_X1_partsLike
set_option maxRecDepth 20000 in
theorem ggX5_alike_X5_memberOf : GoodIn wsX5_alike wsX5_memberOf := goodIn_r _ [18, 19, 20, 17, 21] (by decide +kernel) (by decide +kernel)
set_option maxRecDepth 20000 in
theorem gX5_alike_X5_memberOf : GoodIn wsX5_alike (va_wsS RX5 86 yX5_memberOf wsX5_memberOf) := goodIn_app (goodIn_of _ (by decide +kernel)) ggX5_alike_X5_memberOf
theorem dX5_alike_0 : decode cX5_alike 0 = .ok (.aload_n 0, 1) := by decide +kernel
theorem dX5_alike_1 : decode cX5_alike 1 = .ok (.getfield 26, 3) := by decide +kernel
theorem dX5_alike_4 : decode cX5_alike 4 = .ok (.iload_n 1, 1) := by decide +kernel
theorem dX5_alike_5 : decode cX5_alike 5 = .ok (.invokevirtual 105, 3) := by decide +kernel
theorem dX5_alike_8 : decode cX5_alike 8 = .ok (.iload_n 2, 1) := by decide +kernel
theorem dX5_alike_9 : decode cX5_alike 9 = .ok (.invokestatic 86, 3) := by decide +kernel
theorem dX5_alike_12 : decode cX5_alike 12 = .ok (.ireturn, 1) := by decide +kernel
set_option maxRecDepth 20000 in
theorem ggX5_weight_X1_hasPart : GoodIn wsX5_weight wsX1_hasPart := goodIn_r _ [9, 10, 37, 38, 39, 40, 41, 42, 43, 44, 45, 46, 47, 48] (by decide +kernel) (by decide +kernel)
set_option maxRecDepth 20000 in
theorem gX5_weight_X1_hasPart : GoodIn wsX5_weight (wsV RX5 65 RX1 yX1_hasPart wsX1_hasPart) := goodIn_app (goodIn_of _ (by decide +kernel)) ggX5_weight_X1_hasPart
set_option maxRecDepth 20000 in
theorem ggX5_weight_X1_piece : GoodIn wsX5_weight wsX1_piece := goodIn_r _ [14, 15, 16, 17, 18, 6, 7, 8, 9, 10, 19, 20, 21, 37, 38, 39, 40, 41, 42, 43, 44, 45, 46, 47, 48] (by decide +kernel) (by decide +kernel)
set_option maxRecDepth 20000 in
theorem gX5_weight_X1_piece : GoodIn wsX5_weight (wsV RX5 99 RX1 yX1_piece wsX1_piece) := goodIn_app (goodIn_of _ (by decide +kernel)) ggX5_weight_X1_piece
set_option maxRecDepth 20000 in
theorem ggX5_weight_X1_gramsOf : GoodIn wsX5_weight wsX1_gramsOf := goodIn_r _ [25, 10, 26, 19, 20, 21, 37, 38, 39, 40, 41, 42, 43, 44, 45, 46, 47, 48] (by decide +kernel) (by decide +kernel)
set_option maxRecDepth 20000 in
theorem gX5_weight_X1_gramsOf : GoodIn wsX5_weight (wsV RX5 110 RX1 yX1_gramsOf wsX1_gramsOf) := goodIn_app (goodIn_of _ (by decide +kernel)) ggX5_weight_X1_gramsOf
theorem dX5_weight_0 : decode cX5_weight 0 = .ok (.aload_n 0, 1) := by decide +kernel
theorem dX5_weight_1 : decode cX5_weight 1 = .ok (.getfield 26, 3) := by decide +kernel
theorem dX5_weight_4 : decode cX5_weight 4 = .ok (.iload_n 1, 1) := by decide +kernel
theorem dX5_weight_5 : decode cX5_weight 5 = .ok (.invokevirtual 65, 3) := by decide +kernel
theorem dX5_weight_8 : decode cX5_weight 8 = .ok (.ifCond .ne 13, 3) := by decide +kernel
theorem dX5_weight_11 : decode cX5_weight 11 = .ok (.new 71, 3) := by decide +kernel
theorem dX5_weight_14 : decode cX5_weight 14 = .ok (.dup, 1) := by decide +kernel
theorem dX5_weight_15 : decode cX5_weight 15 = .ok (.ldc 108, 2) := by decide +kernel
theorem dX5_weight_17 : decode cX5_weight 17 = .ok (.invokespecial 75, 3) := by decide +kernel
theorem dX5_weight_20 : decode cX5_weight 20 = .ok (.athrow, 1) := by decide +kernel
theorem dX5_weight_21 : decode cX5_weight 21 = .ok (.aload_n 0, 1) := by decide +kernel
theorem dX5_weight_22 : decode cX5_weight 22 = .ok (.getfield 26, 3) := by decide +kernel
theorem dX5_weight_25 : decode cX5_weight 25 = .ok (.aload_n 0, 1) := by decide +kernel
theorem dX5_weight_26 : decode cX5_weight 26 = .ok (.getfield 26, 3) := by decide +kernel
theorem dX5_weight_29 : decode cX5_weight 29 = .ok (.iload_n 1, 1) := by decide +kernel
theorem dX5_weight_30 : decode cX5_weight 30 = .ok (.iconst 0, 1) := by decide +kernel
theorem dX5_weight_31 : decode cX5_weight 31 = .ok (.invokevirtual 99, 3) := by decide +kernel
theorem dX5_weight_34 : decode cX5_weight 34 = .ok (.invokevirtual 110, 3) := by decide +kernel
theorem dX5_weight_37 : decode cX5_weight 37 = .ok (.lreturn, 1) := by decide +kernel
set_option maxRecDepth 20000 in
theorem ggX5_hazard_X1_addHazard : GoodIn wsX5_hazard wsX1_addHazard := goodIn_r _ [6, 7, 8, 9, 10, 5, 11, 12, 13, 14, 15, 16, 17, 18, 19, 20, 21, 26, 27, 28, 29, 30, 31, 32, 33, 34, 35, 36, 37] (by decide +kernel) (by decide +kernel)
set_option maxRecDepth 20000 in
theorem gX5_hazard_X1_addHazard : GoodIn wsX5_hazard (wsV RX5 114 RX1 yX1_addHazard wsX1_addHazard) := goodIn_app (goodIn_of _ (by decide +kernel)) ggX5_hazard_X1_addHazard
theorem dX5_hazard_0 : decode cX5_hazard 0 = .ok (.aload_n 0, 1) := by decide +kernel
theorem dX5_hazard_1 : decode cX5_hazard 1 = .ok (.getfield 26, 3) := by decide +kernel
theorem dX5_hazard_4 : decode cX5_hazard 4 = .ok (.iload_n 1, 1) := by decide +kernel
theorem dX5_hazard_5 : decode cX5_hazard 5 = .ok (.iload_n 2, 1) := by decide +kernel
theorem dX5_hazard_6 : decode cX5_hazard 6 = .ok (.invokevirtual 114, 3) := by decide +kernel
theorem dX5_hazard_9 : decode cX5_hazard 9 = .ok (.ireturn, 1) := by decide +kernel
set_option maxRecDepth 20000 in
theorem ggX5_damage_X1_setDamage : GoodIn wsX5_damage wsX1_setDamage := goodIn_r _ [6, 7, 8, 9, 10, 5, 11, 12, 13, 14, 15, 16, 17, 18, 19, 24, 25, 26, 27, 28, 29, 30, 31, 32, 33, 34, 35] (by decide +kernel) (by decide +kernel)
set_option maxRecDepth 20000 in
theorem gX5_damage_X1_setDamage : GoodIn wsX5_damage (wsV RX5 117 RX1 yX1_setDamage wsX1_setDamage) := goodIn_app (goodIn_of _ (by decide +kernel)) ggX5_damage_X1_setDamage
theorem dX5_damage_0 : decode cX5_damage 0 = .ok (.aload_n 0, 1) := by decide +kernel
theorem dX5_damage_1 : decode cX5_damage 1 = .ok (.getfield 26, 3) := by decide +kernel
theorem dX5_damage_4 : decode cX5_damage 4 = .ok (.iload_n 1, 1) := by decide +kernel
theorem dX5_damage_5 : decode cX5_damage 5 = .ok (.iload_n 2, 1) := by decide +kernel
theorem dX5_damage_6 : decode cX5_damage 6 = .ok (.invokevirtual 117, 3) := by decide +kernel
theorem dX5_damage_9 : decode cX5_damage 9 = .ok (.ireturn, 1) := by decide +kernel
set_option maxRecDepth 20000 in
theorem ggX5_free_X5_lowBits : GoodIn wsX5_free wsX5_lowBits := goodIn_r _ [5, 6] (by decide +kernel) (by decide +kernel)
set_option maxRecDepth 20000 in
theorem gX5_free_X5_lowBits : GoodIn wsX5_free (va_wsS RX5 120 yX5_lowBits wsX5_lowBits) := goodIn_app (goodIn_of _ (by decide +kernel)) ggX5_free_X5_lowBits
set_option maxRecDepth 20000 in
theorem ggX5_free_X1_isFree : GoodIn wsX5_free wsX1_isFree := goodIn_r _ [11, 12, 13, 14, 15, 10, 16, 17, 18, 19, 20, 21, 22, 23, 4, 24, 25, 26, 27, 32, 33, 34, 35, 36, 37, 38, 39, 40, 41, 42, 43] (by decide +kernel) (by decide +kernel)
set_option maxRecDepth 20000 in
theorem gX5_free_X1_isFree : GoodIn wsX5_free (wsV RX5 124 RX1 yX1_isFree wsX1_isFree) := goodIn_app (goodIn_of _ (by decide +kernel)) ggX5_free_X1_isFree
theorem dX5_free_0 : decode cX5_free 0 = .ok (.aload_n 0, 1) := by decide +kernel
theorem dX5_free_1 : decode cX5_free 1 = .ok (.getfield 26, 3) := by decide +kernel
theorem dX5_free_4 : decode cX5_free 4 = .ok (.iload_n 1, 1) := by decide +kernel
theorem dX5_free_5 : decode cX5_free 5 = .ok (.lload_n 2, 1) := by decide +kernel
theorem dX5_free_6 : decode cX5_free 6 = .ok (.invokestatic 120, 3) := by decide +kernel
theorem dX5_free_9 : decode cX5_free 9 = .ok (.invokevirtual 124, 3) := by decide +kernel
theorem dX5_free_12 : decode cX5_free 12 = .ok (.ireturn, 1) := by decide +kernel
set_option maxRecDepth 20000 in
theorem ggX5_plain_X5_lowBits : GoodIn wsX5_plain wsX5_lowBits := goodIn_r _ [5, 6] (by decide +kernel) (by decide +kernel)
set_option maxRecDepth 20000 in
theorem gX5_plain_X5_lowBits : GoodIn wsX5_plain (va_wsS RX5 120 yX5_lowBits wsX5_lowBits) := goodIn_app (goodIn_of _ (by decide +kernel)) ggX5_plain_X5_lowBits
set_option maxRecDepth 20000 in
theorem ggX5_plain_X1_isPlain : GoodIn wsX5_plain wsX1_isPlain := goodIn_r _ [11, 12, 13, 14, 15, 10, 16, 17, 18, 4, 19, 24, 25, 26, 27, 28, 29, 30, 31, 32, 33, 34, 35] (by decide +kernel) (by decide +kernel)
set_option maxRecDepth 20000 in
theorem gX5_plain_X1_isPlain : GoodIn wsX5_plain (wsV RX5 127 RX1 yX1_isPlain wsX1_isPlain) := goodIn_app (goodIn_of _ (by decide +kernel)) ggX5_plain_X1_isPlain
theorem dX5_plain_0 : decode cX5_plain 0 = .ok (.aload_n 0, 1) := by decide +kernel
theorem dX5_plain_1 : decode cX5_plain 1 = .ok (.getfield 26, 3) := by decide +kernel
theorem dX5_plain_4 : decode cX5_plain 4 = .ok (.iload_n 1, 1) := by decide +kernel
theorem dX5_plain_5 : decode cX5_plain 5 = .ok (.lload_n 2, 1) := by decide +kernel
theorem dX5_plain_6 : decode cX5_plain 6 = .ok (.invokestatic 120, 3) := by decide +kernel
theorem dX5_plain_9 : decode cX5_plain 9 = .ok (.invokevirtual 127, 3) := by decide +kernel
theorem dX5_plain_12 : decode cX5_plain 12 = .ok (.ireturn, 1) := by decide +kernel
set_option maxRecDepth 20000 in
theorem ggX5_write_X3_byteAt : GoodIn wsX5_write wsX3_byteAt := goodIn_r _ [7, 8, 9, 10, 11, 12, 13, 6, 14, 15, 16, 17, 18, 19, 20, 21, 22, 23, 24, 25, 26, 27, 28, 29, 30, 31, 32, 33, 34, 35, 36, 37, 38, 39, 40, 41, 42, 43, 44, 45, 46, 47, 48, 49, 50, 51, 52, 53, 54, 55, 56, 57, 58, 59, 60, 61, 62, 63, 64, 65, 66, 67, 68, 69, 70, 71, 72, 73, 74, 75, 76, 77, 78, 79, 80, 81, 82, 83, 84, 85, 86, 87, 88, 89, 90, 91, 92, 93, 94, 95, 96, 97, 98, 99, 100, 101, 102, 103, 104, 105, 106, 107, 108, 109, 110, 111, 112, 113, 114, 115, 116, 117, 118, 119, 120, 121, 122, 123, 124, 125, 126, 131, 132, 133, 134, 135, 136, 137, 138, 139, 140, 141, 142, 143, 144] (by decide +kernel) (by decide +kernel)
set_option maxRecDepth 20000 in
theorem gX5_write_X3_byteAt : GoodIn wsX5_write (wsV RX5 130 RX3 yX3_byteAt wsX3_byteAt) := goodIn_app (goodIn_of _ (by decide +kernel)) ggX5_write_X3_byteAt
theorem dX5_write_0 : decode cX5_write 0 = .ok (.aload_n 0, 1) := by decide +kernel
theorem dX5_write_1 : decode cX5_write 1 = .ok (.getfield 19, 3) := by decide +kernel
theorem dX5_write_4 : decode cX5_write 4 = .ok (.aload_n 0, 1) := by decide +kernel
theorem dX5_write_5 : decode cX5_write 5 = .ok (.getfield 26, 3) := by decide +kernel
theorem dX5_write_8 : decode cX5_write 8 = .ok (.iload_n 1, 1) := by decide +kernel
theorem dX5_write_9 : decode cX5_write 9 = .ok (.invokevirtual 130, 3) := by decide +kernel
theorem dX5_write_12 : decode cX5_write 12 = .ok (.ireturn, 1) := by decide +kernel
set_option maxRecDepth 20000 in
theorem ggX5_loose_X1_pieces : GoodIn wsX5_loose wsX1_pieces := goodIn_r _ [6, 7, 8, 9, 10, 11, 12, 13, 5, 14, 15, 16, 17, 18, 19, 20, 21, 26, 27, 28, 29, 30, 31, 32, 33, 34, 35, 36, 37] (by decide +kernel) (by decide +kernel)
set_option maxRecDepth 20000 in
theorem gX5_loose_X1_pieces : GoodIn wsX5_loose (wsV RX5 134 RX1 yX1_pieces wsX1_pieces) := goodIn_app (goodIn_of _ (by decide +kernel)) ggX5_loose_X1_pieces
theorem dX5_loose_0 : decode cX5_loose 0 = .ok (.aload_n 0, 1) := by decide +kernel
theorem dX5_loose_1 : decode cX5_loose 1 = .ok (.getfield 26, 3) := by decide +kernel
theorem dX5_loose_4 : decode cX5_loose 4 = .ok (.invokevirtual 134, 3) := by decide +kernel
theorem dX5_loose_7 : decode cX5_loose 7 = .ok (.ireturn, 1) := by decide +kernel
theorem dX5_isBelow_0 : decode cX5_isBelow 0 = .ok (.iload_n 0, 1) := by decide +kernel
theorem dX5_isBelow_1 : decode cX5_isBelow 1 = .ok (.ifCond .lt 12, 3) := by decide +kernel
theorem dX5_isBelow_4 : decode cX5_isBelow 4 = .ok (.iload_n 0, 1) := by decide +kernel
theorem dX5_isBelow_5 : decode cX5_isBelow 5 = .ok (.iload_n 1, 1) := by decide +kernel
theorem dX5_isBelow_6 : decode cX5_isBelow 6 = .ok (.if_icmp .ge 7, 3) := by decide +kernel
theorem dX5_isBelow_9 : decode cX5_isBelow 9 = .ok (.iconst 1, 1) := by decide +kernel
theorem dX5_isBelow_10 : decode cX5_isBelow 10 = .ok (.goto 4, 3) := by decide +kernel
theorem dX5_isBelow_13 : decode cX5_isBelow 13 = .ok (.iconst 0, 1) := by decide +kernel
theorem dX5_isBelow_14 : decode cX5_isBelow 14 = .ok (.ireturn, 1) := by decide +kernel
theorem dX5_contains_0 : decode cX5_contains 0 = .ok (.iload_n 0, 1) := by decide +kernel
theorem dX5_contains_1 : decode cX5_contains 1 = .ok (.iload_n 1, 1) := by decide +kernel
theorem dX5_contains_2 : decode cX5_contains 2 = .ok (.ishr, 1) := by decide +kernel
theorem dX5_contains_3 : decode cX5_contains 3 = .ok (.iconst 1, 1) := by decide +kernel
theorem dX5_contains_4 : decode cX5_contains 4 = .ok (.iand, 1) := by decide +kernel
theorem dX5_contains_5 : decode cX5_contains 5 = .ok (.ifCond .eq 7, 3) := by decide +kernel
theorem dX5_contains_8 : decode cX5_contains 8 = .ok (.iconst 1, 1) := by decide +kernel
theorem dX5_contains_9 : decode cX5_contains 9 = .ok (.goto 4, 3) := by decide +kernel
theorem dX5_contains_12 : decode cX5_contains 12 = .ok (.iconst 0, 1) := by decide +kernel
theorem dX5_contains_13 : decode cX5_contains 13 = .ok (.ireturn, 1) := by decide +kernel
set_option maxRecDepth 20000 in
theorem ggX5_memberOf_X5_contains : GoodIn wsX5_memberOf wsX5_contains := goodIn_r _ [4] (by decide +kernel) (by decide +kernel)
set_option maxRecDepth 20000 in
theorem gX5_memberOf_X5_contains : GoodIn wsX5_memberOf (va_wsS RX5 102 yX5_contains wsX5_contains) := goodIn_app (goodIn_of _ (by decide +kernel)) ggX5_memberOf_X5_contains
theorem dX5_memberOf_0 : decode cX5_memberOf 0 = .ok (.iload_n 1, 1) := by decide +kernel
theorem dX5_memberOf_1 : decode cX5_memberOf 1 = .ok (.istore_n 2, 1) := by decide +kernel
theorem dX5_memberOf_2 : decode cX5_memberOf 2 = .ok (.iconst 0, 1) := by decide +kernel
theorem dX5_memberOf_3 : decode cX5_memberOf 3 = .ok (.istore_n 3, 1) := by decide +kernel
theorem dX5_memberOf_4 : decode cX5_memberOf 4 = .ok (.iload_n 3, 1) := by decide +kernel
theorem dX5_memberOf_5 : decode cX5_memberOf 5 = .ok (.bipush 10, 2) := by decide +kernel
theorem dX5_memberOf_7 : decode cX5_memberOf 7 = .ok (.if_icmp .ge 26, 3) := by decide +kernel
theorem dX5_memberOf_10 : decode cX5_memberOf 10 = .ok (.iload_n 0, 1) := by decide +kernel
theorem dX5_memberOf_11 : decode cX5_memberOf 11 = .ok (.iload_n 3, 1) := by decide +kernel
theorem dX5_memberOf_12 : decode cX5_memberOf 12 = .ok (.invokestatic 102, 3) := by decide +kernel
theorem dX5_memberOf_15 : decode cX5_memberOf 15 = .ok (.ifCond .eq 12, 3) := by decide +kernel
theorem dX5_memberOf_18 : decode cX5_memberOf 18 = .ok (.iload_n 2, 1) := by decide +kernel
theorem dX5_memberOf_19 : decode cX5_memberOf 19 = .ok (.ifCond .ne 5, 3) := by decide +kernel
theorem dX5_memberOf_22 : decode cX5_memberOf 22 = .ok (.iload_n 3, 1) := by decide +kernel
theorem dX5_memberOf_23 : decode cX5_memberOf 23 = .ok (.ireturn, 1) := by decide +kernel
theorem dX5_memberOf_24 : decode cX5_memberOf 24 = .ok (.iinc 2 (-1), 3) := by decide +kernel
theorem dX5_memberOf_27 : decode cX5_memberOf 27 = .ok (.iinc 3 1, 3) := by decide +kernel
theorem dX5_memberOf_30 : decode cX5_memberOf 30 = .ok (.goto (-26), 3) := by decide +kernel
theorem dX5_memberOf_33 : decode cX5_memberOf 33 = .ok (.iconst (-1), 1) := by decide +kernel
theorem dX5_memberOf_34 : decode cX5_memberOf 34 = .ok (.ireturn, 1) := by decide +kernel
theorem dX5_lowBits_0 : decode cX5_lowBits 0 = .ok (.lload_n 0, 1) := by decide +kernel
theorem dX5_lowBits_1 : decode cX5_lowBits 1 = .ok (.ldc2_w 137, 3) := by decide +kernel
theorem dX5_lowBits_4 : decode cX5_lowBits 4 = .ok (.land, 1) := by decide +kernel
theorem dX5_lowBits_5 : decode cX5_lowBits 5 = .ok (.l2i, 1) := by decide +kernel
theorem dX5_lowBits_6 : decode cX5_lowBits 6 = .ok (.ireturn, 1) := by decide +kernel
end
section
theorem dJx00060_init_a7421_0 : decode cJx00060_init_a7421 0 = .ok (.aload_n 0, 1) := by decide +kernel
theorem dJx00060_init_a7421_1 : decode cJx00060_init_a7421 1 = .ok (.aload_n 1, 1) := by decide +kernel
theorem dJx00060_init_a7421_2 : decode cJx00060_init_a7421 2 = .ok (.invokespecial 7, 3) := by decide +kernel
theorem dJx00060_init_a7421_5 : decode cJx00060_init_a7421 5 = .ok (.return_, 1) := by decide +kernel
theorem dJx29ce0_ordinal_8abf5_0 : decode cJx29ce0_ordinal_8abf5 0 = .ok (.aload_n 0, 1) := by decide +kernel
theorem dJx29ce0_ordinal_8abf5_1 : decode cJx29ce0_ordinal_8abf5 1 = .ok (.getfield 7, 3) := by decide +kernel
theorem dJx29ce0_ordinal_8abf5_4 : decode cJx29ce0_ordinal_8abf5 4 = .ok (.ireturn, 1) := by decide +kernel
theorem dJ6_bitCount_0f7a4_0 : decode cJ6_bitCount_0f7a4 0 = .ok (.iload_n 0, 1) := by decide +kernel
theorem dJ6_bitCount_0f7a4_1 : decode cJ6_bitCount_0f7a4 1 = .ok (.iload_n 0, 1) := by decide +kernel
theorem dJ6_bitCount_0f7a4_2 : decode cJ6_bitCount_0f7a4 2 = .ok (.iconst 1, 1) := by decide +kernel
theorem dJ6_bitCount_0f7a4_3 : decode cJ6_bitCount_0f7a4 3 = .ok (.iushr, 1) := by decide +kernel
theorem dJ6_bitCount_0f7a4_4 : decode cJ6_bitCount_0f7a4 4 = .ok (.ldc_w 265, 3) := by decide +kernel
theorem dJ6_bitCount_0f7a4_7 : decode cJ6_bitCount_0f7a4 7 = .ok (.iand, 1) := by decide +kernel
theorem dJ6_bitCount_0f7a4_8 : decode cJ6_bitCount_0f7a4 8 = .ok (.isub, 1) := by decide +kernel
theorem dJ6_bitCount_0f7a4_9 : decode cJ6_bitCount_0f7a4 9 = .ok (.istore_n 0, 1) := by decide +kernel
theorem dJ6_bitCount_0f7a4_10 : decode cJ6_bitCount_0f7a4 10 = .ok (.iload_n 0, 1) := by decide +kernel
theorem dJ6_bitCount_0f7a4_11 : decode cJ6_bitCount_0f7a4 11 = .ok (.ldc_w 266, 3) := by decide +kernel
theorem dJ6_bitCount_0f7a4_14 : decode cJ6_bitCount_0f7a4 14 = .ok (.iand, 1) := by decide +kernel
theorem dJ6_bitCount_0f7a4_15 : decode cJ6_bitCount_0f7a4 15 = .ok (.iload_n 0, 1) := by decide +kernel
theorem dJ6_bitCount_0f7a4_16 : decode cJ6_bitCount_0f7a4 16 = .ok (.iconst 2, 1) := by decide +kernel
theorem dJ6_bitCount_0f7a4_17 : decode cJ6_bitCount_0f7a4 17 = .ok (.iushr, 1) := by decide +kernel
theorem dJ6_bitCount_0f7a4_18 : decode cJ6_bitCount_0f7a4 18 = .ok (.ldc_w 266, 3) := by decide +kernel
theorem dJ6_bitCount_0f7a4_21 : decode cJ6_bitCount_0f7a4 21 = .ok (.iand, 1) := by decide +kernel
theorem dJ6_bitCount_0f7a4_22 : decode cJ6_bitCount_0f7a4 22 = .ok (.iadd, 1) := by decide +kernel
theorem dJ6_bitCount_0f7a4_23 : decode cJ6_bitCount_0f7a4 23 = .ok (.istore_n 0, 1) := by decide +kernel
theorem dJ6_bitCount_0f7a4_24 : decode cJ6_bitCount_0f7a4 24 = .ok (.iload_n 0, 1) := by decide +kernel
theorem dJ6_bitCount_0f7a4_25 : decode cJ6_bitCount_0f7a4 25 = .ok (.iload_n 0, 1) := by decide +kernel
theorem dJ6_bitCount_0f7a4_26 : decode cJ6_bitCount_0f7a4 26 = .ok (.iconst 4, 1) := by decide +kernel
theorem dJ6_bitCount_0f7a4_27 : decode cJ6_bitCount_0f7a4 27 = .ok (.iushr, 1) := by decide +kernel
theorem dJ6_bitCount_0f7a4_28 : decode cJ6_bitCount_0f7a4 28 = .ok (.iadd, 1) := by decide +kernel
theorem dJ6_bitCount_0f7a4_29 : decode cJ6_bitCount_0f7a4 29 = .ok (.ldc_w 267, 3) := by decide +kernel
theorem dJ6_bitCount_0f7a4_32 : decode cJ6_bitCount_0f7a4 32 = .ok (.iand, 1) := by decide +kernel
theorem dJ6_bitCount_0f7a4_33 : decode cJ6_bitCount_0f7a4 33 = .ok (.istore_n 0, 1) := by decide +kernel
theorem dJ6_bitCount_0f7a4_34 : decode cJ6_bitCount_0f7a4 34 = .ok (.iload_n 0, 1) := by decide +kernel
theorem dJ6_bitCount_0f7a4_35 : decode cJ6_bitCount_0f7a4 35 = .ok (.iload_n 0, 1) := by decide +kernel
theorem dJ6_bitCount_0f7a4_36 : decode cJ6_bitCount_0f7a4 36 = .ok (.bipush 8, 2) := by decide +kernel
theorem dJ6_bitCount_0f7a4_38 : decode cJ6_bitCount_0f7a4 38 = .ok (.iushr, 1) := by decide +kernel
theorem dJ6_bitCount_0f7a4_39 : decode cJ6_bitCount_0f7a4 39 = .ok (.iadd, 1) := by decide +kernel
theorem dJ6_bitCount_0f7a4_40 : decode cJ6_bitCount_0f7a4 40 = .ok (.istore_n 0, 1) := by decide +kernel
theorem dJ6_bitCount_0f7a4_41 : decode cJ6_bitCount_0f7a4 41 = .ok (.iload_n 0, 1) := by decide +kernel
theorem dJ6_bitCount_0f7a4_42 : decode cJ6_bitCount_0f7a4 42 = .ok (.iload_n 0, 1) := by decide +kernel
theorem dJ6_bitCount_0f7a4_43 : decode cJ6_bitCount_0f7a4 43 = .ok (.bipush 16, 2) := by decide +kernel
theorem dJ6_bitCount_0f7a4_45 : decode cJ6_bitCount_0f7a4 45 = .ok (.iushr, 1) := by decide +kernel
theorem dJ6_bitCount_0f7a4_46 : decode cJ6_bitCount_0f7a4 46 = .ok (.iadd, 1) := by decide +kernel
theorem dJ6_bitCount_0f7a4_47 : decode cJ6_bitCount_0f7a4 47 = .ok (.istore_n 0, 1) := by decide +kernel
theorem dJ6_bitCount_0f7a4_48 : decode cJ6_bitCount_0f7a4 48 = .ok (.iload_n 0, 1) := by decide +kernel
theorem dJ6_bitCount_0f7a4_49 : decode cJ6_bitCount_0f7a4 49 = .ok (.bipush 63, 2) := by decide +kernel
theorem dJ6_bitCount_0f7a4_51 : decode cJ6_bitCount_0f7a4 51 = .ok (.iand, 1) := by decide +kernel
theorem dJ6_bitCount_0f7a4_52 : decode cJ6_bitCount_0f7a4 52 = .ok (.ireturn, 1) := by decide +kernel
set_option maxRecDepth 20000 in
theorem ggJ0_length_8abf5_J0_coder_7d493 : GoodIn wsJ0_length_8abf5 wsJ0_coder_7d493 := goodIn_r _ [6, 7, 8] (by decide +kernel) (by decide +kernel)
set_option maxRecDepth 20000 in
theorem gJ0_length_8abf5_J0_coder_7d493 : GoodIn wsJ0_length_8abf5 (wsV RJ0 335 RJ0 yJ0_coder_7d493 wsJ0_coder_7d493) := goodIn_app (goodIn_of _ (by decide +kernel)) ggJ0_length_8abf5_J0_coder_7d493
theorem dJ0_length_8abf5_0 : decode cJ0_length_8abf5 0 = .ok (.aload_n 0, 1) := by decide +kernel
theorem dJ0_length_8abf5_1 : decode cJ0_length_8abf5 1 = .ok (.getfield 9, 3) := by decide +kernel
theorem dJ0_length_8abf5_4 : decode cJ0_length_8abf5 4 = .ok (.arraylength, 1) := by decide +kernel
theorem dJ0_length_8abf5_5 : decode cJ0_length_8abf5 5 = .ok (.aload_n 0, 1) := by decide +kernel
theorem dJ0_length_8abf5_6 : decode cJ0_length_8abf5 6 = .ok (.invokevirtual 335, 3) := by decide +kernel
theorem dJ0_length_8abf5_9 : decode cJ0_length_8abf5 9 = .ok (.ishr, 1) := by decide +kernel
theorem dJ0_length_8abf5_10 : decode cJ0_length_8abf5 10 = .ok (.ireturn, 1) := by decide +kernel
set_option maxRecDepth 20000 in
theorem ggJ0_charAt_5068e_J0_isLatin1_aae02 : GoodIn wsJ0_charAt_5068e wsJ0_isLatin1_aae02 := goodIn_r _ [6, 7, 8] (by decide +kernel) (by decide +kernel)
set_option maxRecDepth 20000 in
theorem gJ0_charAt_5068e_J0_isLatin1_aae02 : GoodIn wsJ0_charAt_5068e (wsV RJ0 492 RJ0 yJ0_isLatin1_aae02 wsJ0_isLatin1_aae02) := goodIn_app (goodIn_of _ (by decide +kernel)) ggJ0_charAt_5068e_J0_isLatin1_aae02
set_option maxRecDepth 20000 in
theorem ggJ0_charAt_5068e_J1_charAt_3b067 : GoodIn wsJ0_charAt_5068e wsJ1_charAt_3b067 := goodIn_r _ [12, 13, 14, 5, 15, 16, 17, 18, 19, 20] (by decide +kernel) (by decide +kernel)
set_option maxRecDepth 20000 in
theorem gJ0_charAt_5068e_J1_charAt_3b067 : GoodIn wsJ0_charAt_5068e (va_wsS RJ0 495 yJ1_charAt_3b067 wsJ1_charAt_3b067) := goodIn_app (goodIn_of _ (by decide +kernel)) ggJ0_charAt_5068e_J1_charAt_3b067
set_option maxRecDepth 20000 in
theorem ggJ0_charAt_5068e_J2_charAt_3b067 : GoodIn wsJ0_charAt_5068e wsJ2_charAt_3b067 := goodIn_r _ [24, 25, 26, 23, 27, 28, 29, 30, 31, 14, 5, 15, 16, 17, 18, 19, 20, 32, 33, 34, 35, 36, 37] (by decide +kernel) (by decide +kernel)
set_option maxRecDepth 20000 in
theorem gJ0_charAt_5068e_J2_charAt_3b067 : GoodIn wsJ0_charAt_5068e (va_wsS RJ0 498 yJ2_charAt_3b067 wsJ2_charAt_3b067) := goodIn_app (goodIn_of _ (by decide +kernel)) ggJ0_charAt_5068e_J2_charAt_3b067
theorem dJ0_charAt_5068e_0 : decode cJ0_charAt_5068e 0 = .ok (.aload_n 0, 1) := by decide +kernel
theorem dJ0_charAt_5068e_1 : decode cJ0_charAt_5068e 1 = .ok (.invokevirtual 492, 3) := by decide +kernel
theorem dJ0_charAt_5068e_4 : decode cJ0_charAt_5068e 4 = .ok (.ifCond .eq 12, 3) := by decide +kernel
theorem dJ0_charAt_5068e_7 : decode cJ0_charAt_5068e 7 = .ok (.aload_n 0, 1) := by decide +kernel
theorem dJ0_charAt_5068e_8 : decode cJ0_charAt_5068e 8 = .ok (.getfield 9, 3) := by decide +kernel
theorem dJ0_charAt_5068e_11 : decode cJ0_charAt_5068e 11 = .ok (.iload_n 1, 1) := by decide +kernel
theorem dJ0_charAt_5068e_12 : decode cJ0_charAt_5068e 12 = .ok (.invokestatic 495, 3) := by decide +kernel
theorem dJ0_charAt_5068e_15 : decode cJ0_charAt_5068e 15 = .ok (.ireturn, 1) := by decide +kernel
theorem dJ0_charAt_5068e_16 : decode cJ0_charAt_5068e 16 = .ok (.aload_n 0, 1) := by decide +kernel
theorem dJ0_charAt_5068e_17 : decode cJ0_charAt_5068e 17 = .ok (.getfield 9, 3) := by decide +kernel
theorem dJ0_charAt_5068e_20 : decode cJ0_charAt_5068e 20 = .ok (.iload_n 1, 1) := by decide +kernel
theorem dJ0_charAt_5068e_21 : decode cJ0_charAt_5068e 21 = .ok (.invokestatic 498, 3) := by decide +kernel
theorem dJ0_charAt_5068e_24 : decode cJ0_charAt_5068e 24 = .ok (.ireturn, 1) := by decide +kernel
theorem dJ0_coder_7d493_0 : decode cJ0_coder_7d493 0 = .ok (.getstatic 38, 3) := by decide +kernel
theorem dJ0_coder_7d493_3 : decode cJ0_coder_7d493 3 = .ok (.ifCond .eq 10, 3) := by decide +kernel
theorem dJ0_coder_7d493_6 : decode cJ0_coder_7d493 6 = .ok (.aload_n 0, 1) := by decide +kernel
theorem dJ0_coder_7d493_7 : decode cJ0_coder_7d493 7 = .ok (.getfield 15, 3) := by decide +kernel
theorem dJ0_coder_7d493_10 : decode cJ0_coder_7d493 10 = .ok (.goto 4, 3) := by decide +kernel
theorem dJ0_coder_7d493_13 : decode cJ0_coder_7d493 13 = .ok (.iconst 1, 1) := by decide +kernel
theorem dJ0_coder_7d493_14 : decode cJ0_coder_7d493 14 = .ok (.ireturn, 1) := by decide +kernel
theorem dJ0_isLatin1_aae02_0 : decode cJ0_isLatin1_aae02 0 = .ok (.getstatic 38, 3) := by decide +kernel
theorem dJ0_isLatin1_aae02_3 : decode cJ0_isLatin1_aae02 3 = .ok (.ifCond .eq 14, 3) := by decide +kernel
theorem dJ0_isLatin1_aae02_6 : decode cJ0_isLatin1_aae02 6 = .ok (.aload_n 0, 1) := by decide +kernel
theorem dJ0_isLatin1_aae02_7 : decode cJ0_isLatin1_aae02 7 = .ok (.getfield 15, 3) := by decide +kernel
theorem dJ0_isLatin1_aae02_10 : decode cJ0_isLatin1_aae02 10 = .ok (.ifCond .ne 7, 3) := by decide +kernel
theorem dJ0_isLatin1_aae02_13 : decode cJ0_isLatin1_aae02 13 = .ok (.iconst 1, 1) := by decide +kernel
theorem dJ0_isLatin1_aae02_14 : decode cJ0_isLatin1_aae02 14 = .ok (.goto 4, 3) := by decide +kernel
theorem dJ0_isLatin1_aae02_17 : decode cJ0_isLatin1_aae02 17 = .ok (.iconst 0, 1) := by decide +kernel
theorem dJ0_isLatin1_aae02_18 : decode cJ0_isLatin1_aae02 18 = .ok (.ireturn, 1) := by decide +kernel
set_option maxRecDepth 20000 in
theorem ggJ0_checkIndex_df160_J3_checkIndex_8e157 : GoodIn wsJ0_checkIndex_df160 wsJ3_checkIndex_8e157 := goodIn_r _ [5] (by decide +kernel) (by decide +kernel)
set_option maxRecDepth 20000 in
theorem gJ0_checkIndex_df160_J3_checkIndex_8e157 : GoodIn wsJ0_checkIndex_df160 (va_wsS RJ0 1059 yJ3_checkIndex_8e157 wsJ3_checkIndex_8e157) := goodIn_app (goodIn_of _ (by decide +kernel)) ggJ0_checkIndex_df160_J3_checkIndex_8e157
theorem dJ0_checkIndex_df160_0 : decode cJ0_checkIndex_df160 0 = .ok (.iload_n 0, 1) := by decide +kernel
theorem dJ0_checkIndex_df160_1 : decode cJ0_checkIndex_df160 1 = .ok (.iload_n 1, 1) := by decide +kernel
theorem dJ0_checkIndex_df160_2 : decode cJ0_checkIndex_df160 2 = .ok (.getstatic 1053, 3) := by decide +kernel
theorem dJ0_checkIndex_df160_5 : decode cJ0_checkIndex_df160 5 = .ok (.invokestatic 1059, 3) := by decide +kernel
theorem dJ0_checkIndex_df160_8 : decode cJ0_checkIndex_df160 8 = .ok (.pop, 1) := by decide +kernel
theorem dJ0_checkIndex_df160_9 : decode cJ0_checkIndex_df160 9 = .ok (.return_, 1) := by decide +kernel
set_option maxRecDepth 20000 in
theorem ggJ1_charAt_3b067_J0_checkIndex_df160 : GoodIn wsJ1_charAt_3b067 wsJ0_checkIndex_df160 := goodIn_r _ [4, 5, 6, 7, 8, 9] (by decide +kernel) (by decide +kernel)
set_option maxRecDepth 20000 in
theorem gJ1_charAt_3b067_J0_checkIndex_df160 : GoodIn wsJ1_charAt_3b067 (va_wsS RJ1 9 yJ0_checkIndex_df160 wsJ0_checkIndex_df160) := goodIn_app (goodIn_of _ (by decide +kernel)) ggJ1_charAt_3b067_J0_checkIndex_df160
theorem dJ1_charAt_3b067_0 : decode cJ1_charAt_3b067 0 = .ok (.iload_n 1, 1) := by decide +kernel
theorem dJ1_charAt_3b067_1 : decode cJ1_charAt_3b067 1 = .ok (.aload_n 0, 1) := by decide +kernel
theorem dJ1_charAt_3b067_2 : decode cJ1_charAt_3b067 2 = .ok (.arraylength, 1) := by decide +kernel
theorem dJ1_charAt_3b067_3 : decode cJ1_charAt_3b067 3 = .ok (.invokestatic 9, 3) := by decide +kernel
theorem dJ1_charAt_3b067_6 : decode cJ1_charAt_3b067 6 = .ok (.aload_n 0, 1) := by decide +kernel
theorem dJ1_charAt_3b067_7 : decode cJ1_charAt_3b067 7 = .ok (.iload_n 1, 1) := by decide +kernel
theorem dJ1_charAt_3b067_8 : decode cJ1_charAt_3b067 8 = .ok (.baload, 1) := by decide +kernel
theorem dJ1_charAt_3b067_9 : decode cJ1_charAt_3b067 9 = .ok (.sipush 255, 3) := by decide +kernel
theorem dJ1_charAt_3b067_12 : decode cJ1_charAt_3b067 12 = .ok (.iand, 1) := by decide +kernel
theorem dJ1_charAt_3b067_13 : decode cJ1_charAt_3b067 13 = .ok (.i2c, 1) := by decide +kernel
theorem dJ1_charAt_3b067_14 : decode cJ1_charAt_3b067 14 = .ok (.ireturn, 1) := by decide +kernel
set_option maxRecDepth 20000 in
theorem ggJ2_getChar_3b067_J2_length_9d52b : GoodIn wsJ2_getChar_3b067 wsJ2_length_9d52b := goodIn_r _ [7] (by decide +kernel) (by decide +kernel)
set_option maxRecDepth 20000 in
theorem gJ2_getChar_3b067_J2_length_9d52b : GoodIn wsJ2_getChar_3b067 (va_wsS RJ2 48 yJ2_length_9d52b wsJ2_length_9d52b) := goodIn_app (goodIn_of _ (by decide +kernel)) ggJ2_getChar_3b067_J2_length_9d52b
theorem dJ2_getChar_3b067_0 : decode cJ2_getChar_3b067 0 = .ok (.getstatic 44, 3) := by decide +kernel
theorem dJ2_getChar_3b067_3 : decode cJ2_getChar_3b067 3 = .ok (.ifCond .ne 25, 3) := by decide +kernel
theorem dJ2_getChar_3b067_6 : decode cJ2_getChar_3b067 6 = .ok (.iload_n 1, 1) := by decide +kernel
theorem dJ2_getChar_3b067_7 : decode cJ2_getChar_3b067 7 = .ok (.ifCond .lt 11, 3) := by decide +kernel
theorem dJ2_getChar_3b067_10 : decode cJ2_getChar_3b067 10 = .ok (.iload_n 1, 1) := by decide +kernel
theorem dJ2_getChar_3b067_11 : decode cJ2_getChar_3b067 11 = .ok (.aload_n 0, 1) := by decide +kernel
theorem dJ2_getChar_3b067_12 : decode cJ2_getChar_3b067 12 = .ok (.invokestatic 48, 3) := by decide +kernel
theorem dJ2_getChar_3b067_15 : decode cJ2_getChar_3b067 15 = .ok (.if_icmp .lt 13, 3) := by decide +kernel
theorem dJ2_getChar_3b067_18 : decode cJ2_getChar_3b067 18 = .ok (.new 52, 3) := by decide +kernel
theorem dJ2_getChar_3b067_21 : decode cJ2_getChar_3b067 21 = .ok (.dup, 1) := by decide +kernel
theorem dJ2_getChar_3b067_22 : decode cJ2_getChar_3b067 22 = .ok (.ldc 54, 2) := by decide +kernel
theorem dJ2_getChar_3b067_24 : decode cJ2_getChar_3b067 24 = .ok (.invokespecial 56, 3) := by decide +kernel
theorem dJ2_getChar_3b067_27 : decode cJ2_getChar_3b067 27 = .ok (.athrow, 1) := by decide +kernel
theorem dJ2_getChar_3b067_28 : decode cJ2_getChar_3b067 28 = .ok (.iload_n 1, 1) := by decide +kernel
theorem dJ2_getChar_3b067_29 : decode cJ2_getChar_3b067 29 = .ok (.iconst 1, 1) := by decide +kernel
theorem dJ2_getChar_3b067_30 : decode cJ2_getChar_3b067 30 = .ok (.ishl, 1) := by decide +kernel
theorem dJ2_getChar_3b067_31 : decode cJ2_getChar_3b067 31 = .ok (.istore_n 1, 1) := by decide +kernel
theorem dJ2_getChar_3b067_32 : decode cJ2_getChar_3b067 32 = .ok (.aload_n 0, 1) := by decide +kernel
theorem dJ2_getChar_3b067_33 : decode cJ2_getChar_3b067 33 = .ok (.iload_n 1, 1) := by decide +kernel
theorem dJ2_getChar_3b067_34 : decode cJ2_getChar_3b067 34 = .ok (.iinc 1 1, 3) := by decide +kernel
theorem dJ2_getChar_3b067_37 : decode cJ2_getChar_3b067 37 = .ok (.baload, 1) := by decide +kernel
theorem dJ2_getChar_3b067_38 : decode cJ2_getChar_3b067 38 = .ok (.sipush 255, 3) := by decide +kernel
theorem dJ2_getChar_3b067_41 : decode cJ2_getChar_3b067 41 = .ok (.iand, 1) := by decide +kernel
theorem dJ2_getChar_3b067_42 : decode cJ2_getChar_3b067 42 = .ok (.getstatic 59, 3) := by decide +kernel
theorem dJ2_getChar_3b067_45 : decode cJ2_getChar_3b067 45 = .ok (.ishl, 1) := by decide +kernel
theorem dJ2_getChar_3b067_46 : decode cJ2_getChar_3b067 46 = .ok (.aload_n 0, 1) := by decide +kernel
theorem dJ2_getChar_3b067_47 : decode cJ2_getChar_3b067 47 = .ok (.iload_n 1, 1) := by decide +kernel
theorem dJ2_getChar_3b067_48 : decode cJ2_getChar_3b067 48 = .ok (.baload, 1) := by decide +kernel
theorem dJ2_getChar_3b067_49 : decode cJ2_getChar_3b067 49 = .ok (.sipush 255, 3) := by decide +kernel
theorem dJ2_getChar_3b067_52 : decode cJ2_getChar_3b067 52 = .ok (.iand, 1) := by decide +kernel
theorem dJ2_getChar_3b067_53 : decode cJ2_getChar_3b067 53 = .ok (.getstatic 63, 3) := by decide +kernel
theorem dJ2_getChar_3b067_56 : decode cJ2_getChar_3b067 56 = .ok (.ishl, 1) := by decide +kernel
theorem dJ2_getChar_3b067_57 : decode cJ2_getChar_3b067 57 = .ok (.ior, 1) := by decide +kernel
theorem dJ2_getChar_3b067_58 : decode cJ2_getChar_3b067 58 = .ok (.i2c, 1) := by decide +kernel
theorem dJ2_getChar_3b067_59 : decode cJ2_getChar_3b067 59 = .ok (.ireturn, 1) := by decide +kernel
theorem dJ2_length_9d52b_0 : decode cJ2_length_9d52b 0 = .ok (.aload_n 0, 1) := by decide +kernel
theorem dJ2_length_9d52b_1 : decode cJ2_length_9d52b 1 = .ok (.arraylength, 1) := by decide +kernel
theorem dJ2_length_9d52b_2 : decode cJ2_length_9d52b 2 = .ok (.iconst 1, 1) := by decide +kernel
theorem dJ2_length_9d52b_3 : decode cJ2_length_9d52b 3 = .ok (.ishr, 1) := by decide +kernel
theorem dJ2_length_9d52b_4 : decode cJ2_length_9d52b 4 = .ok (.ireturn, 1) := by decide +kernel
set_option maxRecDepth 20000 in
theorem ggJ2_charAt_3b067_J2_checkIndex_2214a : GoodIn wsJ2_charAt_3b067 wsJ2_checkIndex_2214a := goodIn_r _ [4, 5, 6, 3, 7, 8, 9, 10, 11, 12, 13, 14, 15, 16] (by decide +kernel) (by decide +kernel)
set_option maxRecDepth 20000 in
theorem gJ2_charAt_3b067_J2_checkIndex_2214a : GoodIn wsJ2_charAt_3b067 (va_wsS RJ2 67 yJ2_checkIndex_2214a wsJ2_checkIndex_2214a) := goodIn_app (goodIn_of _ (by decide +kernel)) ggJ2_charAt_3b067_J2_checkIndex_2214a
set_option maxRecDepth 20000 in
theorem ggJ2_charAt_3b067_J2_getChar_3b067 : GoodIn wsJ2_charAt_3b067 wsJ2_getChar_3b067 := goodIn_r _ [19, 20, 21, 22, 5, 6, 3, 7] (by decide +kernel) (by decide +kernel)
set_option maxRecDepth 20000 in
theorem gJ2_charAt_3b067_J2_getChar_3b067 : GoodIn wsJ2_charAt_3b067 (va_wsS RJ2 71 yJ2_getChar_3b067 wsJ2_getChar_3b067) := goodIn_app (goodIn_of _ (by decide +kernel)) ggJ2_charAt_3b067_J2_getChar_3b067
theorem dJ2_charAt_3b067_0 : decode cJ2_charAt_3b067 0 = .ok (.iload_n 1, 1) := by decide +kernel
theorem dJ2_charAt_3b067_1 : decode cJ2_charAt_3b067 1 = .ok (.aload_n 0, 1) := by decide +kernel
theorem dJ2_charAt_3b067_2 : decode cJ2_charAt_3b067 2 = .ok (.invokestatic 67, 3) := by decide +kernel
theorem dJ2_charAt_3b067_5 : decode cJ2_charAt_3b067 5 = .ok (.aload_n 0, 1) := by decide +kernel
theorem dJ2_charAt_3b067_6 : decode cJ2_charAt_3b067 6 = .ok (.iload_n 1, 1) := by decide +kernel
theorem dJ2_charAt_3b067_7 : decode cJ2_charAt_3b067 7 = .ok (.invokestatic 71, 3) := by decide +kernel
theorem dJ2_charAt_3b067_10 : decode cJ2_charAt_3b067 10 = .ok (.ireturn, 1) := by decide +kernel
set_option maxRecDepth 20000 in
theorem ggJ2_checkIndex_2214a_J2_length_9d52b : GoodIn wsJ2_checkIndex_2214a wsJ2_length_9d52b := goodIn_r _ [4] (by decide +kernel) (by decide +kernel)
set_option maxRecDepth 20000 in
theorem gJ2_checkIndex_2214a_J2_length_9d52b : GoodIn wsJ2_checkIndex_2214a (va_wsS RJ2 48 yJ2_length_9d52b wsJ2_length_9d52b) := goodIn_app (goodIn_of _ (by decide +kernel)) ggJ2_checkIndex_2214a_J2_length_9d52b
set_option maxRecDepth 20000 in
theorem ggJ2_checkIndex_2214a_J0_checkIndex_df160 : GoodIn wsJ2_checkIndex_2214a wsJ0_checkIndex_df160 := goodIn_r _ [8, 9, 10, 11, 12, 13] (by decide +kernel) (by decide +kernel)
set_option maxRecDepth 20000 in
theorem gJ2_checkIndex_2214a_J0_checkIndex_df160 : GoodIn wsJ2_checkIndex_2214a (va_wsS RJ2 414 yJ0_checkIndex_df160 wsJ0_checkIndex_df160) := goodIn_app (goodIn_of _ (by decide +kernel)) ggJ2_checkIndex_2214a_J0_checkIndex_df160
theorem dJ2_checkIndex_2214a_0 : decode cJ2_checkIndex_2214a 0 = .ok (.iload_n 0, 1) := by decide +kernel
theorem dJ2_checkIndex_2214a_1 : decode cJ2_checkIndex_2214a 1 = .ok (.aload_n 1, 1) := by decide +kernel
theorem dJ2_checkIndex_2214a_2 : decode cJ2_checkIndex_2214a 2 = .ok (.invokestatic 48, 3) := by decide +kernel
theorem dJ2_checkIndex_2214a_5 : decode cJ2_checkIndex_2214a 5 = .ok (.invokestatic 414, 3) := by decide +kernel
theorem dJ2_checkIndex_2214a_8 : decode cJ2_checkIndex_2214a 8 = .ok (.return_, 1) := by decide +kernel
theorem dJ3_checkIndex_8e157_0 : decode cJ3_checkIndex_8e157 0 = .ok (.iload_n 0, 1) := by decide +kernel
theorem dJ3_checkIndex_8e157_1 : decode cJ3_checkIndex_8e157 1 = .ok (.ifCond .lt 8, 3) := by decide +kernel
theorem dJ3_checkIndex_8e157_4 : decode cJ3_checkIndex_8e157 4 = .ok (.iload_n 0, 1) := by decide +kernel
theorem dJ3_checkIndex_8e157_5 : decode cJ3_checkIndex_8e157 5 = .ok (.iload_n 1, 1) := by decide +kernel
theorem dJ3_checkIndex_8e157_6 : decode cJ3_checkIndex_8e157 6 = .ok (.if_icmp .lt 10, 3) := by decide +kernel
theorem dJ3_checkIndex_8e157_9 : decode cJ3_checkIndex_8e157 9 = .ok (.aload_n 2, 1) := by decide +kernel
theorem dJ3_checkIndex_8e157_10 : decode cJ3_checkIndex_8e157 10 = .ok (.iload_n 0, 1) := by decide +kernel
theorem dJ3_checkIndex_8e157_11 : decode cJ3_checkIndex_8e157 11 = .ok (.iload_n 1, 1) := by decide +kernel
theorem dJ3_checkIndex_8e157_12 : decode cJ3_checkIndex_8e157 12 = .ok (.invokestatic 95, 3) := by decide +kernel
theorem dJ3_checkIndex_8e157_15 : decode cJ3_checkIndex_8e157 15 = .ok (.athrow, 1) := by decide +kernel
theorem dJ3_checkIndex_8e157_16 : decode cJ3_checkIndex_8e157 16 = .ok (.iload_n 0, 1) := by decide +kernel
theorem dJ3_checkIndex_8e157_17 : decode cJ3_checkIndex_8e157 17 = .ok (.ireturn, 1) := by decide +kernel
end
section
/-! BASE: the constants' world (EV), a contract's start and end (mPre, mAt), calls -/
/-- the array classes, by element type: 0 int, 1 long, 2 char, 3 byte, 4 boolean -/
abbrev tyS (cs : Nat → ClassId) : List (ClassId × FieldType) := [(cs 0, .int), (cs 1, .long), (cs 2, .char), (cs 3, .byte), (cs 4, .boolean)]
def verbN : List String := ["PART", "COVER", "WAY", "FASTEN", "HAZARD", "OPTION", "DAMAGE"]
def verbF : List (String × String × String × List Int32) := [("java/lang/Enum", "ordinal", "I", [0, 1, 2, 3, 4, 5, 6]), ("PartGraphs$Verb", "numbers", "I", [2, 2, 3, 3, 2, 2, 2])]
def swTab : List Int32 := [1, 2, 3, 4, 5, 6, 0]
def strLen : List Nat := [4, 5, 3, 6, 6, 6, 6, 25, 12]
def strByt : List (List Int32) := [[112, 97, 114, 116], [99, 111, 118, 101, 114], [119, 97, 121], [102, 97, 115, 116, 101, 110], [104, 97, 122, 97, 114, 100], [111, 112, 116, 105, 111, 110], [100, 97, 109, 97, 103, 101],
  [110, 111, 32, 115, 117, 99, 104, 32, 112, 97, 114, 116, 32, 111, 114, 32, 100, 105, 114, 101, 99, 116, 105, 111, 110], [110, 111, 32, 115, 117, 99, 104, 32, 112, 97, 114, 116]]
/-- links across the nest -/
def evN (U : State) : Prop := va_Nw (.methodLinkNest RX1 50 yX5_isBelow "PartGraphs") U ∧ va_Nw (.methodLinkNest RX1 71 yX5_contains "PartGraphs") U ∧ va_Nw (.methodLinkNest RX1 145 yX5_memberOf "PartGraphs") U ∧ va_Nw (.methodLinkNest RX3 114 yX5_contains "PartGraphs") U ∧ va_Nw (.methodLinkNest RX3 70 yX1_barIndex "PartGraphs") U ∧ va_Nw (.methodLinkNest RX5 18 yX3_init "PartGraphs") U ∧ va_Nw (.fieldLinkNest RX2 67 "PartGraphs" "VERBS" "[LPartGraphs$Verb;" "PartGraphs") U
/-- texts that are loaded by name -/
def evR (ev : Nat → Nat → Nat) (U : State) : Prop := vk_R RX5 73 "no such part or direction" (ev 1 7) U ∧ vk_R RX5 108 "no such part" (ev 1 8) U
/-- what never changes: the enum's constants, their texts, the tables -/
def evH (ev : Nat → Nat → Nat) (A : Nat → Prop) (U : State) (H : Heap) : Prop :=
  va_En "PartGraphs$Verb" "LPartGraphs$Verb;" verbN verbF (ev 0) A U H ∧ va_Ef 7 "PartGraphs$Verb" "word" "Ljava/lang/String;" (fun i => .ref (ev 1 i)) (ev 0) A U H ∧ vk_S 9 strLen strByt (ev 1) (ev 2) A U H ∧
  va_Z "PartGraphs" "VERBS" "[LPartGraphs$Verb;" (.ref (ev 3 0)) A U H ∧ va_T (.object "PartGraphs$Verb") (ev 3 0) 7 (fun i => .ref (ev 0 i)) A U H ∧
  va_Z "PartGraphs$1" "$SwitchMap$PartGraphs$Verb" "[I" (.ref (ev 3 1)) A U H ∧ va_T .int (ev 3 1) 7 (fun i => .int (swTab.getD i 0)) A U H ∧ va_Z "java/lang/String" "COMPACT_STRINGS" "Z" (.int 1) A U H ∧ va_Zq "jdk/internal/util/Preconditions" "SIOOBE_FORMATTER" "Ljava/util/function/BiFunction;" A U H
def EV (ev : Nat → Nat → Nat) (A : Nat → Prop) (U : State) (H : Heap) : Prop := evN U ∧ evR ev U ∧ evH ev A U H
theorem evH.kept {ev : Nat → Nat → Nat} {A : Nat → Prop} {U : State} {H H1 : Heap} (h : evH ev A U H) (hq : ∀ a : Nat, a < H.size → ¬ A a → H1[a]? = H[a]?) : evH ev A U H1 := by
  obtain ⟨h1, h2, h3, h4, h5, h6, h7, h8, h9⟩ := h
  exact ⟨h1.kept hq, h2.kept hq, h3.kept hq, h4.kept hq, h5.kept hq, h6.kept hq, h7.kept hq, h8.kept hq, h9.kept hq⟩
theorem evH.moved {ev : Nat → Nat → Nat} {A : Nat → Prop} {u U : State} {H : Heap} (hvm : u.vm.Alike U.vm) (h : evH ev A u H) : evH ev A U H := by
  obtain ⟨h1, h2, h3, h4, h5, h6, h7, h8, h9⟩ := h
  exact ⟨h1.moved hvm, h2.moved hvm, h3.moved hvm, h4.moved hvm, h5.moved hvm, h6.moved hvm, h7.moved hvm, h8.moved hvm, h9.moved hvm⟩
theorem evH.narrow {ev : Nat → Nat → Nat} {A B : Nat → Prop} {U : State} {H : Heap} (h : evH ev A U H) (hAB : ∀ q, B q → A q) : evH ev B U H := by
  obtain ⟨h1, h2, h3, h4, h5, h6, h7, h8, h9⟩ := h
  exact ⟨h1.narrow hAB, h2.narrow hAB, h3.narrow hAB, h4.narrow hAB, h5.narrow hAB, h6.narrow hAB, h7.narrow hAB, h8.narrow hAB, h9.narrow hAB⟩
theorem evN.warm {s U : State} (hW : s.WarmedH U.vm) (h : evN s) : evN U := by
  obtain ⟨h1, h2, h3, h4, h5, h6, h7⟩ := h
  exact ⟨h1.warmM hW, h2.warmM hW, h3.warmM hW, h4.warmM hW, h5.warmM hW, h6.warmM hW, h7.warmF hW⟩
theorem evN.same {u U : State} (hv : u.vm = U.vm) (h : evN u) : evN U := by
  obtain ⟨h1, h2, h3, h4, h5, h6, h7⟩ := h
  exact ⟨h1.same rfl hv, h2.same rfl hv, h3.same rfl hv, h4.same rfl hv, h5.same rfl hv, h6.same rfl hv, h7.same rfl hv⟩
theorem EV.step {ev : Nat → Nat → Nat} {A B : Nat → Prop} {s U : State} {H : Heap} {locs : List Loc} (h : EV ev A s s.heap) (hS : va_S A s.heap H locs) (hAB : ∀ q, B q → A q) (hU : U.heap = H) (hW : s.WarmedH U.vm) : EV ev B U U.heap := by
  obtain ⟨h1, h2, h3⟩ := h
  rw [hU]
  exact ⟨h1.warm hW, ⟨h2.1.warm hW, h2.2.warm hW⟩, ((h3.kept hS.2.1).moved hW.alike).narrow hAB⟩
/-- a contract's start: its world w at a heap of size sz -/
abbrev mPre (D : va_G) (cs : Nat → ClassId) (ev : Nat → Nat → Nat) (w : va_W) (sz : Nat) (U : State) : Prop := U.heap.size = sz ∧ va_P D vwCl w U.heap ∧ va_K D vwCl (tyS cs) U ∧ va_D (fun _ => True) w ∧ EV ev (va_A w sz) U U.heap
/-- a contract's end -/
abbrev mAt (D : va_G) (cs : Nat → ClassId) (A : Nat → Prop) (w : va_W) (t : State) : Prop := va_P D vwCl w t.heap ∧ va_K D vwCl (tyS cs) t ∧ va_D A w
theorem mPre.blind {D : va_G} {cs : Nat → ClassId} {ev : Nat → Nat → Nat} {w : va_W} {sz : Nat} {av : List Value} : FrameBlind (va_Pc av (mPre D cs ev w sz)) := by
  intro a U g mk q
  obtain ⟨q0, q1, qP, qK, qD, qE⟩ := q
  exact ⟨q0, q1, qP, va_K.moved (u := U) (U := U.calling g mk a) (Vm.Alike.refl U.vm) qK, qD, qE.1.same rfl, ⟨vk_R.same rfl qE.2.1.1, vk_R.same rfl qE.2.1.2⟩, evH.moved (u := U) (U := U.calling g mk a) (Vm.Alike.refl U.vm) qE.2.2⟩
section MCALL
variable {s : State} {D : va_G} {cs : Nat → ClassId} {ev : Nat → Nat → Nat} {A : Nat → Prop} {H : Heap} {locs : List Loc} {ws wc : va_W}
theorem mPreS {As : List Value} (hP : va_P D vwCl ws H) (hD : va_D A ws) (hS : va_S A s.heap H locs) (hK : va_K D vwCl (tyS cs) s) (hE : EV ev A s s.heap) (hF : ∀ q, va_A wc H.size q → A q) (is : List Nat) (hn : va_nd is = true) (hs : is.map (fun i => ws[i]?) = wc.map some) : PreS s H (va_Pc As (mPre D cs ev wc H.size)) As := by
  refine ⟨mPre.blind, fun U hU hW => ⟨rfl, by rw [hU], ?_, va_K.moved hW.alike hK, (hD.sub is hn hs).weaken (fun _ _ _ _ => trivial), hE.step hS hF hU hW⟩⟩
  rw [hU]
  intro k q hk
  have h1 : (is.map (fun i => ws[i]?))[k]? = some (some q) := by rw [hs, List.getElem?_map, hk]; rfl
  rw [List.getElem?_map] at h1
  cases hi : is[k]? with
  | none => rw [hi] at h1; cases h1
  | some i => rw [hi] at h1; exact hP i q (Option.some.inj h1)
theorem mPreV {As : List Value} {C : String} {b : Nat} (hr : ∃ cell : Cell, H[b]? = some cell ∧ cell.vm.isStatics = false ∧ s.vm.findClass C = some cell.cls) (hP : va_P D vwCl ws H) (hD : va_D A ws) (hS : va_S A s.heap H locs) (hK : va_K D vwCl (tyS cs) s) (hE : EV ev A s s.heap) (hF : ∀ q, va_A wc H.size q → A q) (is : List Nat) (hn : va_nd is = true) (hs : is.map (fun i => ws[i]?) = wc.map some) : PreV s H C b (va_Pc (.ref b :: As) (mPre D cs ev wc H.size)) As :=
  ⟨mPre.blind, hr, (mPreS (As := .ref b :: As) hP hD hS hK hE hF is hn hs).2⟩
/-- behind a call: the world in its old order, the callee's cells as they are now -/
theorem mJoin {w1 wr w' : va_W} {H1 : Heap} (hP : va_P D vwCl ws H) (hD : va_D A ws) (isC isR : List Nat) (hC : isC.map (fun i => ws[i]?) = wc.map some) (hR : isR.map (fun i => ws[i]?) = wr.map some) (hn : va_nd isR = true) (hdis : ∀ i ∈ isR, i ∉ isC)
    (hk : ∀ q : Nat, q < H.size → ¬ va_A wc H.size q → H1[q]? = H[q]?) (hF : ∀ q, va_A wc H.size q → A q) (hP1 : va_P D vwCl w1 H1) (hD1 : va_D (va_A wc H.size) w1) (is : List Nat) (hm : va_nd is = true) (hs : is.map (fun i => (wr ++ w1)[i]?) = w'.map some) : va_P D vwCl w' H1 ∧ va_D A w' := by
  obtain ⟨a, b⟩ := va_join hP hD isC isR hC hR hn hdis hk hF hP1 hD1
  refine ⟨fun k q hk => ?_, b.sub is hm hs⟩
  have h1 : (is.map (fun i => (wr ++ w1)[i]?))[k]? = some (some q) := by rw [hs, List.getElem?_map, hk]; rfl
  rw [List.getElem?_map] at h1
  cases hi : is[k]? with
  | none => rw [hi] at h1; cases h1
  | some i => rw [hi] at h1; exact a i q (Option.some.inj h1)
end MCALL
end
section
abbrev sh_P (cs : Nat → ClassId) (ad : Nat → Nat) (kd : Nat → Int32) (gr : Nat → Int64) (cv : Nat → Int32) (br : Nat → Int32) (hz : Nat → Int32) (fm : Nat → Int32) (dm : Nat → Int32) (e1 : Nat → Int32) (e2 : Nat → Int32) (fk : Nat → Int32) (pn : Int32) (fn : Int32) : va_W := [(ad 0, .inr (1, [.ref (ad 1), .ref (ad 2), .ref (ad 3), .ref (ad 4), .ref (ad 5), .ref (ad 6), .ref (ad 7), .ref (ad 8), .ref (ad 9), .ref (ad 10), .int pn, .int fn])), (ad 1, .inl (cs 0, 10, .inl kd)), (ad 2, .inl (cs 1, 10, .inr (.inl gr))), (ad 3, .inl (cs 0, 10, .inl cv)), (ad 4, .inl (cs 0, 60, .inl br)), (ad 5, .inl (cs 0, 10, .inl hz)), (ad 6, .inl (cs 0, 10, .inl fm)), (ad 7, .inl (cs 0, 10, .inl dm)), (ad 8, .inl (cs 0, 20, .inl e1)), (ad 9, .inl (cs 0, 20, .inl e2)), (ad 10, .inl (cs 0, 20, .inl fk))]
abbrev sh_R (cs : Nat → ClassId) (ad : Nat → Nat) (tx : Nat → Int32) (nu : Nat → Int32) (ln : Int32) (bg : Int32) (en : Int32) : va_W := [(ad 0, .inr (2, [.ref (ad 1), .ref (ad 2), .int ln, .int bg, .int en])), (ad 1, .inl (cs 2, 2000, .inl tx)), (ad 2, .inl (cs 0, 3, .inl nu))]
abbrev sh_T (cs : Nat → ClassId) (ad : Nat → Nat) (lf : Int32) (fo : Int32) : va_W := [(ad 0, .inr (3, [.int lf, .int fo]))]
abbrev sh_G (cs : Nat → ClassId) (ad : Nat → Nat) (rr : Nat) (rt : Nat) (rp : Nat) (rd : Nat) : va_W := [(ad 0, .inr (4, [.ref rr, .ref rt, .ref rp, .ref rd]))]
abbrev sh_M (cs : Nat → ClassId) (ad : Nat → Nat) (mp : Nat → Int32) (mk : Nat → Int32) (mg : Nat → Int32) (mc : Nat → Int32) (mw : Nat → Int32) (mf : Nat → Int32) (mt : Nat → Int32) (mh : Nat → Int32) (mm : Nat → Int32) (md : Nat → Int32) (mx : Nat → Int32) (mn : Nat → Int32) (sz : Int32) (fa : Int32) (ap : Int32) (wa : Int32) (wr : Int32) (fu : Int32) : va_W := [(ad 0, .inr (5, [.ref (ad 1), .ref (ad 2), .ref (ad 3), .ref (ad 4), .ref (ad 5), .ref (ad 6), .ref (ad 7), .ref (ad 8), .ref (ad 9), .ref (ad 10), .ref (ad 11), .int sz, .int fa, .ref (ad 12), .int ap, .int wa, .int wr, .int fu])), (ad 1, .inl (cs 0, 2, .inl mp)), (ad 2, .inl (cs 0, 20, .inl mk)), (ad 3, .inl (cs 0, 20, .inl mg)), (ad 4, .inl (cs 4, 200, .inl mc)), (ad 5, .inl (cs 4, 1200, .inl mw)), (ad 6, .inl (cs 0, 2, .inl mf)), (ad 7, .inl (cs 0, 120, .inl mt)), (ad 8, .inl (cs 4, 160, .inl mh)), (ad 9, .inl (cs 0, 20, .inl mm)), (ad 10, .inl (cs 0, 20, .inl md)), (ad 11, .inl (cs 3, 2000, .inl mx)), (ad 12, .inl (cs 0, 3, .inl mn))]
abbrev sh_O (cs : Nat → ClassId) (ad : Nat → Nat) (ou : Nat → Int64) : va_W := [(ad 0, .inl (cs 1, 1, .inr (.inl ou)))]
end
section
def wp_X5_isBelow (p1 : Int32) (p2 : Int32) (post : Int32 → Unit → Prop) : Prop :=
    ((p1 < 0 → post 0 ()) ∧ (¬ p1 < 0 → ((p2 ≤ p1 → post 0 ()) ∧ (¬ p2 ≤ p1 → post 1 ()))))
set_option maxHeartbeats 4000000 in
set_option maxRecDepth 100000 in
theorem met_X5_isBelow (l : Launch) (D : va_G) (cs : Nat → ClassId) (ev : Nat → Nat → Nat) (sz0 : Nat) (p1 : Int32) (p2 : Int32) (post : Int32 → Unit → Prop) (h : wp_X5_isBelow p1 p2 post) : Met l yX5_isBelow wsX5_isBelow ({ frames := 0, cells := 0, slots := 0, locals := 0 }) (va_Pc [.int p1, .int p2] (mPre D cs ev ([] : va_W) sz0)) (va_Qi post (fun _ t => mAt D cs (va_A ([] : va_W) sz0) ([] : va_W) t) (va_A ([] : va_W) sz0)) 0 0 (va_A ([] : va_W) sz0) := by
  refine Met.ofW (cc := cX5_isBelow) (maxL := 2) (ret := (some .boolean)) (by decide) rfl ?_
  intro p e s m args below meth c s₁ B hml hv
  obtain ⟨rfl, hsz, hP, hK, hD0, hE⟩ := hv
  have hx := B.exec
  have hb := B.bytes
  have hr := B.returns
  have hts := atoms_spec (ws := wsX5_isBelow) B.pre
  have hown : s.vm.findClass RX5 = some m.cls := findClass_of_methodNamed B.named
  have hlocks := B.notSynchronized
  subst hsz
  have hD := hD0.self (sz := s.heap.size)
  generalize hAe : va_A ([] : va_W) s.heap.size = A at hD hE ⊢
  have hA : ∀ q : Nat, s.heap.size ≤ q → A q := fun q h => by rw [← hAe]; exact Or.inr h
  have hS : va_S A s.heap s.heap [] := va_S.rf
  have hl := lv_entry ([.int p1, .int p2]) (n := 2) (Nat.le_of_ble_eq_true rfl)
  rw [lg_entry_eq]
  generalize (lg_sl ([.int p1, .int p2]) ++ List.replicate (2 - (lg_sl ([.int p1, .int p2])).length) Slot.unset).toArray = ls at hl ⊢
  have hl : lv_has ls 2 [(0, .int p1), (1, .int p2)] := hl
  refine lv_iload_n hx hb dX5_isBelow_0 rfl (lv_at hl 0 rfl) ?_
  refine lv_if_lt (tgt := 13) hx hb dX5_isBelow_1 (by decide) (fun c_1 => ?_) (fun c_1 => ?_)
  · have h := h.1 c_1
    refine lv_iconst (v := 0) hx hb dX5_isBelow_13 (by decide) ?_
    exact W.zret (v := 0) hx hb hr (by decide) (fun t ht hW => ⟨⟨0, (), rfl, h, by rw [ht]; exact hP, va_K.moved hW.alike hK, hD⟩, hS.F ht⟩) hS.2.2 dX5_isBelow_14
  · have h := h.2 c_1
    refine lv_iload_n hx hb dX5_isBelow_4 rfl (lv_at hl 0 rfl) ?_
    refine lv_iload_n hx hb dX5_isBelow_5 rfl (lv_at hl 1 rfl) ?_
    refine lv_icmp_ge (tgt := 13) hx hb dX5_isBelow_6 (by decide) (fun c_2 => ?_) (fun c_2 => ?_)
    · have h := h.1 c_2
      refine lv_iconst (v := 0) hx hb dX5_isBelow_13 (by decide) ?_
      exact W.zret (v := 0) hx hb hr (by decide) (fun t ht hW => ⟨⟨0, (), rfl, h, by rw [ht]; exact hP, va_K.moved hW.alike hK, hD⟩, hS.F ht⟩) hS.2.2 dX5_isBelow_14
    · have h := h.2 c_2
      refine lv_iconst (v := 1) hx hb dX5_isBelow_9 (by decide) ?_
      refine lv_goto (tgt := 14) hx hb dX5_isBelow_10 (by decide) ?_
      exact W.zret (v := 1) hx hb hr (by decide) (fun t ht hW => ⟨⟨1, (), rfl, h, by rw [ht]; exact hP, va_K.moved hW.alike hK, hD⟩, hS.F ht⟩) hS.2.2 dX5_isBelow_14
def wp_X5_contains (p1 : Int32) (p2 : Int32) (post : Int32 → Unit → Prop) : Prop :=
    ((((p1 >>> (p2 &&& 31)) &&& 1) = 0 → post 0 ()) ∧ (¬ ((p1 >>> (p2 &&& 31)) &&& 1) = 0 → post 1 ()))
set_option maxHeartbeats 4000000 in
set_option maxRecDepth 100000 in
theorem met_X5_contains (l : Launch) (D : va_G) (cs : Nat → ClassId) (ev : Nat → Nat → Nat) (sz0 : Nat) (p1 : Int32) (p2 : Int32) (post : Int32 → Unit → Prop) (h : wp_X5_contains p1 p2 post) : Met l yX5_contains wsX5_contains ({ frames := 0, cells := 0, slots := 0, locals := 0 }) (va_Pc [.int p1, .int p2] (mPre D cs ev ([] : va_W) sz0)) (va_Qi post (fun _ t => mAt D cs (va_A ([] : va_W) sz0) ([] : va_W) t) (va_A ([] : va_W) sz0)) 0 0 (va_A ([] : va_W) sz0) := by
  refine Met.ofW (cc := cX5_contains) (maxL := 2) (ret := (some .boolean)) (by decide) rfl ?_
  intro p e s m args below meth c s₁ B hml hv
  obtain ⟨rfl, hsz, hP, hK, hD0, hE⟩ := hv
  have hx := B.exec
  have hb := B.bytes
  have hr := B.returns
  have hts := atoms_spec (ws := wsX5_contains) B.pre
  have hown : s.vm.findClass RX5 = some m.cls := findClass_of_methodNamed B.named
  have hlocks := B.notSynchronized
  subst hsz
  have hD := hD0.self (sz := s.heap.size)
  generalize hAe : va_A ([] : va_W) s.heap.size = A at hD hE ⊢
  have hA : ∀ q : Nat, s.heap.size ≤ q → A q := fun q h => by rw [← hAe]; exact Or.inr h
  have hS : va_S A s.heap s.heap [] := va_S.rf
  have hl := lv_entry ([.int p1, .int p2]) (n := 2) (Nat.le_of_ble_eq_true rfl)
  rw [lg_entry_eq]
  generalize (lg_sl ([.int p1, .int p2]) ++ List.replicate (2 - (lg_sl ([.int p1, .int p2])).length) Slot.unset).toArray = ls at hl ⊢
  have hl : lv_has ls 2 [(0, .int p1), (1, .int p2)] := hl
  refine lv_iload_n hx hb dX5_contains_0 rfl (lv_at hl 0 rfl) ?_
  refine lv_iload_n hx hb dX5_contains_1 rfl (lv_at hl 1 rfl) ?_
  refine lv_ishr hx hb dX5_contains_2 ?_
  refine lv_iconst (v := 1) hx hb dX5_contains_3 (by decide) ?_
  refine lv_iand hx hb dX5_contains_4 ?_
  refine lv_if_eq (tgt := 12) hx hb dX5_contains_5 (by decide) (fun c_1 => ?_) (fun c_1 => ?_)
  · have h := h.1 c_1
    refine lv_iconst (v := 0) hx hb dX5_contains_12 (by decide) ?_
    exact W.zret (v := 0) hx hb hr (by decide) (fun t ht hW => ⟨⟨0, (), rfl, h, by rw [ht]; exact hP, va_K.moved hW.alike hK, hD⟩, hS.F ht⟩) hS.2.2 dX5_contains_13
  · have h := h.2 c_1
    refine lv_iconst (v := 1) hx hb dX5_contains_8 (by decide) ?_
    refine lv_goto (tgt := 13) hx hb dX5_contains_9 (by decide) ?_
    exact W.zret (v := 1) hx hb hr (by decide) (fun t ht hW => ⟨⟨1, (), rfl, h, by rw [ht]; exact hP, va_K.moved hW.alike hK, hD⟩, hS.F ht⟩) hS.2.2 dX5_contains_13
def wp_X5_memberOf (p1 : Int32) (p2 : Int32) (post : Int32 → Unit → Prop) : Prop :=
    ∀ (A4 : Int32 → Int32 → Prop),
    (∀ (v2 : Int32) (v3 : Int32), ((10 ≤ v3 → post (-1) ()) ∧ (¬ 10 ≤ v3 → wp_X5_contains p1 v3 (fun r_2 _ => ((r_2 = 0 → A4 v2 (v3 + 1)) ∧ (¬ r_2 = 0 → ((v2 = 0 → post v3 ()) ∧ (¬ v2 = 0 → A4 (v2 + (-1)) (v3 + 1)))))))) → A4 v2 v3) →
    A4 p2 0
set_option maxHeartbeats 4000000 in
set_option maxRecDepth 100000 in
theorem met_X5_memberOf (l : Launch) (D : va_G) (cs : Nat → ClassId) (ev : Nat → Nat → Nat) (sz0 : Nat) (p1 : Int32) (p2 : Int32) (post : Int32 → Unit → Prop) (h : wp_X5_memberOf p1 p2 post) : Met l yX5_memberOf wsX5_memberOf ({ frames := 1, cells := 0, slots := 0, locals := 21 }) (va_Pc [.int p1, .int p2] (mPre D cs ev ([] : va_W) sz0)) (va_Qi post (fun _ t => mAt D cs (va_A ([] : va_W) sz0) ([] : va_W) t) (va_A ([] : va_W) sz0)) 0 0 (va_A ([] : va_W) sz0) := by
  refine Met.ofW (cc := cX5_memberOf) (maxL := 4) (ret := (some .int)) (by decide) rfl ?_
  intro p e s m args below meth c s₁ B hml hv
  obtain ⟨rfl, hsz, hP, hK, hD0, hE⟩ := hv
  have hx := B.exec
  have hb := B.bytes
  have hr := B.returns
  have hts := atoms_spec (ws := wsX5_memberOf) B.pre
  have hown : s.vm.findClass RX5 = some m.cls := findClass_of_methodNamed B.named
  have hlocks := B.notSynchronized
  subst hsz
  have hD := hD0.self (sz := s.heap.size)
  generalize hAe : va_A ([] : va_W) s.heap.size = A at hD hE ⊢
  have hA : ∀ q : Nat, s.heap.size ≤ q → A q := fun q h => by rw [← hAe]; exact Or.inr h
  have hS : va_S A s.heap s.heap [] := va_S.rf
  have hl := lv_entry ([.int p1, .int p2]) (n := 4) (Nat.le_of_ble_eq_true rfl)
  rw [lg_entry_eq]
  generalize (lg_sl ([.int p1, .int p2]) ++ List.replicate (4 - (lg_sl ([.int p1, .int p2])).length) Slot.unset).toArray = ls at hl ⊢
  have hl : lv_has ls 4 [(0, .int p1), (1, .int p2)] := hl
  obtain ⟨A4, hA4⟩ : ∃ Q : Int32 → Int32 → Prop, Q = (fun v2 v3 => ∀ (H : Heap) (locs : List Loc), va_P D vwCl ([] : va_W) H → va_D A ([] : va_W) → va_S A s.heap H locs → ∀ ls : Array Slot, lv_has ls 4 [(0, .int p1), (2, .int v2), (3, .int v3)] → W p l e (headSpec wsX5_memberOf ({ frames := 1, cells := 0, slots := 0, locals := 21 })).room s m ([.int p1, .int p2] : List Value).toArray below meth c H locs 0 0 (MQ below (va_Qi post (fun _ t => mAt D cs (A) ([] : va_W) t) A) ([.int p1, .int p2] : List Value).toArray s 0 0 A) (F0 m 4 ls [])) := ⟨_, rfl⟩
  have s4 : ∀ (v2 : Int32) (v3 : Int32), ((10 ≤ v3 → post (-1) ()) ∧ (¬ 10 ≤ v3 → wp_X5_contains p1 v3 (fun r_2 _ => ((r_2 = 0 → A4 v2 (v3 + 1)) ∧ (¬ r_2 = 0 → ((v2 = 0 → post v3 ()) ∧ (¬ v2 = 0 → A4 (v2 + (-1)) (v3 + 1)))))))) → A4 v2 v3 := by
    intro v2 v3 h
    rw [hA4]
    intro H locs hP hD hS ls hl
    refine lv_iload_n hx hb dX5_memberOf_4 rfl (lv_at hl 2 rfl) ?_
    refine lv_bipush (v := 10) hx hb dX5_memberOf_5 (by decide) ?_
    refine lv_icmp_ge (tgt := 33) hx hb dX5_memberOf_7 (by decide) (fun c_1 => ?_) (fun c_1 => ?_)
    · have h := h.1 c_1
      refine lv_iconst (v := (-1)) hx hb dX5_memberOf_33 (by decide) ?_
      exact W.iret (v := (-1)) hx hb hr (fun t ht hW => ⟨⟨(-1), (), rfl, h, by rw [ht]; exact hP, va_K.moved hW.alike hK, hD⟩, hS.F ht⟩) hS.2.2 dX5_memberOf_34
    · have h := h.2 c_1
      refine lv_iload_n hx hb dX5_memberOf_10 rfl (lv_at hl 0 rfl) ?_
      refine lv_iload_n hx hb dX5_memberOf_11 rfl (lv_at hl 2 rfl) ?_
      have hFc := va_free (wc := ([] : va_W)) hD hS hA [] rfl
      refine va_calli (va_runS (As := [.int p1, .int v3]) (rest := []) ⟨hx, hb, hml, hown, hts⟩ (met_X5_contains l D cs ev _ p1 v3 _ h) (va_cwS 2 hts gX5_memberOf_X5_contains rfl rfl rfl (by decide +kernel) ⟨Nat.le_of_ble_eq_true rfl, Nat.le_of_ble_eq_true rfl⟩) (mPreS hP hD hS hK hE hFc [] (by decide) rfl) rfl rfl hl.1 rfl (lv_room (Nat.le_of_ble_eq_true rfl)) dX5_memberOf_12 ⟨Nat.le_of_ble_eq_true rfl, Nat.le_of_ble_eq_true rfl⟩) hS (fun q _ h => hFc q h) hFc (fun r_2 u t H1 locs ht hvm hw hB hz1 hk1 hS => ?_)
      have h := hw
      obtain ⟨hP1, hK1, hD1⟩ := hB
      rw [ht] at hP1
      obtain ⟨hP, hD⟩ := mJoin (wr := ([] : va_W)) (w1 := ([] : va_W)) (w' := ([] : va_W)) hP hD [] [] rfl rfl (by decide) (by decide) hk1 hFc hP1 hD1 [] (by decide) rfl
      generalize H1 = H at hP hS ⊢
      refine lv_if_eq (tgt := 27) hx hb dX5_memberOf_15 (by decide) (fun c_3 => ?_) (fun c_3 => ?_)
      · have h := h.1 c_3
        refine lv_iinc (v := v3 + 1) (lv' := [(3, .int (v3 + 1)), (0, .int p1), (2, .int v2)]) hx hb dX5_memberOf_27 hl (k := 2) rfl rfl (by decide) rfl (fun ls hl => ?_)
        refine lv_goto (tgt := 4) hx hb dX5_memberOf_30 (by decide) ?_
        rw [hA4] at h
        exact h _ _ hP hD hS ls (lv_sub hl [1, 2, 0] rfl)
      · have h := h.2 c_3
        refine lv_iload_n hx hb dX5_memberOf_18 rfl (lv_at hl 1 rfl) ?_
        refine lv_if_ne (tgt := 24) hx hb dX5_memberOf_19 (by decide) (fun c_4 => ?_) (fun c_4 => ?_)
        · have h := h.2 c_4
          refine lv_iinc (v := v2 + (-1)) (lv' := [(2, .int (v2 + (-1))), (0, .int p1), (3, .int v3)]) hx hb dX5_memberOf_24 hl (k := 1) rfl rfl (by decide) rfl (fun ls hl => ?_)
          refine lv_iinc (v := v3 + 1) (lv' := [(3, .int (v3 + 1)), (2, .int (v2 + (-1))), (0, .int p1)]) hx hb dX5_memberOf_27 hl (k := 2) rfl rfl (by decide) rfl (fun ls hl => ?_)
          refine lv_goto (tgt := 4) hx hb dX5_memberOf_30 (by decide) ?_
          rw [hA4] at h
          exact h _ _ hP hD hS ls (lv_sub hl [2, 1, 0] rfl)
        · have h := h.1 c_4
          refine lv_iload_n hx hb dX5_memberOf_22 rfl (lv_at hl 2 rfl) ?_
          exact W.iret (v := v3) hx hb hr (fun t ht hW => ⟨⟨v3, (), rfl, h, by rw [ht]; exact hP, va_K.moved hW.alike hK, hD⟩, hS.F ht⟩) hS.2.2 dX5_memberOf_23
  have h := h A4 s4
  refine lv_iload_n hx hb dX5_memberOf_0 rfl (lv_at hl 1 rfl) ?_
  refine lv_istore_n (lv' := [(2, .int p2), (0, .int p1), (1, .int p2)]) hx hb dX5_memberOf_1 rfl hl (by decide) rfl (fun ls hl => ?_)
  refine lv_iconst (v := 0) hx hb dX5_memberOf_2 (by decide) ?_
  refine lv_istore_n (lv' := [(3, .int 0), (2, .int p2), (0, .int p1), (1, .int p2)]) hx hb dX5_memberOf_3 rfl hl (by decide) rfl (fun ls hl => ?_)
  rw [hA4] at h
  exact h _ _ hP hD hS ls (lv_sub hl [2, 1, 0] rfl)
def wp_X5_lowBits (p1 : Int64) (post : Int32 → Unit → Prop) : Prop :=
    post ((p1 &&& 1023).toInt32) ()
set_option maxHeartbeats 4000000 in
set_option maxRecDepth 100000 in
theorem met_X5_lowBits (l : Launch) (D : va_G) (cs : Nat → ClassId) (ev : Nat → Nat → Nat) (sz0 : Nat) (p1 : Int64) (post : Int32 → Unit → Prop) (h : wp_X5_lowBits p1 post) : Met l yX5_lowBits wsX5_lowBits ({ frames := 0, cells := 0, slots := 0, locals := 0 }) (va_Pc [.long p1] (mPre D cs ev ([] : va_W) sz0)) (va_Qi post (fun _ t => mAt D cs (va_A ([] : va_W) sz0) ([] : va_W) t) (va_A ([] : va_W) sz0)) 0 0 (va_A ([] : va_W) sz0) := by
  refine Met.ofW (cc := cX5_lowBits) (maxL := 2) (ret := (some .int)) (by decide) rfl ?_
  intro p e s m args below meth c s₁ B hml hv
  obtain ⟨rfl, hsz, hP, hK, hD0, hE⟩ := hv
  have hx := B.exec
  have hb := B.bytes
  have hr := B.returns
  have hts := atoms_spec (ws := wsX5_lowBits) B.pre
  have hown : s.vm.findClass RX5 = some m.cls := findClass_of_methodNamed B.named
  have hlocks := B.notSynchronized
  subst hsz
  have hD := hD0.self (sz := s.heap.size)
  generalize hAe : va_A ([] : va_W) s.heap.size = A at hD hE ⊢
  have hA : ∀ q : Nat, s.heap.size ≤ q → A q := fun q h => by rw [← hAe]; exact Or.inr h
  have hS : va_S A s.heap s.heap [] := va_S.rf
  have hl := lv_entry ([.long p1]) (n := 2) (Nat.le_of_ble_eq_true rfl)
  rw [lg_entry_eq]
  generalize (lg_sl ([.long p1]) ++ List.replicate (2 - (lg_sl ([.long p1])).length) Slot.unset).toArray = ls at hl ⊢
  have hl : lv_has ls 2 [(0, .long p1)] := hl
  refine lv_lload_n hx hb dX5_lowBits_0 rfl (lv_at hl 0 rfl) ?_
  refine lv_ldc2 (v := 1023) hx hb hown (hts (.constantLong RX5 137 1023) (by decide +kernel)) dX5_lowBits_1 ?_
  refine lv_land hx hb dX5_lowBits_4 ?_
  refine lv_l2i hx hb dX5_lowBits_5 rfl ?_
  exact W.iret (v := (p1 &&& 1023).toInt32) hx hb hr (fun t ht hW => ⟨⟨(p1 &&& 1023).toInt32, (), rfl, h, by rw [ht]; exact hP, va_K.moved hW.alike hK, hD⟩, hS.F ht⟩) hS.2.2 dX5_lowBits_6
def wp_X1_barIndex (p1 : Int32) (p2 : Int32) (post : Int32 → Unit → Prop) : Prop :=
    post ((p1 * 6) + p2) ()
set_option maxHeartbeats 4000000 in
set_option maxRecDepth 100000 in
theorem met_X1_barIndex (l : Launch) (D : va_G) (cs : Nat → ClassId) (ev : Nat → Nat → Nat) (sz0 : Nat) (p1 : Int32) (p2 : Int32) (post : Int32 → Unit → Prop) (h : wp_X1_barIndex p1 p2 post) : Met l yX1_barIndex wsX1_barIndex ({ frames := 0, cells := 0, slots := 0, locals := 0 }) (va_Pc [.int p1, .int p2] (mPre D cs ev ([] : va_W) sz0)) (va_Qi post (fun _ t => mAt D cs (va_A ([] : va_W) sz0) ([] : va_W) t) (va_A ([] : va_W) sz0)) 0 0 (va_A ([] : va_W) sz0) := by
  refine Met.ofW (cc := cX1_barIndex) (maxL := 2) (ret := (some .int)) (by decide) rfl ?_
  intro p e s m args below meth c s₁ B hml hv
  obtain ⟨rfl, hsz, hP, hK, hD0, hE⟩ := hv
  have hx := B.exec
  have hb := B.bytes
  have hr := B.returns
  have hts := atoms_spec (ws := wsX1_barIndex) B.pre
  have hown : s.vm.findClass RX1 = some m.cls := findClass_of_methodNamed B.named
  have hlocks := B.notSynchronized
  subst hsz
  have hD := hD0.self (sz := s.heap.size)
  generalize hAe : va_A ([] : va_W) s.heap.size = A at hD hE ⊢
  have hA : ∀ q : Nat, s.heap.size ≤ q → A q := fun q h => by rw [← hAe]; exact Or.inr h
  have hS : va_S A s.heap s.heap [] := va_S.rf
  have hl := lv_entry ([.int p1, .int p2]) (n := 2) (Nat.le_of_ble_eq_true rfl)
  rw [lg_entry_eq]
  generalize (lg_sl ([.int p1, .int p2]) ++ List.replicate (2 - (lg_sl ([.int p1, .int p2])).length) Slot.unset).toArray = ls at hl ⊢
  have hl : lv_has ls 2 [(0, .int p1), (1, .int p2)] := hl
  refine lv_iload_n hx hb dX1_barIndex_0 rfl (lv_at hl 0 rfl) ?_
  refine lv_bipush (v := 6) hx hb dX1_barIndex_1 (by decide) ?_
  refine lv_imul hx hb dX1_barIndex_3 ?_
  refine lv_iload_n hx hb dX1_barIndex_4 rfl (lv_at hl 1 rfl) ?_
  refine lv_iadd hx hb dX1_barIndex_5 ?_
  exact W.iret (v := (p1 * 6) + p2) hx hb hr (fun t ht hW => ⟨⟨(p1 * 6) + p2, (), rfl, h, by rw [ht]; exact hP, va_K.moved hW.alike hK, hD⟩, hS.F ht⟩) hS.2.2 dX1_barIndex_6
def wp_J6_bitCount_0f7a4 (p1 : Int32) (post : Int32 → Unit → Prop) : Prop :=
    (∀ y_1 : Int32, y_1 = p1 - (((p1.toUInt32 >>> ((1 : Int32).toUInt32 &&& Int32.toUInt32 31)).toInt32) &&& 1431655765) → (∀ y_2 : Int32, y_2 = (y_1 &&& 858993459) + (((y_1.toUInt32 >>> ((2 : Int32).toUInt32 &&& Int32.toUInt32 31)).toInt32) &&& 858993459) → (∀ y_3 : Int32, y_3 = (y_2 + ((y_2.toUInt32 >>> ((4 : Int32).toUInt32 &&& Int32.toUInt32 31)).toInt32)) &&& 252645135 → (∀ y_4 : Int32, y_4 = y_3 + ((y_3.toUInt32 >>> ((8 : Int32).toUInt32 &&& Int32.toUInt32 31)).toInt32) → (∀ y_5 : Int32, y_5 = y_4 + ((y_4.toUInt32 >>> ((16 : Int32).toUInt32 &&& Int32.toUInt32 31)).toInt32) → post (y_5 &&& 63) ())))))
set_option maxHeartbeats 4000000 in
set_option maxRecDepth 100000 in
theorem met_J6_bitCount_0f7a4 (l : Launch) (D : va_G) (cs : Nat → ClassId) (ev : Nat → Nat → Nat) (sz0 : Nat) (p1 : Int32) (post : Int32 → Unit → Prop) (h : wp_J6_bitCount_0f7a4 p1 post) : Met l yJ6_bitCount_0f7a4 wsJ6_bitCount_0f7a4 ({ frames := 0, cells := 0, slots := 0, locals := 0 }) (va_Pc [.int p1] (mPre D cs ev ([] : va_W) sz0)) (va_Qi post (fun _ t => mAt D cs (va_A ([] : va_W) sz0) ([] : va_W) t) (va_A ([] : va_W) sz0)) 0 0 (va_A ([] : va_W) sz0) := by
  refine Met.ofW (cc := cJ6_bitCount_0f7a4) (maxL := 1) (ret := (some .int)) (by decide) rfl ?_
  intro p e s m args below meth c s₁ B hml hv
  obtain ⟨rfl, hsz, hP, hK, hD0, hE⟩ := hv
  have hx := B.exec
  have hb := B.bytes
  have hr := B.returns
  have hts := atoms_spec (ws := wsJ6_bitCount_0f7a4) B.pre
  have hown : s.vm.findClass RJ6 = some m.cls := findClass_of_methodNamed B.named
  have hlocks := B.notSynchronized
  subst hsz
  have hD := hD0.self (sz := s.heap.size)
  generalize hAe : va_A ([] : va_W) s.heap.size = A at hD hE ⊢
  have hA : ∀ q : Nat, s.heap.size ≤ q → A q := fun q h => by rw [← hAe]; exact Or.inr h
  have hS : va_S A s.heap s.heap [] := va_S.rf
  have hl := lv_entry ([.int p1]) (n := 1) (Nat.le_of_ble_eq_true rfl)
  rw [lg_entry_eq]
  generalize (lg_sl ([.int p1]) ++ List.replicate (1 - (lg_sl ([.int p1])).length) Slot.unset).toArray = ls at hl ⊢
  have hl : lv_has ls 1 [(0, .int p1)] := hl
  refine lv_iload_n hx hb dJ6_bitCount_0f7a4_0 rfl (lv_at hl 0 rfl) ?_
  refine lv_iload_n hx hb dJ6_bitCount_0f7a4_1 rfl (lv_at hl 0 rfl) ?_
  refine lv_iconst (v := 1) hx hb dJ6_bitCount_0f7a4_2 (by decide) ?_
  refine lv_iushr hx hb dJ6_bitCount_0f7a4_3 rfl ?_
  refine lv_ldcw (v := 1431655765) hx hb hown (hts (.constant RJ6 265 1431655765) (by decide +kernel)) dJ6_bitCount_0f7a4_4 ?_
  refine lv_iand hx hb dJ6_bitCount_0f7a4_7 ?_
  refine lv_isub hx hb dJ6_bitCount_0f7a4_8 ?_
  refine lv_topi (fun y_1 ey_1 => ?_)
  have h := h y_1 ey_1
  refine lv_istore_n (lv' := [(0, .int y_1)]) hx hb dJ6_bitCount_0f7a4_9 rfl hl (by decide) rfl (fun ls hl => ?_)
  refine lv_iload_n hx hb dJ6_bitCount_0f7a4_10 rfl (lv_at hl 0 rfl) ?_
  refine lv_ldcw (v := 858993459) hx hb hown (hts (.constant RJ6 266 858993459) (by decide +kernel)) dJ6_bitCount_0f7a4_11 ?_
  refine lv_iand hx hb dJ6_bitCount_0f7a4_14 ?_
  refine lv_iload_n hx hb dJ6_bitCount_0f7a4_15 rfl (lv_at hl 0 rfl) ?_
  refine lv_iconst (v := 2) hx hb dJ6_bitCount_0f7a4_16 (by decide) ?_
  refine lv_iushr hx hb dJ6_bitCount_0f7a4_17 rfl ?_
  refine lv_ldcw (v := 858993459) hx hb hown (hts (.constant RJ6 266 858993459) (by decide +kernel)) dJ6_bitCount_0f7a4_18 ?_
  refine lv_iand hx hb dJ6_bitCount_0f7a4_21 ?_
  refine lv_iadd hx hb dJ6_bitCount_0f7a4_22 ?_
  refine lv_topi (fun y_2 ey_2 => ?_)
  have h := h y_2 ey_2
  refine lv_istore_n (lv' := [(0, .int y_2)]) hx hb dJ6_bitCount_0f7a4_23 rfl hl (by decide) rfl (fun ls hl => ?_)
  refine lv_iload_n hx hb dJ6_bitCount_0f7a4_24 rfl (lv_at hl 0 rfl) ?_
  refine lv_iload_n hx hb dJ6_bitCount_0f7a4_25 rfl (lv_at hl 0 rfl) ?_
  refine lv_iconst (v := 4) hx hb dJ6_bitCount_0f7a4_26 (by decide) ?_
  refine lv_iushr hx hb dJ6_bitCount_0f7a4_27 rfl ?_
  refine lv_iadd hx hb dJ6_bitCount_0f7a4_28 ?_
  refine lv_ldcw (v := 252645135) hx hb hown (hts (.constant RJ6 267 252645135) (by decide +kernel)) dJ6_bitCount_0f7a4_29 ?_
  refine lv_iand hx hb dJ6_bitCount_0f7a4_32 ?_
  refine lv_topi (fun y_3 ey_3 => ?_)
  have h := h y_3 ey_3
  refine lv_istore_n (lv' := [(0, .int y_3)]) hx hb dJ6_bitCount_0f7a4_33 rfl hl (by decide) rfl (fun ls hl => ?_)
  refine lv_iload_n hx hb dJ6_bitCount_0f7a4_34 rfl (lv_at hl 0 rfl) ?_
  refine lv_iload_n hx hb dJ6_bitCount_0f7a4_35 rfl (lv_at hl 0 rfl) ?_
  refine lv_bipush (v := 8) hx hb dJ6_bitCount_0f7a4_36 (by decide) ?_
  refine lv_iushr hx hb dJ6_bitCount_0f7a4_38 rfl ?_
  refine lv_iadd hx hb dJ6_bitCount_0f7a4_39 ?_
  refine lv_topi (fun y_4 ey_4 => ?_)
  have h := h y_4 ey_4
  refine lv_istore_n (lv' := [(0, .int y_4)]) hx hb dJ6_bitCount_0f7a4_40 rfl hl (by decide) rfl (fun ls hl => ?_)
  refine lv_iload_n hx hb dJ6_bitCount_0f7a4_41 rfl (lv_at hl 0 rfl) ?_
  refine lv_iload_n hx hb dJ6_bitCount_0f7a4_42 rfl (lv_at hl 0 rfl) ?_
  refine lv_bipush (v := 16) hx hb dJ6_bitCount_0f7a4_43 (by decide) ?_
  refine lv_iushr hx hb dJ6_bitCount_0f7a4_45 rfl ?_
  refine lv_iadd hx hb dJ6_bitCount_0f7a4_46 ?_
  refine lv_topi (fun y_5 ey_5 => ?_)
  have h := h y_5 ey_5
  refine lv_istore_n (lv' := [(0, .int y_5)]) hx hb dJ6_bitCount_0f7a4_47 rfl hl (by decide) rfl (fun ls hl => ?_)
  refine lv_iload_n hx hb dJ6_bitCount_0f7a4_48 rfl (lv_at hl 0 rfl) ?_
  refine lv_bipush (v := 63) hx hb dJ6_bitCount_0f7a4_49 (by decide) ?_
  refine lv_iand hx hb dJ6_bitCount_0f7a4_51 ?_
  exact W.iret (v := y_5 &&& 63) hx hb hr (fun t ht hW => ⟨⟨y_5 &&& 63, (), rfl, h, by rw [ht]; exact hP, va_K.moved hW.alike hK, hD⟩, hS.F ht⟩) hS.2.2 dJ6_bitCount_0f7a4_52
def wp_Jx29ce0_ordinal_8abf5 (k : Nat) (post : Int32 → Unit → Prop) : Prop :=
    (k < 7 ∧ post (([0, 1, 2, 3, 4, 5, 6] : List Int32).getD k 0) ())
set_option maxHeartbeats 4000000 in
set_option maxRecDepth 100000 in
theorem met_Jx29ce0_ordinal_8abf5 (l : Launch) (D : va_G) (cs : Nat → ClassId) (ev : Nat → Nat → Nat) (sz0 : Nat) (k : Nat) (post : Int32 → Unit → Prop) (h : wp_Jx29ce0_ordinal_8abf5 k post) : Met l yJx29ce0_ordinal_8abf5 wsJx29ce0_ordinal_8abf5 ({ frames := 0, cells := 0, slots := 0, locals := 0 }) (va_Pc [.ref (ev 0 k)] (mPre D cs ev ([] : va_W) sz0)) (va_Qi post (fun _ t => mAt D cs (va_A ([] : va_W) sz0) ([] : va_W) t) (va_A ([] : va_W) sz0)) 0 0 (va_A ([] : va_W) sz0) := by
  refine Met.ofW (cc := cJx29ce0_ordinal_8abf5) (maxL := 1) (ret := (some .int)) (by decide) rfl ?_
  intro p e s m args below meth c s₁ B hml hv
  obtain ⟨rfl, hsz, hP, hK, hD0, hE⟩ := hv
  have hx := B.exec
  have hb := B.bytes
  have hr := B.returns
  have hts := atoms_spec (ws := wsJx29ce0_ordinal_8abf5) B.pre
  have hown : s.vm.findClass RJx29ce0 = some m.cls := findClass_of_methodNamed B.named
  have hlocks := B.notSynchronized
  subst hsz
  have hD := hD0.self (sz := s.heap.size)
  generalize hAe : va_A ([] : va_W) s.heap.size = A at hD hE ⊢
  have hA : ∀ q : Nat, s.heap.size ≤ q → A q := fun q h => by rw [← hAe]; exact Or.inr h
  have hS : va_S A s.heap s.heap [] := va_S.rf
  have hl := lv_entry ([.ref (ev 0 k)]) (n := 1) (Nat.le_of_ble_eq_true rfl)
  rw [lg_entry_eq]
  generalize (lg_sl ([.ref (ev 0 k)]) ++ List.replicate (1 - (lg_sl ([.ref (ev 0 k)])).length) Slot.unset).toArray = ls at hl ⊢
  have hl : lv_has ls 1 [(0, .ref (ev 0 k))] := hl
  refine lv_aload_n hx hb dJx29ce0_ordinal_8abf5_0 rfl (lv_at hl 0 rfl) ?_
  have hk := h.1
  have h := h.2
  refine va_getE (i := k) hx hb hE.2.2.1 hk hS hown (q := ("java/lang/Enum", "ordinal", "I", [0, 1, 2, 3, 4, 5, 6])) (by decide) (hts (.fieldLink RJx29ce0 7 "java/lang/Enum" "ordinal" "I") (by decide +kernel)) (fun _ h9 => h9) dJx29ce0_ordinal_8abf5_1 ?_
  exact W.iret (v := ([0, 1, 2, 3, 4, 5, 6] : List Int32).getD k 0) hx hb hr (fun t ht hW => ⟨⟨([0, 1, 2, 3, 4, 5, 6] : List Int32).getD k 0, (), rfl, h, by rw [ht]; exact hP, va_K.moved hW.alike hK, hD⟩, hS.F ht⟩) hS.2.2 dJx29ce0_ordinal_8abf5_4
def wp_J3_checkIndex_8e157_N (p1 : Int32) (p2 : Int32) (post : Int32 → Unit → Prop) : Prop :=
    ((p1 < 0 → False) ∧ (¬ p1 < 0 → ((p1 < p2 → post p1 ()) ∧ (¬ p1 < p2 → False))))
set_option maxHeartbeats 4000000 in
set_option maxRecDepth 100000 in
theorem met_J3_checkIndex_8e157_N (l : Launch) (D : va_G) (cs : Nat → ClassId) (ev : Nat → Nat → Nat) (sz0 : Nat) (p1 : Int32) (p2 : Int32) (post : Int32 → Unit → Prop) (h : wp_J3_checkIndex_8e157_N p1 p2 post) : Met l yJ3_checkIndex_8e157 wsJ3_checkIndex_8e157 ({ frames := 0, cells := 0, slots := 0, locals := 0 }) (va_Pc [.int p1, .int p2, .null] (mPre D cs ev ([] : va_W) sz0)) (va_Qi post (fun _ t => mAt D cs (va_A ([] : va_W) sz0) ([] : va_W) t) (va_A ([] : va_W) sz0)) 0 0 (va_A ([] : va_W) sz0) := by
  refine Met.ofW (cc := cJ3_checkIndex_8e157) (maxL := 3) (ret := (some .int)) (by decide) rfl ?_
  intro p e s m args below meth c s₁ B hml hv
  obtain ⟨rfl, hsz, hP, hK, hD0, hE⟩ := hv
  have hx := B.exec
  have hb := B.bytes
  have hr := B.returns
  have hts := atoms_spec (ws := wsJ3_checkIndex_8e157) B.pre
  have hown : s.vm.findClass RJ3 = some m.cls := findClass_of_methodNamed B.named
  have hlocks := B.notSynchronized
  subst hsz
  have hD := hD0.self (sz := s.heap.size)
  generalize hAe : va_A ([] : va_W) s.heap.size = A at hD hE ⊢
  have hA : ∀ q : Nat, s.heap.size ≤ q → A q := fun q h => by rw [← hAe]; exact Or.inr h
  have hS : va_S A s.heap s.heap [] := va_S.rf
  have hl := lv_entry ([.int p1, .int p2, .null]) (n := 3) (Nat.le_of_ble_eq_true rfl)
  rw [lg_entry_eq]
  generalize (lg_sl ([.int p1, .int p2, .null]) ++ List.replicate (3 - (lg_sl ([.int p1, .int p2, .null])).length) Slot.unset).toArray = ls at hl ⊢
  have hl : lv_has ls 3 [(0, .int p1), (1, .int p2), (2, .null)] := hl
  refine lv_iload_n hx hb dJ3_checkIndex_8e157_0 rfl (lv_at hl 0 rfl) ?_
  refine lv_if_lt (tgt := 9) hx hb dJ3_checkIndex_8e157_1 (by decide) (fun c_1 => ?_) (fun c_1 => ?_)
  · have h := h.1 c_1
    exact h.elim
  · have h := h.2 c_1
    refine lv_iload_n hx hb dJ3_checkIndex_8e157_4 rfl (lv_at hl 0 rfl) ?_
    refine lv_iload_n hx hb dJ3_checkIndex_8e157_5 rfl (lv_at hl 1 rfl) ?_
    refine lv_icmp_lt (tgt := 16) hx hb dJ3_checkIndex_8e157_6 (by decide) (fun c_2 => ?_) (fun c_2 => ?_)
    · have h := h.1 c_2
      refine lv_iload_n hx hb dJ3_checkIndex_8e157_16 rfl (lv_at hl 0 rfl) ?_
      exact W.iret (v := p1) hx hb hr (fun t ht hW => ⟨⟨p1, (), rfl, h, by rw [ht]; exact hP, va_K.moved hW.alike hK, hD⟩, hS.F ht⟩) hS.2.2 dJ3_checkIndex_8e157_17
    · have h := h.2 c_2
      exact h.elim
def wp_J3_checkIndex_8e157_R (p1 : Int32) (p2 : Int32) (any0 : Nat) (post : Int32 → Unit → Prop) : Prop :=
    ((p1 < 0 → False) ∧ (¬ p1 < 0 → ((p1 < p2 → post p1 ()) ∧ (¬ p1 < p2 → False))))
set_option maxHeartbeats 4000000 in
set_option maxRecDepth 100000 in
theorem met_J3_checkIndex_8e157_R (l : Launch) (D : va_G) (cs : Nat → ClassId) (ev : Nat → Nat → Nat) (sz0 : Nat) (p1 : Int32) (p2 : Int32) (any0 : Nat) (post : Int32 → Unit → Prop) (h : wp_J3_checkIndex_8e157_R p1 p2 any0 post) : Met l yJ3_checkIndex_8e157 wsJ3_checkIndex_8e157 ({ frames := 0, cells := 0, slots := 0, locals := 0 }) (va_Pc [.int p1, .int p2, .ref any0] (mPre D cs ev ([] : va_W) sz0)) (va_Qi post (fun _ t => mAt D cs (va_A ([] : va_W) sz0) ([] : va_W) t) (va_A ([] : va_W) sz0)) 0 0 (va_A ([] : va_W) sz0) := by
  refine Met.ofW (cc := cJ3_checkIndex_8e157) (maxL := 3) (ret := (some .int)) (by decide) rfl ?_
  intro p e s m args below meth c s₁ B hml hv
  obtain ⟨rfl, hsz, hP, hK, hD0, hE⟩ := hv
  have hx := B.exec
  have hb := B.bytes
  have hr := B.returns
  have hts := atoms_spec (ws := wsJ3_checkIndex_8e157) B.pre
  have hown : s.vm.findClass RJ3 = some m.cls := findClass_of_methodNamed B.named
  have hlocks := B.notSynchronized
  subst hsz
  have hD := hD0.self (sz := s.heap.size)
  generalize hAe : va_A ([] : va_W) s.heap.size = A at hD hE ⊢
  have hA : ∀ q : Nat, s.heap.size ≤ q → A q := fun q h => by rw [← hAe]; exact Or.inr h
  have hS : va_S A s.heap s.heap [] := va_S.rf
  have hl := lv_entry ([.int p1, .int p2, .ref any0]) (n := 3) (Nat.le_of_ble_eq_true rfl)
  rw [lg_entry_eq]
  generalize (lg_sl ([.int p1, .int p2, .ref any0]) ++ List.replicate (3 - (lg_sl ([.int p1, .int p2, .ref any0])).length) Slot.unset).toArray = ls at hl ⊢
  have hl : lv_has ls 3 [(0, .int p1), (1, .int p2), (2, .ref any0)] := hl
  refine lv_iload_n hx hb dJ3_checkIndex_8e157_0 rfl (lv_at hl 0 rfl) ?_
  refine lv_if_lt (tgt := 9) hx hb dJ3_checkIndex_8e157_1 (by decide) (fun c_1 => ?_) (fun c_1 => ?_)
  · have h := h.1 c_1
    exact h.elim
  · have h := h.2 c_1
    refine lv_iload_n hx hb dJ3_checkIndex_8e157_4 rfl (lv_at hl 0 rfl) ?_
    refine lv_iload_n hx hb dJ3_checkIndex_8e157_5 rfl (lv_at hl 1 rfl) ?_
    refine lv_icmp_lt (tgt := 16) hx hb dJ3_checkIndex_8e157_6 (by decide) (fun c_2 => ?_) (fun c_2 => ?_)
    · have h := h.1 c_2
      refine lv_iload_n hx hb dJ3_checkIndex_8e157_16 rfl (lv_at hl 0 rfl) ?_
      exact W.iret (v := p1) hx hb hr (fun t ht hW => ⟨⟨p1, (), rfl, h, by rw [ht]; exact hP, va_K.moved hW.alike hK, hD⟩, hS.F ht⟩) hS.2.2 dJ3_checkIndex_8e157_17
    · have h := h.2 c_2
      exact h.elim
def wp_J0_checkIndex_df160 (p1 : Int32) (p2 : Int32) (post : Unit → Prop) : Prop :=
    (wp_J3_checkIndex_8e157_N p1 p2 (fun r_2 _ => post ()) ∧ ∀ any_1 : Nat, wp_J3_checkIndex_8e157_R p1 p2 any_1 (fun r_3 _ => post ()))
set_option maxHeartbeats 4000000 in
set_option maxRecDepth 100000 in
theorem met_J0_checkIndex_df160 (l : Launch) (D : va_G) (cs : Nat → ClassId) (ev : Nat → Nat → Nat) (sz0 : Nat) (p1 : Int32) (p2 : Int32) (post : Unit → Prop) (h : wp_J0_checkIndex_df160 p1 p2 post) : Met l yJ0_checkIndex_df160 wsJ0_checkIndex_df160 ({ frames := 1, cells := 0, slots := 0, locals := 22 }) (va_Pc [.int p1, .int p2] (mPre D cs ev ([] : va_W) sz0)) (va_Qv post (fun _ t => mAt D cs (va_A ([] : va_W) sz0) ([] : va_W) t) (va_A ([] : va_W) sz0)) 0 0 (va_A ([] : va_W) sz0) := by
  refine Met.ofW (cc := cJ0_checkIndex_df160) (maxL := 2) (ret := none) (by decide) rfl ?_
  intro p e s m args below meth c s₁ B hml hv
  obtain ⟨rfl, hsz, hP, hK, hD0, hE⟩ := hv
  have hx := B.exec
  have hb := B.bytes
  have hr := B.returns
  have hts := atoms_spec (ws := wsJ0_checkIndex_df160) B.pre
  have hown : s.vm.findClass RJ0 = some m.cls := findClass_of_methodNamed B.named
  have hlocks := B.notSynchronized
  subst hsz
  have hD := hD0.self (sz := s.heap.size)
  generalize hAe : va_A ([] : va_W) s.heap.size = A at hD hE ⊢
  have hA : ∀ q : Nat, s.heap.size ≤ q → A q := fun q h => by rw [← hAe]; exact Or.inr h
  have hS : va_S A s.heap s.heap [] := va_S.rf
  have hl := lv_entry ([.int p1, .int p2]) (n := 2) (Nat.le_of_ble_eq_true rfl)
  rw [lg_entry_eq]
  generalize (lg_sl ([.int p1, .int p2]) ++ List.replicate (2 - (lg_sl ([.int p1, .int p2])).length) Slot.unset).toArray = ls at hl ⊢
  have hl : lv_has ls 2 [(0, .int p1), (1, .int p2)] := hl
  refine lv_iload_n hx hb dJ0_checkIndex_df160_0 rfl (lv_at hl 0 rfl) ?_
  refine lv_iload_n hx hb dJ0_checkIndex_df160_1 rfl (lv_at hl 1 rfl) ?_
  rcases hE.2.2.2.2.2.2.2.2.2.2 with hz | ⟨any_1, hz⟩
  · refine va_gets hx hb hz hS hown (hts (.fieldLink RJ0 1053 "jdk/internal/util/Preconditions" "SIOOBE_FORMATTER" "Ljava/util/function/BiFunction;") (by decide +kernel)) (fun _ h9 => h9) dJ0_checkIndex_df160_2 ?_
    have h := h.1
    have hFc := va_free (wc := ([] : va_W)) hD hS hA [] rfl
    refine va_calli (va_runS (As := [.int p1, .int p2, .null]) (rest := []) ⟨hx, hb, hml, hown, hts⟩ (met_J3_checkIndex_8e157_N l D cs ev _ p1 p2 _ h) (va_cwS 3 hts gJ0_checkIndex_df160_J3_checkIndex_8e157 rfl rfl rfl (by decide +kernel) ⟨Nat.le_of_ble_eq_true rfl, Nat.le_of_ble_eq_true rfl⟩) (mPreS hP hD hS hK hE hFc [] (by decide) rfl) rfl rfl hl.1 rfl (lv_room (Nat.le_of_ble_eq_true rfl)) dJ0_checkIndex_df160_5 ⟨Nat.le_of_ble_eq_true rfl, Nat.le_of_ble_eq_true rfl⟩) hS (fun q _ h => hFc q h) hFc (fun r_2 u t H1 locs ht hvm hw hB hz1 hk1 hS => ?_)
    have h := hw
    obtain ⟨hP1, hK1, hD1⟩ := hB
    rw [ht] at hP1
    obtain ⟨hP, hD⟩ := mJoin (wr := ([] : va_W)) (w1 := ([] : va_W)) (w' := ([] : va_W)) hP hD [] [] rfl rfl (by decide) (by decide) hk1 hFc hP1 hD1 [] (by decide) rfl
    generalize H1 = H at hP hS ⊢
    refine lv_pop hx hb dJ0_checkIndex_df160_8 rfl ?_
    exact W.vret hx hb hr (fun t ht hW => ⟨⟨(), rfl, h, by rw [ht]; exact hP, va_K.moved hW.alike hK, hD⟩, hS.F ht⟩) hS.2.2 dJ0_checkIndex_df160_9
  · refine va_gets hx hb hz hS hown (hts (.fieldLink RJ0 1053 "jdk/internal/util/Preconditions" "SIOOBE_FORMATTER" "Ljava/util/function/BiFunction;") (by decide +kernel)) (fun _ h9 => h9) dJ0_checkIndex_df160_2 ?_
    have h := h.2 any_1
    have hFc := va_free (wc := ([] : va_W)) hD hS hA [] rfl
    refine va_calli (va_runS (As := [.int p1, .int p2, .ref any_1]) (rest := []) ⟨hx, hb, hml, hown, hts⟩ (met_J3_checkIndex_8e157_R l D cs ev _ p1 p2 any_1 _ h) (va_cwS 3 hts gJ0_checkIndex_df160_J3_checkIndex_8e157 rfl rfl rfl (by decide +kernel) ⟨Nat.le_of_ble_eq_true rfl, Nat.le_of_ble_eq_true rfl⟩) (mPreS hP hD hS hK hE hFc [] (by decide) rfl) rfl rfl hl.1 rfl (lv_room (Nat.le_of_ble_eq_true rfl)) dJ0_checkIndex_df160_5 ⟨Nat.le_of_ble_eq_true rfl, Nat.le_of_ble_eq_true rfl⟩) hS (fun q _ h => hFc q h) hFc (fun r_3 u t H1 locs ht hvm hw hB hz1 hk1 hS => ?_)
    have h := hw
    obtain ⟨hP1, hK1, hD1⟩ := hB
    rw [ht] at hP1
    obtain ⟨hP, hD⟩ := mJoin (wr := ([] : va_W)) (w1 := ([] : va_W)) (w' := ([] : va_W)) hP hD [] [] rfl rfl (by decide) (by decide) hk1 hFc hP1 hD1 [] (by decide) rfl
    generalize H1 = H at hP hS ⊢
    refine lv_pop hx hb dJ0_checkIndex_df160_8 rfl ?_
    exact W.vret hx hb hr (fun t ht hW => ⟨⟨(), rfl, h, by rw [ht]; exact hP, va_K.moved hW.alike hK, hD⟩, hS.F ht⟩) hS.2.2 dJ0_checkIndex_df160_9
def wp_J1_charAt_3b067 (k : Nat) (p2 : Int32) (post : Int32 → Unit → Prop) : Prop :=
    (k < 9 ∧ wp_J0_checkIndex_df160 p2 (Int32.ofNat (strLen.getD k 0)) (fun _ => (k < 9 ∧ vp_in p2 (strLen.getD k 0) ∧ (narrow .char (.int (((((strByt.getD k []).getD p2.toNatClampNeg 0) &&& 255).toUInt32 % 65536).toInt32)) = .int (((((strByt.getD k []).getD p2.toNatClampNeg 0) &&& 255).toUInt32 % 65536).toInt32) ∧ post (((((strByt.getD k []).getD p2.toNatClampNeg 0) &&& 255).toUInt32 % 65536).toInt32) ()))))
set_option maxHeartbeats 4000000 in
set_option maxRecDepth 100000 in
theorem met_J1_charAt_3b067 (l : Launch) (D : va_G) (cs : Nat → ClassId) (ev : Nat → Nat → Nat) (sz0 : Nat) (k : Nat) (p2 : Int32) (post : Int32 → Unit → Prop) (h : wp_J1_charAt_3b067 k p2 post) : Met l yJ1_charAt_3b067 wsJ1_charAt_3b067 ({ frames := 2, cells := 0, slots := 0, locals := 43 }) (va_Pc [.ref (ev 2 k), .int p2] (mPre D cs ev ([] : va_W) sz0)) (va_Qi post (fun _ t => mAt D cs (va_A ([] : va_W) sz0) ([] : va_W) t) (va_A ([] : va_W) sz0)) 0 0 (va_A ([] : va_W) sz0) := by
  refine Met.ofW (cc := cJ1_charAt_3b067) (maxL := 2) (ret := (some .char)) (by decide) rfl ?_
  intro p e s m args below meth c s₁ B hml hv
  obtain ⟨rfl, hsz, hP, hK, hD0, hE⟩ := hv
  have hx := B.exec
  have hb := B.bytes
  have hr := B.returns
  have hts := atoms_spec (ws := wsJ1_charAt_3b067) B.pre
  have hown : s.vm.findClass RJ1 = some m.cls := findClass_of_methodNamed B.named
  have hlocks := B.notSynchronized
  subst hsz
  have hD := hD0.self (sz := s.heap.size)
  generalize hAe : va_A ([] : va_W) s.heap.size = A at hD hE ⊢
  have hA : ∀ q : Nat, s.heap.size ≤ q → A q := fun q h => by rw [← hAe]; exact Or.inr h
  have hS : va_S A s.heap s.heap [] := va_S.rf
  have hl := lv_entry ([.ref (ev 2 k), .int p2]) (n := 2) (Nat.le_of_ble_eq_true rfl)
  rw [lg_entry_eq]
  generalize (lg_sl ([.ref (ev 2 k), .int p2]) ++ List.replicate (2 - (lg_sl ([.ref (ev 2 k), .int p2])).length) Slot.unset).toArray = ls at hl ⊢
  have hl : lv_has ls 2 [(0, .ref (ev 2 k)), (1, .int p2)] := hl
  refine lv_iload_n hx hb dJ1_charAt_3b067_0 rfl (lv_at hl 1 rfl) ?_
  refine lv_aload_n hx hb dJ1_charAt_3b067_1 rfl (lv_at hl 0 rfl) ?_
  have hk := h.1
  have h := h.2
  refine va_tlen hx hb (hE.2.2.2.2.1.1 k hk).2.2.2 hS rfl dJ1_charAt_3b067_2 ?_
  have hFc := va_free (wc := ([] : va_W)) hD hS hA [] rfl
  refine va_callv (va_runS (As := [.int p2, .int (Int32.ofNat (strLen.getD k 0))]) (rest := []) ⟨hx, hb, hml, hown, hts⟩ (met_J0_checkIndex_df160 l D cs ev _ p2 (Int32.ofNat (strLen.getD k 0)) _ h) (va_cwS 2 hts gJ1_charAt_3b067_J0_checkIndex_df160 rfl rfl rfl (by decide +kernel) ⟨Nat.le_of_ble_eq_true rfl, Nat.le_of_ble_eq_true rfl⟩) (mPreS hP hD hS hK hE hFc [] (by decide) rfl) rfl rfl hl.1 rfl (lv_room (Nat.le_of_ble_eq_true rfl)) dJ1_charAt_3b067_3 ⟨Nat.le_of_ble_eq_true rfl, Nat.le_of_ble_eq_true rfl⟩) hS (fun q _ h => hFc q h) hFc (fun u t H1 locs ht hvm hw hB hz1 hk1 hS => ?_)
  have h := hw
  obtain ⟨hP1, hK1, hD1⟩ := hB
  rw [ht] at hP1
  obtain ⟨hP, hD⟩ := mJoin (wr := ([] : va_W)) (w1 := ([] : va_W)) (w' := ([] : va_W)) hP hD [] [] rfl rfl (by decide) (by decide) hk1 hFc hP1 hD1 [] (by decide) rfl
  generalize H1 = H at hP hS ⊢
  refine lv_aload_n hx hb dJ1_charAt_3b067_6 rfl (lv_at hl 0 rfl) ?_
  refine lv_iload_n hx hb dJ1_charAt_3b067_7 rfl (lv_at hl 1 rfl) ?_
  have hk := h.1
  have hin := h.2.1
  have h := h.2.2
  refine va_tb (v := .int ((strByt.getD k []).getD p2.toNatClampNeg 0)) hx hb (hE.2.2.2.2.1.1 k hk).2.2.2 hS hin rfl dJ1_charAt_3b067_8 ?_
  refine lv_sipush (v := 255) hx hb dJ1_charAt_3b067_9 (by decide) ?_
  refine lv_iand hx hb dJ1_charAt_3b067_12 ?_
  refine lv_i2c hx hb dJ1_charAt_3b067_13 rfl ?_
  have hn := h.1
  have h := h.2
  exact W.zret (v := ((((strByt.getD k []).getD p2.toNatClampNeg 0) &&& 255).toUInt32 % 65536).toInt32) hx hb hr hn (fun t ht hW => ⟨⟨((((strByt.getD k []).getD p2.toNatClampNeg 0) &&& 255).toUInt32 % 65536).toInt32, (), rfl, h, by rw [ht]; exact hP, va_K.moved hW.alike hK, hD⟩, hS.F ht⟩) hS.2.2 dJ1_charAt_3b067_14
def wp_J0_isLatin1_aae02 (k : Nat) (post : Int32 → Unit → Prop) : Prop :=
    (((1 : Int32) = 0 → post 0 ()) ∧ (¬ (1 : Int32) = 0 → (k < 9 ∧ (((0 : Int32) = 0 → post 1 ()) ∧ (¬ (0 : Int32) = 0 → post 0 ())))))
set_option maxHeartbeats 4000000 in
set_option maxRecDepth 100000 in
theorem met_J0_isLatin1_aae02 (l : Launch) (D : va_G) (cs : Nat → ClassId) (ev : Nat → Nat → Nat) (sz0 : Nat) (k : Nat) (post : Int32 → Unit → Prop) (h : wp_J0_isLatin1_aae02 k post) : Met l yJ0_isLatin1_aae02 wsJ0_isLatin1_aae02 ({ frames := 0, cells := 0, slots := 0, locals := 0 }) (va_Pc [.ref (ev 1 k)] (mPre D cs ev ([] : va_W) sz0)) (va_Qi post (fun _ t => mAt D cs (va_A ([] : va_W) sz0) ([] : va_W) t) (va_A ([] : va_W) sz0)) 0 0 (va_A ([] : va_W) sz0) := by
  refine Met.ofW (cc := cJ0_isLatin1_aae02) (maxL := 1) (ret := (some .boolean)) (by decide) rfl ?_
  intro p e s m args below meth c s₁ B hml hv
  obtain ⟨rfl, hsz, hP, hK, hD0, hE⟩ := hv
  have hx := B.exec
  have hb := B.bytes
  have hr := B.returns
  have hts := atoms_spec (ws := wsJ0_isLatin1_aae02) B.pre
  have hown : s.vm.findClass RJ0 = some m.cls := findClass_of_methodNamed B.named
  have hlocks := B.notSynchronized
  subst hsz
  have hD := hD0.self (sz := s.heap.size)
  generalize hAe : va_A ([] : va_W) s.heap.size = A at hD hE ⊢
  have hA : ∀ q : Nat, s.heap.size ≤ q → A q := fun q h => by rw [← hAe]; exact Or.inr h
  have hS : va_S A s.heap s.heap [] := va_S.rf
  have hl := lv_entry ([.ref (ev 1 k)]) (n := 1) (Nat.le_of_ble_eq_true rfl)
  rw [lg_entry_eq]
  generalize (lg_sl ([.ref (ev 1 k)]) ++ List.replicate (1 - (lg_sl ([.ref (ev 1 k)])).length) Slot.unset).toArray = ls at hl ⊢
  have hl : lv_has ls 1 [(0, .ref (ev 1 k))] := hl
  refine va_gets hx hb hE.2.2.2.2.2.2.2.2.2.1 hS hown (hts (.fieldLink RJ0 38 "java/lang/String" "COMPACT_STRINGS" "Z") (by decide +kernel)) (fun _ h9 => h9) dJ0_isLatin1_aae02_0 ?_
  refine lv_if_eq (tgt := 17) hx hb dJ0_isLatin1_aae02_3 (by decide) (fun c_1 => ?_) (fun c_1 => ?_)
  · have h := h.1 c_1
    refine lv_iconst (v := 0) hx hb dJ0_isLatin1_aae02_17 (by decide) ?_
    exact W.zret (v := 0) hx hb hr (by decide) (fun t ht hW => ⟨⟨0, (), rfl, h, by rw [ht]; exact hP, va_K.moved hW.alike hK, hD⟩, hS.F ht⟩) hS.2.2 dJ0_isLatin1_aae02_18
  · have h := h.2 c_1
    refine lv_aload_n hx hb dJ0_isLatin1_aae02_6 rfl (lv_at hl 0 rfl) ?_
    have hk := h.1
    have h := h.2
    refine vk_getf (v := .int 0) hx hb (hE.2.2.2.2.1.1 k hk).2.1 hS hown (hts (.fieldLink RJ0 15 "java/lang/String" "coder" "B") (by decide +kernel)) (fun _ h9 => h9) dJ0_isLatin1_aae02_7 ?_
    refine lv_if_ne (tgt := 17) hx hb dJ0_isLatin1_aae02_10 (by decide) (fun c_2 => ?_) (fun c_2 => ?_)
    · have h := h.2 c_2
      refine lv_iconst (v := 0) hx hb dJ0_isLatin1_aae02_17 (by decide) ?_
      exact W.zret (v := 0) hx hb hr (by decide) (fun t ht hW => ⟨⟨0, (), rfl, h, by rw [ht]; exact hP, va_K.moved hW.alike hK, hD⟩, hS.F ht⟩) hS.2.2 dJ0_isLatin1_aae02_18
    · have h := h.1 c_2
      refine lv_iconst (v := 1) hx hb dJ0_isLatin1_aae02_13 (by decide) ?_
      refine lv_goto (tgt := 18) hx hb dJ0_isLatin1_aae02_14 (by decide) ?_
      exact W.zret (v := 1) hx hb hr (by decide) (fun t ht hW => ⟨⟨1, (), rfl, h, by rw [ht]; exact hP, va_K.moved hW.alike hK, hD⟩, hS.F ht⟩) hS.2.2 dJ0_isLatin1_aae02_18
def wp_J0_coder_7d493 (k : Nat) (post : Int32 → Unit → Prop) : Prop :=
    (((1 : Int32) = 0 → post 1 ()) ∧ (¬ (1 : Int32) = 0 → (k < 9 ∧ post 0 ())))
set_option maxHeartbeats 4000000 in
set_option maxRecDepth 100000 in
theorem met_J0_coder_7d493 (l : Launch) (D : va_G) (cs : Nat → ClassId) (ev : Nat → Nat → Nat) (sz0 : Nat) (k : Nat) (post : Int32 → Unit → Prop) (h : wp_J0_coder_7d493 k post) : Met l yJ0_coder_7d493 wsJ0_coder_7d493 ({ frames := 0, cells := 0, slots := 0, locals := 0 }) (va_Pc [.ref (ev 1 k)] (mPre D cs ev ([] : va_W) sz0)) (va_Qi post (fun _ t => mAt D cs (va_A ([] : va_W) sz0) ([] : va_W) t) (va_A ([] : va_W) sz0)) 0 0 (va_A ([] : va_W) sz0) := by
  refine Met.ofW (cc := cJ0_coder_7d493) (maxL := 1) (ret := (some .byte)) (by decide) rfl ?_
  intro p e s m args below meth c s₁ B hml hv
  obtain ⟨rfl, hsz, hP, hK, hD0, hE⟩ := hv
  have hx := B.exec
  have hb := B.bytes
  have hr := B.returns
  have hts := atoms_spec (ws := wsJ0_coder_7d493) B.pre
  have hown : s.vm.findClass RJ0 = some m.cls := findClass_of_methodNamed B.named
  have hlocks := B.notSynchronized
  subst hsz
  have hD := hD0.self (sz := s.heap.size)
  generalize hAe : va_A ([] : va_W) s.heap.size = A at hD hE ⊢
  have hA : ∀ q : Nat, s.heap.size ≤ q → A q := fun q h => by rw [← hAe]; exact Or.inr h
  have hS : va_S A s.heap s.heap [] := va_S.rf
  have hl := lv_entry ([.ref (ev 1 k)]) (n := 1) (Nat.le_of_ble_eq_true rfl)
  rw [lg_entry_eq]
  generalize (lg_sl ([.ref (ev 1 k)]) ++ List.replicate (1 - (lg_sl ([.ref (ev 1 k)])).length) Slot.unset).toArray = ls at hl ⊢
  have hl : lv_has ls 1 [(0, .ref (ev 1 k))] := hl
  refine va_gets hx hb hE.2.2.2.2.2.2.2.2.2.1 hS hown (hts (.fieldLink RJ0 38 "java/lang/String" "COMPACT_STRINGS" "Z") (by decide +kernel)) (fun _ h9 => h9) dJ0_coder_7d493_0 ?_
  refine lv_if_eq (tgt := 13) hx hb dJ0_coder_7d493_3 (by decide) (fun c_1 => ?_) (fun c_1 => ?_)
  · have h := h.1 c_1
    refine lv_iconst (v := 1) hx hb dJ0_coder_7d493_13 (by decide) ?_
    exact W.zret (v := 1) hx hb hr (by decide) (fun t ht hW => ⟨⟨1, (), rfl, h, by rw [ht]; exact hP, va_K.moved hW.alike hK, hD⟩, hS.F ht⟩) hS.2.2 dJ0_coder_7d493_14
  · have h := h.2 c_1
    refine lv_aload_n hx hb dJ0_coder_7d493_6 rfl (lv_at hl 0 rfl) ?_
    have hk := h.1
    have h := h.2
    refine vk_getf (v := .int 0) hx hb (hE.2.2.2.2.1.1 k hk).2.1 hS hown (hts (.fieldLink RJ0 15 "java/lang/String" "coder" "B") (by decide +kernel)) (fun _ h9 => h9) dJ0_coder_7d493_7 ?_
    refine lv_goto (tgt := 14) hx hb dJ0_coder_7d493_10 (by decide) ?_
    exact W.zret (v := 0) hx hb hr (by decide) (fun t ht hW => ⟨⟨0, (), rfl, h, by rw [ht]; exact hP, va_K.moved hW.alike hK, hD⟩, hS.F ht⟩) hS.2.2 dJ0_coder_7d493_14
def wp_J0_length_8abf5 (k : Nat) (post : Int32 → Unit → Prop) : Prop :=
    (k < 9 ∧ (k < 9 ∧ (k < 9 ∧ wp_J0_coder_7d493 k (fun r_1 _ => post ((Int32.ofNat (strLen.getD k 0)) >>> (r_1 &&& 31)) ()))))
set_option maxHeartbeats 4000000 in
set_option maxRecDepth 100000 in
theorem met_J0_length_8abf5 (l : Launch) (D : va_G) (cs : Nat → ClassId) (ev : Nat → Nat → Nat) (sz0 : Nat) (k : Nat) (post : Int32 → Unit → Prop) (h : wp_J0_length_8abf5 k post) : Met l yJ0_length_8abf5 wsJ0_length_8abf5 ({ frames := 1, cells := 0, slots := 0, locals := 20 }) (va_Pc [.ref (ev 1 k)] (mPre D cs ev ([] : va_W) sz0)) (va_Qi post (fun _ t => mAt D cs (va_A ([] : va_W) sz0) ([] : va_W) t) (va_A ([] : va_W) sz0)) 0 0 (va_A ([] : va_W) sz0) := by
  refine Met.ofW (cc := cJ0_length_8abf5) (maxL := 1) (ret := (some .int)) (by decide) rfl ?_
  intro p e s m args below meth c s₁ B hml hv
  obtain ⟨rfl, hsz, hP, hK, hD0, hE⟩ := hv
  have hx := B.exec
  have hb := B.bytes
  have hr := B.returns
  have hts := atoms_spec (ws := wsJ0_length_8abf5) B.pre
  have hown : s.vm.findClass RJ0 = some m.cls := findClass_of_methodNamed B.named
  have hlocks := B.notSynchronized
  subst hsz
  have hD := hD0.self (sz := s.heap.size)
  generalize hAe : va_A ([] : va_W) s.heap.size = A at hD hE ⊢
  have hA : ∀ q : Nat, s.heap.size ≤ q → A q := fun q h => by rw [← hAe]; exact Or.inr h
  have hS : va_S A s.heap s.heap [] := va_S.rf
  have hl := lv_entry ([.ref (ev 1 k)]) (n := 1) (Nat.le_of_ble_eq_true rfl)
  rw [lg_entry_eq]
  generalize (lg_sl ([.ref (ev 1 k)]) ++ List.replicate (1 - (lg_sl ([.ref (ev 1 k)])).length) Slot.unset).toArray = ls at hl ⊢
  have hl : lv_has ls 1 [(0, .ref (ev 1 k))] := hl
  refine lv_aload_n hx hb dJ0_length_8abf5_0 rfl (lv_at hl 0 rfl) ?_
  have hk := h.1
  have h := h.2
  refine vk_getf (v := .ref (ev 2 k)) hx hb (hE.2.2.2.2.1.1 k hk).2.2.1 hS hown (hts (.fieldLink RJ0 9 "java/lang/String" "value" "[B") (by decide +kernel)) (fun _ h9 => h9) dJ0_length_8abf5_1 ?_
  have hk := h.1
  have h := h.2
  refine va_tlen hx hb (hE.2.2.2.2.1.1 k hk).2.2.2 hS rfl dJ0_length_8abf5_4 ?_
  refine lv_aload_n hx hb dJ0_length_8abf5_5 rfl (lv_at hl 0 rfl) ?_
  have hk := h.1
  have h := h.2
  have hFc := va_free (wc := ([] : va_W)) hD hS hA [] rfl
  refine va_calli (va_runV (As := []) (rest := [.int (Int32.ofNat (strLen.getD k 0))]) ⟨hx, hb, hml, hown, hts⟩ (met_J0_coder_7d493 l D cs ev _ k _ h) (cwV 0 hts gJ0_length_8abf5_J0_coder_7d493 rfl rfl rfl (by decide +kernel) ⟨Nat.le_of_ble_eq_true rfl, Nat.le_of_ble_eq_true rfl⟩) (mPreV (vk_recv hE.2.2.2.2.1 hk hS) hP hD hS hK hE hFc [] (by decide) rfl) rfl rfl hl.1 rfl (lv_room (Nat.le_of_ble_eq_true rfl)) dJ0_length_8abf5_6 ⟨Nat.le_of_ble_eq_true rfl, Nat.le_of_ble_eq_true rfl⟩) hS (fun q _ h => hFc q h) hFc (fun r_1 u t H1 locs ht hvm hw hB hz1 hk1 hS => ?_)
  have h := hw
  obtain ⟨hP1, hK1, hD1⟩ := hB
  rw [ht] at hP1
  obtain ⟨hP, hD⟩ := mJoin (wr := ([] : va_W)) (w1 := ([] : va_W)) (w' := ([] : va_W)) hP hD [] [] rfl rfl (by decide) (by decide) hk1 hFc hP1 hD1 [] (by decide) rfl
  generalize H1 = H at hP hS ⊢
  refine lv_ishr hx hb dJ0_length_8abf5_9 ?_
  exact W.iret (v := (Int32.ofNat (strLen.getD k 0)) >>> (r_1 &&& 31)) hx hb hr (fun t ht hW => ⟨⟨(Int32.ofNat (strLen.getD k 0)) >>> (r_1 &&& 31), (), rfl, h, by rw [ht]; exact hP, va_K.moved hW.alike hK, hD⟩, hS.F ht⟩) hS.2.2 dJ0_length_8abf5_10
def wp_J0_charAt_5068e (k : Nat) (p1 : Int32) (post : Int32 → Unit → Prop) : Prop :=
    (k < 9 ∧ wp_J0_isLatin1_aae02 k (fun r_1 _ => ((r_1 = 0 → False) ∧ (¬ r_1 = 0 → (k < 9 ∧ wp_J1_charAt_3b067 k p1 (fun r_3 _ => (narrow .char (.int r_3) = .int r_3 ∧ post r_3 ())))))))
set_option maxHeartbeats 4000000 in
set_option maxRecDepth 100000 in
theorem met_J0_charAt_5068e (l : Launch) (D : va_G) (cs : Nat → ClassId) (ev : Nat → Nat → Nat) (sz0 : Nat) (k : Nat) (p1 : Int32) (post : Int32 → Unit → Prop) (h : wp_J0_charAt_5068e k p1 post) : Met l yJ0_charAt_5068e wsJ0_charAt_5068e ({ frames := 3, cells := 0, slots := 0, locals := 64 }) (va_Pc [.ref (ev 1 k), .int p1] (mPre D cs ev ([] : va_W) sz0)) (va_Qi post (fun _ t => mAt D cs (va_A ([] : va_W) sz0) ([] : va_W) t) (va_A ([] : va_W) sz0)) 0 0 (va_A ([] : va_W) sz0) := by
  refine Met.ofW (cc := cJ0_charAt_5068e) (maxL := 2) (ret := (some .char)) (by decide) rfl ?_
  intro p e s m args below meth c s₁ B hml hv
  obtain ⟨rfl, hsz, hP, hK, hD0, hE⟩ := hv
  have hx := B.exec
  have hb := B.bytes
  have hr := B.returns
  have hts := atoms_spec (ws := wsJ0_charAt_5068e) B.pre
  have hown : s.vm.findClass RJ0 = some m.cls := findClass_of_methodNamed B.named
  have hlocks := B.notSynchronized
  subst hsz
  have hD := hD0.self (sz := s.heap.size)
  generalize hAe : va_A ([] : va_W) s.heap.size = A at hD hE ⊢
  have hA : ∀ q : Nat, s.heap.size ≤ q → A q := fun q h => by rw [← hAe]; exact Or.inr h
  have hS : va_S A s.heap s.heap [] := va_S.rf
  have hl := lv_entry ([.ref (ev 1 k), .int p1]) (n := 2) (Nat.le_of_ble_eq_true rfl)
  rw [lg_entry_eq]
  generalize (lg_sl ([.ref (ev 1 k), .int p1]) ++ List.replicate (2 - (lg_sl ([.ref (ev 1 k), .int p1])).length) Slot.unset).toArray = ls at hl ⊢
  have hl : lv_has ls 2 [(0, .ref (ev 1 k)), (1, .int p1)] := hl
  refine lv_aload_n hx hb dJ0_charAt_5068e_0 rfl (lv_at hl 0 rfl) ?_
  have hk := h.1
  have h := h.2
  have hFc := va_free (wc := ([] : va_W)) hD hS hA [] rfl
  refine va_calli (va_runV (As := []) (rest := []) ⟨hx, hb, hml, hown, hts⟩ (met_J0_isLatin1_aae02 l D cs ev _ k _ h) (cwV 0 hts gJ0_charAt_5068e_J0_isLatin1_aae02 rfl rfl rfl (by decide +kernel) ⟨Nat.le_of_ble_eq_true rfl, Nat.le_of_ble_eq_true rfl⟩) (mPreV (vk_recv hE.2.2.2.2.1 hk hS) hP hD hS hK hE hFc [] (by decide) rfl) rfl rfl hl.1 rfl (lv_room (Nat.le_of_ble_eq_true rfl)) dJ0_charAt_5068e_1 ⟨Nat.le_of_ble_eq_true rfl, Nat.le_of_ble_eq_true rfl⟩) hS (fun q _ h => hFc q h) hFc (fun r_1 u t H1 locs ht hvm hw hB hz1 hk1 hS => ?_)
  have h := hw
  obtain ⟨hP1, hK1, hD1⟩ := hB
  rw [ht] at hP1
  obtain ⟨hP, hD⟩ := mJoin (wr := ([] : va_W)) (w1 := ([] : va_W)) (w' := ([] : va_W)) hP hD [] [] rfl rfl (by decide) (by decide) hk1 hFc hP1 hD1 [] (by decide) rfl
  generalize H1 = H at hP hS ⊢
  refine lv_if_eq (tgt := 16) hx hb dJ0_charAt_5068e_4 (by decide) (fun c_2 => ?_) (fun c_2 => ?_)
  · have h := h.1 c_2
    exact h.elim
  · have h := h.2 c_2
    refine lv_aload_n hx hb dJ0_charAt_5068e_7 rfl (lv_at hl 0 rfl) ?_
    have hk := h.1
    have h := h.2
    refine vk_getf (v := .ref (ev 2 k)) hx hb (hE.2.2.2.2.1.1 k hk).2.2.1 hS hown (hts (.fieldLink RJ0 9 "java/lang/String" "value" "[B") (by decide +kernel)) (fun _ h9 => h9) dJ0_charAt_5068e_8 ?_
    refine lv_iload_n hx hb dJ0_charAt_5068e_11 rfl (lv_at hl 1 rfl) ?_
    have hFc := va_free (wc := ([] : va_W)) hD hS hA [] rfl
    refine va_calli (va_runS (As := [.ref (ev 2 k), .int p1]) (rest := []) ⟨hx, hb, hml, hown, hts⟩ (met_J1_charAt_3b067 l D cs ev _ k p1 _ h) (va_cwS 2 hts gJ0_charAt_5068e_J1_charAt_3b067 rfl rfl rfl (by decide +kernel) ⟨Nat.le_of_ble_eq_true rfl, Nat.le_of_ble_eq_true rfl⟩) (mPreS hP hD hS hK hE hFc [] (by decide) rfl) rfl rfl hl.1 rfl (lv_room (Nat.le_of_ble_eq_true rfl)) dJ0_charAt_5068e_12 ⟨Nat.le_of_ble_eq_true rfl, Nat.le_of_ble_eq_true rfl⟩) hS (fun q _ h => hFc q h) hFc (fun r_3 u t H1 locs ht hvm hw hB hz1 hk1 hS => ?_)
    have h := hw
    obtain ⟨hP1, hK1, hD1⟩ := hB
    rw [ht] at hP1
    obtain ⟨hP, hD⟩ := mJoin (wr := ([] : va_W)) (w1 := ([] : va_W)) (w' := ([] : va_W)) hP hD [] [] rfl rfl (by decide) (by decide) hk1 hFc hP1 hD1 [] (by decide) rfl
    generalize H1 = H at hP hS ⊢
    have hn := h.1
    have h := h.2
    exact W.zret (v := r_3) hx hb hr hn (fun t ht hW => ⟨⟨r_3, (), rfl, h, by rw [ht]; exact hP, va_K.moved hW.alike hK, hD⟩, hS.F ht⟩) hS.2.2 dJ0_charAt_5068e_15
end
section
def wp_X1_hasPart (pnP : Int32) (p1 : Int32) (post : Int32 → Unit → Prop) : Prop :=
    ((p1 < 0 → post 0 ()) ∧ (¬ p1 < 0 → ((pnP ≤ p1 → post 0 ()) ∧ (¬ pnP ≤ p1 → post 1 ()))))
set_option maxHeartbeats 4000000 in
set_option maxRecDepth 100000 in
theorem met_X1_hasPart (l : Launch) (D : va_G) (cs : Nat → ClassId) (ev : Nat → Nat → Nat) (sz0 : Nat) (adP : Nat → Nat) (kdP : Nat → Int32) (grP : Nat → Int64) (cvP : Nat → Int32) (brP : Nat → Int32) (hzP : Nat → Int32) (fmP : Nat → Int32) (dmP : Nat → Int32) (e1P : Nat → Int32) (e2P : Nat → Int32) (fkP : Nat → Int32) (pnP : Int32) (fnP : Int32) (p1 : Int32) (post : Int32 → Unit → Prop) (h : wp_X1_hasPart pnP p1 post) : Met l yX1_hasPart wsX1_hasPart ({ frames := 0, cells := 0, slots := 0, locals := 0 }) (va_Pc [.ref (adP 0), .int p1] (mPre D cs ev (sh_P cs adP kdP grP cvP brP hzP fmP dmP e1P e2P fkP pnP fnP) sz0)) (va_Qi post (fun _ t => mAt D cs (va_A (sh_P cs adP kdP grP cvP brP hzP fmP dmP e1P e2P fkP pnP fnP) sz0) (sh_P cs adP kdP grP cvP brP hzP fmP dmP e1P e2P fkP pnP fnP) t) (va_A (sh_P cs adP kdP grP cvP brP hzP fmP dmP e1P e2P fkP pnP fnP) sz0)) 0 0 (va_A (sh_P cs adP kdP grP cvP brP hzP fmP dmP e1P e2P fkP pnP fnP) sz0) := by
  refine Met.ofW (cc := cX1_hasPart) (maxL := 2) (ret := (some .boolean)) (by decide) rfl ?_
  intro p e s m args below meth c s₁ B hml hv
  obtain ⟨rfl, hsz, hP, hK, hD0, hE⟩ := hv
  have hx := B.exec
  have hb := B.bytes
  have hr := B.returns
  have hts := atoms_spec (ws := wsX1_hasPart) B.pre
  have hown : s.vm.findClass RX1 = some m.cls := findClass_of_methodNamed B.named
  have hlocks := B.notSynchronized
  subst hsz
  have hD := hD0.self (sz := s.heap.size)
  generalize hAe : va_A (sh_P cs adP kdP grP cvP brP hzP fmP dmP e1P e2P fkP pnP fnP) s.heap.size = A at hD hE ⊢
  have hA : ∀ q : Nat, s.heap.size ≤ q → A q := fun q h => by rw [← hAe]; exact Or.inr h
  have hS : va_S A s.heap s.heap [] := va_S.rf
  have hl := lv_entry ([.ref (adP 0), .int p1]) (n := 2) (Nat.le_of_ble_eq_true rfl)
  rw [lg_entry_eq]
  generalize (lg_sl ([.ref (adP 0), .int p1]) ++ List.replicate (2 - (lg_sl ([.ref (adP 0), .int p1])).length) Slot.unset).toArray = ls at hl ⊢
  have hl : lv_has ls 2 [(0, .ref (adP 0)), (1, .int p1)] := hl
  refine lv_iload_n hx hb dX1_hasPart_0 rfl (lv_at hl 1 rfl) ?_
  refine lv_if_lt (tgt := 16) hx hb dX1_hasPart_1 (by decide) (fun c_1 => ?_) (fun c_1 => ?_)
  · have h := h.1 c_1
    refine lv_iconst (v := 0) hx hb dX1_hasPart_16 (by decide) ?_
    exact W.zret (v := 0) hx hb hr (by decide) (fun t ht hW => ⟨⟨0, (), rfl, h, by rw [ht]; exact hP, va_K.moved hW.alike hK, hD⟩, hS.F ht⟩) hS.2.2 dX1_hasPart_17
  · have h := h.2 c_1
    refine lv_iload_n hx hb dX1_hasPart_4 rfl (lv_at hl 1 rfl) ?_
    refine lv_aload_n hx hb dX1_hasPart_5 rfl (lv_at hl 0 rfl) ?_
    refine va_get (D := D) (ci := 1) (v := .int pnP) (C := RX1) (T := TX1) (N := 12) hx hb hts (by decide +kernel) hown hK hP 0 rfl rfl 10 (by decide) (hts (.fieldLink RX1 43 "PartGraphs$Product" "partCount" "I") (by decide +kernel)) (fun _ h9 => h9) rfl dX1_hasPart_6 ?_
    refine lv_icmp_ge (tgt := 16) hx hb dX1_hasPart_9 (by decide) (fun c_2 => ?_) (fun c_2 => ?_)
    · have h := h.1 c_2
      refine lv_iconst (v := 0) hx hb dX1_hasPart_16 (by decide) ?_
      exact W.zret (v := 0) hx hb hr (by decide) (fun t ht hW => ⟨⟨0, (), rfl, h, by rw [ht]; exact hP, va_K.moved hW.alike hK, hD⟩, hS.F ht⟩) hS.2.2 dX1_hasPart_17
    · have h := h.2 c_2
      refine lv_iconst (v := 1) hx hb dX1_hasPart_12 (by decide) ?_
      refine lv_goto (tgt := 17) hx hb dX1_hasPart_13 (by decide) ?_
      exact W.zret (v := 1) hx hb hr (by decide) (fun t ht hW => ⟨⟨1, (), rfl, h, by rw [ht]; exact hP, va_K.moved hW.alike hK, hD⟩, hS.F ht⟩) hS.2.2 dX1_hasPart_17
def wp_X1_areTwoParts (pnP : Int32) (p1 : Int32) (p2 : Int32) (post : Int32 → Unit → Prop) : Prop :=
    ((p1 < 0 → post 0 ()) ∧ (¬ p1 < 0 → ((pnP ≤ p1 → post 0 ()) ∧ (¬ pnP ≤ p1 → ((p2 < 0 → post 0 ()) ∧ (¬ p2 < 0 → ((pnP ≤ p2 → post 0 ()) ∧ (¬ pnP ≤ p2 → ((p1 = p2 → post 0 ()) ∧ (¬ p1 = p2 → post 1 ()))))))))))
set_option maxHeartbeats 4000000 in
set_option maxRecDepth 100000 in
theorem met_X1_areTwoParts (l : Launch) (D : va_G) (cs : Nat → ClassId) (ev : Nat → Nat → Nat) (sz0 : Nat) (adP : Nat → Nat) (kdP : Nat → Int32) (grP : Nat → Int64) (cvP : Nat → Int32) (brP : Nat → Int32) (hzP : Nat → Int32) (fmP : Nat → Int32) (dmP : Nat → Int32) (e1P : Nat → Int32) (e2P : Nat → Int32) (fkP : Nat → Int32) (pnP : Int32) (fnP : Int32) (p1 : Int32) (p2 : Int32) (post : Int32 → Unit → Prop) (h : wp_X1_areTwoParts pnP p1 p2 post) : Met l yX1_areTwoParts wsX1_areTwoParts ({ frames := 0, cells := 0, slots := 0, locals := 0 }) (va_Pc [.ref (adP 0), .int p1, .int p2] (mPre D cs ev (sh_P cs adP kdP grP cvP brP hzP fmP dmP e1P e2P fkP pnP fnP) sz0)) (va_Qi post (fun _ t => mAt D cs (va_A (sh_P cs adP kdP grP cvP brP hzP fmP dmP e1P e2P fkP pnP fnP) sz0) (sh_P cs adP kdP grP cvP brP hzP fmP dmP e1P e2P fkP pnP fnP) t) (va_A (sh_P cs adP kdP grP cvP brP hzP fmP dmP e1P e2P fkP pnP fnP) sz0)) 0 0 (va_A (sh_P cs adP kdP grP cvP brP hzP fmP dmP e1P e2P fkP pnP fnP) sz0) := by
  refine Met.ofW (cc := cX1_areTwoParts) (maxL := 3) (ret := (some .boolean)) (by decide) rfl ?_
  intro p e s m args below meth c s₁ B hml hv
  obtain ⟨rfl, hsz, hP, hK, hD0, hE⟩ := hv
  have hx := B.exec
  have hb := B.bytes
  have hr := B.returns
  have hts := atoms_spec (ws := wsX1_areTwoParts) B.pre
  have hown : s.vm.findClass RX1 = some m.cls := findClass_of_methodNamed B.named
  have hlocks := B.notSynchronized
  subst hsz
  have hD := hD0.self (sz := s.heap.size)
  generalize hAe : va_A (sh_P cs adP kdP grP cvP brP hzP fmP dmP e1P e2P fkP pnP fnP) s.heap.size = A at hD hE ⊢
  have hA : ∀ q : Nat, s.heap.size ≤ q → A q := fun q h => by rw [← hAe]; exact Or.inr h
  have hS : va_S A s.heap s.heap [] := va_S.rf
  have hl := lv_entry ([.ref (adP 0), .int p1, .int p2]) (n := 3) (Nat.le_of_ble_eq_true rfl)
  rw [lg_entry_eq]
  generalize (lg_sl ([.ref (adP 0), .int p1, .int p2]) ++ List.replicate (3 - (lg_sl ([.ref (adP 0), .int p1, .int p2])).length) Slot.unset).toArray = ls at hl ⊢
  have hl : lv_has ls 3 [(0, .ref (adP 0)), (1, .int p1), (2, .int p2)] := hl
  refine lv_iload_n hx hb dX1_areTwoParts_0 rfl (lv_at hl 1 rfl) ?_
  refine lv_if_lt (tgt := 33) hx hb dX1_areTwoParts_1 (by decide) (fun c_1 => ?_) (fun c_1 => ?_)
  · have h := h.1 c_1
    refine lv_iconst (v := 0) hx hb dX1_areTwoParts_33 (by decide) ?_
    exact W.zret (v := 0) hx hb hr (by decide) (fun t ht hW => ⟨⟨0, (), rfl, h, by rw [ht]; exact hP, va_K.moved hW.alike hK, hD⟩, hS.F ht⟩) hS.2.2 dX1_areTwoParts_34
  · have h := h.2 c_1
    refine lv_iload_n hx hb dX1_areTwoParts_4 rfl (lv_at hl 1 rfl) ?_
    refine lv_aload_n hx hb dX1_areTwoParts_5 rfl (lv_at hl 0 rfl) ?_
    refine va_get (D := D) (ci := 1) (v := .int pnP) (C := RX1) (T := TX1) (N := 12) hx hb hts (by decide +kernel) hown hK hP 0 rfl rfl 10 (by decide) (hts (.fieldLink RX1 43 "PartGraphs$Product" "partCount" "I") (by decide +kernel)) (fun _ h9 => h9) rfl dX1_areTwoParts_6 ?_
    refine lv_icmp_ge (tgt := 33) hx hb dX1_areTwoParts_9 (by decide) (fun c_2 => ?_) (fun c_2 => ?_)
    · have h := h.1 c_2
      refine lv_iconst (v := 0) hx hb dX1_areTwoParts_33 (by decide) ?_
      exact W.zret (v := 0) hx hb hr (by decide) (fun t ht hW => ⟨⟨0, (), rfl, h, by rw [ht]; exact hP, va_K.moved hW.alike hK, hD⟩, hS.F ht⟩) hS.2.2 dX1_areTwoParts_34
    · have h := h.2 c_2
      refine lv_iload_n hx hb dX1_areTwoParts_12 rfl (lv_at hl 2 rfl) ?_
      refine lv_if_lt (tgt := 33) hx hb dX1_areTwoParts_13 (by decide) (fun c_3 => ?_) (fun c_3 => ?_)
      · have h := h.1 c_3
        refine lv_iconst (v := 0) hx hb dX1_areTwoParts_33 (by decide) ?_
        exact W.zret (v := 0) hx hb hr (by decide) (fun t ht hW => ⟨⟨0, (), rfl, h, by rw [ht]; exact hP, va_K.moved hW.alike hK, hD⟩, hS.F ht⟩) hS.2.2 dX1_areTwoParts_34
      · have h := h.2 c_3
        refine lv_iload_n hx hb dX1_areTwoParts_16 rfl (lv_at hl 2 rfl) ?_
        refine lv_aload_n hx hb dX1_areTwoParts_17 rfl (lv_at hl 0 rfl) ?_
        refine va_get (D := D) (ci := 1) (v := .int pnP) (C := RX1) (T := TX1) (N := 12) hx hb hts (by decide +kernel) hown hK hP 0 rfl rfl 10 (by decide) (hts (.fieldLink RX1 43 "PartGraphs$Product" "partCount" "I") (by decide +kernel)) (fun _ h9 => h9) rfl dX1_areTwoParts_18 ?_
        refine lv_icmp_ge (tgt := 33) hx hb dX1_areTwoParts_21 (by decide) (fun c_4 => ?_) (fun c_4 => ?_)
        · have h := h.1 c_4
          refine lv_iconst (v := 0) hx hb dX1_areTwoParts_33 (by decide) ?_
          exact W.zret (v := 0) hx hb hr (by decide) (fun t ht hW => ⟨⟨0, (), rfl, h, by rw [ht]; exact hP, va_K.moved hW.alike hK, hD⟩, hS.F ht⟩) hS.2.2 dX1_areTwoParts_34
        · have h := h.2 c_4
          refine lv_iload_n hx hb dX1_areTwoParts_24 rfl (lv_at hl 1 rfl) ?_
          refine lv_iload_n hx hb dX1_areTwoParts_25 rfl (lv_at hl 2 rfl) ?_
          refine lv_icmp_eq (tgt := 33) hx hb dX1_areTwoParts_26 (by decide) (fun c_5 => ?_) (fun c_5 => ?_)
          · have h := h.1 c_5
            refine lv_iconst (v := 0) hx hb dX1_areTwoParts_33 (by decide) ?_
            exact W.zret (v := 0) hx hb hr (by decide) (fun t ht hW => ⟨⟨0, (), rfl, h, by rw [ht]; exact hP, va_K.moved hW.alike hK, hD⟩, hS.F ht⟩) hS.2.2 dX1_areTwoParts_34
          · have h := h.2 c_5
            refine lv_iconst (v := 1) hx hb dX1_areTwoParts_29 (by decide) ?_
            refine lv_goto (tgt := 34) hx hb dX1_areTwoParts_30 (by decide) ?_
            exact W.zret (v := 1) hx hb hr (by decide) (fun t ht hW => ⟨⟨1, (), rfl, h, by rw [ht]; exact hP, va_K.moved hW.alike hK, hD⟩, hS.F ht⟩) hS.2.2 dX1_areTwoParts_34
def wp_X1_clear (post : (Int32 × Int32) → Prop) : Prop :=
    post (0, 0)
set_option maxHeartbeats 4000000 in
set_option maxRecDepth 100000 in
theorem met_X1_clear (l : Launch) (D : va_G) (cs : Nat → ClassId) (ev : Nat → Nat → Nat) (sz0 : Nat) (adP : Nat → Nat) (kdP : Nat → Int32) (grP : Nat → Int64) (cvP : Nat → Int32) (brP : Nat → Int32) (hzP : Nat → Int32) (fmP : Nat → Int32) (dmP : Nat → Int32) (e1P : Nat → Int32) (e2P : Nat → Int32) (fkP : Nat → Int32) (pnP : Int32) (fnP : Int32) (post : (Int32 × Int32) → Prop) (h : wp_X1_clear  post) : Met l yX1_clear wsX1_clear ({ frames := 0, cells := 0, slots := 0, locals := 0 }) (va_Pc [.ref (adP 0)] (mPre D cs ev (sh_P cs adP kdP grP cvP brP hzP fmP dmP e1P e2P fkP pnP fnP) sz0)) (va_Qv post (fun u t => match u with | (pnP', fnP') => mAt D cs (va_A (sh_P cs adP kdP grP cvP brP hzP fmP dmP e1P e2P fkP pnP fnP) sz0) (sh_P cs adP kdP grP cvP brP hzP fmP dmP e1P e2P fkP pnP' fnP') t) (va_A (sh_P cs adP kdP grP cvP brP hzP fmP dmP e1P e2P fkP pnP fnP) sz0)) 0 0 (va_A (sh_P cs adP kdP grP cvP brP hzP fmP dmP e1P e2P fkP pnP fnP) sz0) := by
  refine Met.ofW (cc := cX1_clear) (maxL := 1) (ret := none) (by decide) rfl ?_
  intro p e s m args below meth c s₁ B hml hv
  obtain ⟨rfl, hsz, hP, hK, hD0, hE⟩ := hv
  have hx := B.exec
  have hb := B.bytes
  have hr := B.returns
  have hts := atoms_spec (ws := wsX1_clear) B.pre
  have hown : s.vm.findClass RX1 = some m.cls := findClass_of_methodNamed B.named
  have hlocks := B.notSynchronized
  subst hsz
  have hD := hD0.self (sz := s.heap.size)
  generalize hAe : va_A (sh_P cs adP kdP grP cvP brP hzP fmP dmP e1P e2P fkP pnP fnP) s.heap.size = A at hD hE ⊢
  have hA : ∀ q : Nat, s.heap.size ≤ q → A q := fun q h => by rw [← hAe]; exact Or.inr h
  have hS : va_S A s.heap s.heap [] := va_S.rf
  have hl := lv_entry ([.ref (adP 0)]) (n := 1) (Nat.le_of_ble_eq_true rfl)
  rw [lg_entry_eq]
  generalize (lg_sl ([.ref (adP 0)]) ++ List.replicate (1 - (lg_sl ([.ref (adP 0)])).length) Slot.unset).toArray = ls at hl ⊢
  have hl : lv_has ls 1 [(0, .ref (adP 0))] := hl
  refine lv_aload_n hx hb dX1_clear_0 rfl (lv_at hl 0 rfl) ?_
  refine lv_iconst (v := 0) hx hb dX1_clear_1 (by decide) ?_
  refine va_put (D := D) (ci := 1) (v := .int 0) (ty := .int) (C := RX1) (T := TX1) (N := 12) hx hb hts (by decide +kernel) tyX1 tyX1_ok nmX1 hown hK hP hD hS 0 rfl rfl 10 (by decide) (hts (.fieldLink RX1 43 "PartGraphs$Product" "partCount" "I") (by decide +kernel)) (fun _ h9 => h9) rfl (by decide +kernel) rfl rfl (Nat.le_of_ble_eq_true rfl) dX1_clear_2 (fun H locs hP hD hS => ?_)
  have hP : va_P D vwCl (sh_P cs adP kdP grP cvP brP hzP fmP dmP e1P e2P fkP 0 fnP) H := hP
  have hD : va_D A (sh_P cs adP kdP grP cvP brP hzP fmP dmP e1P e2P fkP 0 fnP) := hD
  refine lv_aload_n hx hb dX1_clear_5 rfl (lv_at hl 0 rfl) ?_
  refine lv_iconst (v := 0) hx hb dX1_clear_6 (by decide) ?_
  refine va_put (D := D) (ci := 1) (v := .int 0) (ty := .int) (C := RX1) (T := TX1) (N := 12) hx hb hts (by decide +kernel) tyX1 tyX1_ok nmX1 hown hK hP hD hS 0 rfl rfl 11 (by decide) (hts (.fieldLink RX1 47 "PartGraphs$Product" "fasteningCount" "I") (by decide +kernel)) (fun _ h9 => h9) rfl (by decide +kernel) rfl rfl (Nat.le_of_ble_eq_true rfl) dX1_clear_7 (fun H locs hP hD hS => ?_)
  have hP : va_P D vwCl (sh_P cs adP kdP grP cvP brP hzP fmP dmP e1P e2P fkP 0 0) H := hP
  have hD : va_D A (sh_P cs adP kdP grP cvP brP hzP fmP dmP e1P e2P fkP 0 0) := hD
  exact W.vret hx hb hr (fun t ht hW => ⟨⟨(0, 0), rfl, h, by rw [ht]; exact hP, va_K.moved hW.alike hK, hD⟩, hS.F ht⟩) hS.2.2 dX1_clear_10
def wp_X1_allowsPart (pnP : Int32) (p1 : Int32) (p2 : Int64) (post : Int32 → Unit → Prop) : Prop :=
    ((10 ≤ pnP → post 0 ()) ∧ (¬ 10 ≤ pnP → wp_X5_isBelow p1 10 (fun r_2 _ => ((r_2 = 0 → post 0 ()) ∧ (¬ r_2 = 0 → (((lg_cmp p2 0) < 0 → post 0 ()) ∧ (¬ (lg_cmp p2 0) < 0 → ((0 < (lg_cmp p2 1000000) → post 0 ()) ∧ (¬ 0 < (lg_cmp p2 1000000) → post 1 ())))))))))
set_option maxHeartbeats 4000000 in
set_option maxRecDepth 100000 in
theorem met_X1_allowsPart (l : Launch) (D : va_G) (cs : Nat → ClassId) (ev : Nat → Nat → Nat) (sz0 : Nat) (adP : Nat → Nat) (kdP : Nat → Int32) (grP : Nat → Int64) (cvP : Nat → Int32) (brP : Nat → Int32) (hzP : Nat → Int32) (fmP : Nat → Int32) (dmP : Nat → Int32) (e1P : Nat → Int32) (e2P : Nat → Int32) (fkP : Nat → Int32) (pnP : Int32) (fnP : Int32) (p1 : Int32) (p2 : Int64) (post : Int32 → Unit → Prop) (h : wp_X1_allowsPart pnP p1 p2 post) : Met l yX1_allowsPart wsX1_allowsPart ({ frames := 1, cells := 0, slots := 0, locals := 21 }) (va_Pc [.ref (adP 0), .int p1, .long p2] (mPre D cs ev (sh_P cs adP kdP grP cvP brP hzP fmP dmP e1P e2P fkP pnP fnP) sz0)) (va_Qi post (fun _ t => mAt D cs (va_A (sh_P cs adP kdP grP cvP brP hzP fmP dmP e1P e2P fkP pnP fnP) sz0) (sh_P cs adP kdP grP cvP brP hzP fmP dmP e1P e2P fkP pnP fnP) t) (va_A (sh_P cs adP kdP grP cvP brP hzP fmP dmP e1P e2P fkP pnP fnP) sz0)) 0 0 (va_A (sh_P cs adP kdP grP cvP brP hzP fmP dmP e1P e2P fkP pnP fnP) sz0) := by
  refine Met.ofW (cc := cX1_allowsPart) (maxL := 4) (ret := (some .boolean)) (by decide) rfl ?_
  intro p e s m args below meth c s₁ B hml hv
  obtain ⟨rfl, hsz, hP, hK, hD0, hE⟩ := hv
  have hx := B.exec
  have hb := B.bytes
  have hr := B.returns
  have hts := atoms_spec (ws := wsX1_allowsPart) B.pre
  have hown : s.vm.findClass RX1 = some m.cls := findClass_of_methodNamed B.named
  have hlocks := B.notSynchronized
  subst hsz
  have hD := hD0.self (sz := s.heap.size)
  generalize hAe : va_A (sh_P cs adP kdP grP cvP brP hzP fmP dmP e1P e2P fkP pnP fnP) s.heap.size = A at hD hE ⊢
  have hA : ∀ q : Nat, s.heap.size ≤ q → A q := fun q h => by rw [← hAe]; exact Or.inr h
  have hS : va_S A s.heap s.heap [] := va_S.rf
  have hl := lv_entry ([.ref (adP 0), .int p1, .long p2]) (n := 4) (Nat.le_of_ble_eq_true rfl)
  rw [lg_entry_eq]
  generalize (lg_sl ([.ref (adP 0), .int p1, .long p2]) ++ List.replicate (4 - (lg_sl ([.ref (adP 0), .int p1, .long p2])).length) Slot.unset).toArray = ls at hl ⊢
  have hl : lv_has ls 4 [(0, .ref (adP 0)), (1, .int p1), (2, .long p2)] := hl
  refine lv_aload_n hx hb dX1_allowsPart_0 rfl (lv_at hl 0 rfl) ?_
  refine va_get (D := D) (ci := 1) (v := .int pnP) (C := RX1) (T := TX1) (N := 12) hx hb hts (by decide +kernel) hown hK hP 0 rfl rfl 10 (by decide) (hts (.fieldLink RX1 43 "PartGraphs$Product" "partCount" "I") (by decide +kernel)) (fun _ h9 => h9) rfl dX1_allowsPart_1 ?_
  refine lv_bipush (v := 10) hx hb dX1_allowsPart_4 (by decide) ?_
  refine lv_icmp_ge (tgt := 36) hx hb dX1_allowsPart_6 (by decide) (fun c_1 => ?_) (fun c_1 => ?_)
  · have h := h.1 c_1
    refine lv_iconst (v := 0) hx hb dX1_allowsPart_36 (by decide) ?_
    exact W.zret (v := 0) hx hb hr (by decide) (fun t ht hW => ⟨⟨0, (), rfl, h, by rw [ht]; exact hP, va_K.moved hW.alike hK, hD⟩, hS.F ht⟩) hS.2.2 dX1_allowsPart_37
  · have h := h.2 c_1
    refine lv_iload_n hx hb dX1_allowsPart_9 rfl (lv_at hl 1 rfl) ?_
    refine lv_bipush (v := 10) hx hb dX1_allowsPart_10 (by decide) ?_
    have hFc := va_free (wc := ([] : va_W)) hD hS hA [] rfl
    refine va_calli (va_runSN (As := [.int p1, .int 10]) (rest := []) ⟨hx, hb, hml, hown, hts⟩ (met_X5_isBelow l D cs ev _ p1 10 _ h) ⟨va_cnB 2 hts gX1_allowsPart_X5_isBelow_n50 rfl rfl rfl hE.1.1 (hts (.initialized RX5) (by decide +kernel)) (by decide +kernel) ⟨Nat.le_of_ble_eq_true rfl, Nat.le_of_ble_eq_true rfl⟩, hts (.static yX5_isBelow) (by decide +kernel), trivial⟩ (mPreS hP hD hS hK hE hFc [] (by decide) rfl) rfl rfl hl.1 rfl (lv_room (Nat.le_of_ble_eq_true rfl)) dX1_allowsPart_12 ⟨Nat.le_of_ble_eq_true rfl, Nat.le_of_ble_eq_true rfl⟩) hS (fun q _ h => hFc q h) hFc (fun r_2 u t H1 locs ht hvm hw hB hz1 hk1 hS => ?_)
    have h := hw
    obtain ⟨hP1, hK1, hD1⟩ := hB
    rw [ht] at hP1
    obtain ⟨hP, hD⟩ := mJoin (wr := (sh_P cs adP kdP grP cvP brP hzP fmP dmP e1P e2P fkP pnP fnP)) (w1 := ([] : va_W)) (w' := (sh_P cs adP kdP grP cvP brP hzP fmP dmP e1P e2P fkP pnP fnP)) hP hD [] [0, 1, 2, 3, 4, 5, 6, 7, 8, 9, 10] rfl rfl (by decide) (by decide) hk1 hFc hP1 hD1 [0, 1, 2, 3, 4, 5, 6, 7, 8, 9, 10] (by decide) rfl
    generalize H1 = H at hP hS ⊢
    refine lv_if_eq (tgt := 36) hx hb dX1_allowsPart_15 (by decide) (fun c_3 => ?_) (fun c_3 => ?_)
    · have h := h.1 c_3
      refine lv_iconst (v := 0) hx hb dX1_allowsPart_36 (by decide) ?_
      exact W.zret (v := 0) hx hb hr (by decide) (fun t ht hW => ⟨⟨0, (), rfl, h, by rw [ht]; exact hP, va_K.moved hW.alike hK, hD⟩, hS.F ht⟩) hS.2.2 dX1_allowsPart_37
    · have h := h.2 c_3
      refine lv_lload_n hx hb dX1_allowsPart_18 rfl (lv_at hl 2 rfl) ?_
      refine lv_lconst (v := 0) hx hb dX1_allowsPart_19 (by decide) ?_
      refine W.lcmp hx hb dX1_allowsPart_20 ?_
      refine lv_if_lt (tgt := 36) hx hb dX1_allowsPart_21 (by decide) (fun c_4 => ?_) (fun c_4 => ?_)
      · have h := h.1 c_4
        refine lv_iconst (v := 0) hx hb dX1_allowsPart_36 (by decide) ?_
        exact W.zret (v := 0) hx hb hr (by decide) (fun t ht hW => ⟨⟨0, (), rfl, h, by rw [ht]; exact hP, va_K.moved hW.alike hK, hD⟩, hS.F ht⟩) hS.2.2 dX1_allowsPart_37
      · have h := h.2 c_4
        refine lv_lload_n hx hb dX1_allowsPart_24 rfl (lv_at hl 2 rfl) ?_
        refine lv_ldc2 (v := 1000000) hx hb hown (hts (.constantLong RX1 54 1000000) (by decide +kernel)) dX1_allowsPart_25 ?_
        refine W.lcmp hx hb dX1_allowsPart_28 ?_
        refine lv_if_gt (tgt := 36) hx hb dX1_allowsPart_29 (by decide) (fun c_5 => ?_) (fun c_5 => ?_)
        · have h := h.1 c_5
          refine lv_iconst (v := 0) hx hb dX1_allowsPart_36 (by decide) ?_
          exact W.zret (v := 0) hx hb hr (by decide) (fun t ht hW => ⟨⟨0, (), rfl, h, by rw [ht]; exact hP, va_K.moved hW.alike hK, hD⟩, hS.F ht⟩) hS.2.2 dX1_allowsPart_37
        · have h := h.2 c_5
          refine lv_iconst (v := 1) hx hb dX1_allowsPart_32 (by decide) ?_
          refine lv_goto (tgt := 37) hx hb dX1_allowsPart_33 (by decide) ?_
          exact W.zret (v := 1) hx hb hr (by decide) (fun t ht hW => ⟨⟨1, (), rfl, h, by rw [ht]; exact hP, va_K.moved hW.alike hK, hD⟩, hS.F ht⟩) hS.2.2 dX1_allowsPart_37
def wp_X1_addPart (kdP : Nat → Int32) (grP : Nat → Int64) (cvP : Nat → Int32) (brP : Nat → Int32) (hzP : Nat → Int32) (fmP : Nat → Int32) (dmP : Nat → Int32) (pnP : Int32) (p1 : Int32) (p2 : Int64) (post : Int32 → ((Nat → Int32) × (Nat → Int64) × (Nat → Int32) × (Nat → Int32) × (Nat → Int32) × (Nat → Int32) × (Nat → Int32) × Int32) → Prop) : Prop :=
    ∀ (A44 : Int32 → Int32 → (Nat → Int32) → (Nat → Int64) → (Nat → Int32) → (Nat → Int32) → (Nat → Int32) → (Nat → Int32) → (Nat → Int32) → Int32 → Prop),
    (∀ (v4 : Int32) (v5 : Int32) (kdP : Nat → Int32) (grP : Nat → Int64) (cvP : Nat → Int32) (brP : Nat → Int32) (hzP : Nat → Int32) (fmP : Nat → Int32) (dmP : Nat → Int32) (pnP : Int32), ((6 ≤ v5 → (vp_in v4 10 ∧ (vp_in v4 10 ∧ (vp_in v4 10 ∧ post v4 (kdP, grP, cvP, brP, upd hzP v4.toNatClampNeg 0, upd fmP v4.toNatClampNeg (-1), upd dmP v4.toNatClampNeg 0, pnP + 1))))) ∧ (¬ 6 ≤ v5 → wp_X1_barIndex v4 v5 (fun r_4 _ => (vp_in r_4 60 ∧ A44 v4 (v5 + 1) kdP grP cvP (upd brP r_4.toNatClampNeg 0) hzP fmP dmP pnP)))) → A44 v4 v5 kdP grP cvP brP hzP fmP dmP pnP) →
    wp_X1_allowsPart pnP p1 p2 (fun r_1 _ => ((r_1 = 0 → post (-1) (kdP, grP, cvP, brP, hzP, fmP, dmP, pnP)) ∧ (¬ r_1 = 0 → (vp_in pnP 10 ∧ (vp_in pnP 10 ∧ (vp_in pnP 10 ∧ A44 pnP 0 (upd kdP pnP.toNatClampNeg p1) (vp_updL grP pnP.toNatClampNeg p2) (upd cvP pnP.toNatClampNeg 0) brP hzP fmP dmP pnP))))))
set_option maxHeartbeats 4000000 in
set_option maxRecDepth 100000 in
theorem met_X1_addPart (l : Launch) (D : va_G) (cs : Nat → ClassId) (ev : Nat → Nat → Nat) (sz0 : Nat) (adP : Nat → Nat) (kdP : Nat → Int32) (grP : Nat → Int64) (cvP : Nat → Int32) (brP : Nat → Int32) (hzP : Nat → Int32) (fmP : Nat → Int32) (dmP : Nat → Int32) (e1P : Nat → Int32) (e2P : Nat → Int32) (fkP : Nat → Int32) (pnP : Int32) (fnP : Int32) (p1 : Int32) (p2 : Int64) (post : Int32 → ((Nat → Int32) × (Nat → Int64) × (Nat → Int32) × (Nat → Int32) × (Nat → Int32) × (Nat → Int32) × (Nat → Int32) × Int32) → Prop) (h : wp_X1_addPart kdP grP cvP brP hzP fmP dmP pnP p1 p2 post) : Met l yX1_addPart wsX1_addPart ({ frames := 2, cells := 0, slots := 0, locals := 44 }) (va_Pc [.ref (adP 0), .int p1, .long p2] (mPre D cs ev (sh_P cs adP kdP grP cvP brP hzP fmP dmP e1P e2P fkP pnP fnP) sz0)) (va_Qi post (fun u t => match u with | (kdP', grP', cvP', brP', hzP', fmP', dmP', pnP') => mAt D cs (va_A (sh_P cs adP kdP grP cvP brP hzP fmP dmP e1P e2P fkP pnP fnP) sz0) (sh_P cs adP kdP' grP' cvP' brP' hzP' fmP' dmP' e1P e2P fkP pnP' fnP) t) (va_A (sh_P cs adP kdP grP cvP brP hzP fmP dmP e1P e2P fkP pnP fnP) sz0)) 0 0 (va_A (sh_P cs adP kdP grP cvP brP hzP fmP dmP e1P e2P fkP pnP fnP) sz0) := by
  refine Met.ofW (cc := cX1_addPart) (maxL := 6) (ret := (some .int)) (by decide) rfl ?_
  intro p e s m args below meth c s₁ B hml hv
  obtain ⟨rfl, hsz, hP, hK, hD0, hE⟩ := hv
  have hx := B.exec
  have hb := B.bytes
  have hr := B.returns
  have hts := atoms_spec (ws := wsX1_addPart) B.pre
  have hown : s.vm.findClass RX1 = some m.cls := findClass_of_methodNamed B.named
  have hlocks := B.notSynchronized
  subst hsz
  have hD := hD0.self (sz := s.heap.size)
  generalize hAe : va_A (sh_P cs adP kdP grP cvP brP hzP fmP dmP e1P e2P fkP pnP fnP) s.heap.size = A at hD hE ⊢
  have hA : ∀ q : Nat, s.heap.size ≤ q → A q := fun q h => by rw [← hAe]; exact Or.inr h
  have hS : va_S A s.heap s.heap [] := va_S.rf
  have hl := lv_entry ([.ref (adP 0), .int p1, .long p2]) (n := 6) (Nat.le_of_ble_eq_true rfl)
  rw [lg_entry_eq]
  generalize (lg_sl ([.ref (adP 0), .int p1, .long p2]) ++ List.replicate (6 - (lg_sl ([.ref (adP 0), .int p1, .long p2])).length) Slot.unset).toArray = ls at hl ⊢
  have hl : lv_has ls 6 [(0, .ref (adP 0)), (1, .int p1), (2, .long p2)] := hl
  obtain ⟨A44, hA44⟩ : ∃ Q : Int32 → Int32 → (Nat → Int32) → (Nat → Int64) → (Nat → Int32) → (Nat → Int32) → (Nat → Int32) → (Nat → Int32) → (Nat → Int32) → Int32 → Prop, Q = (fun v4 v5 kdP grP cvP brP hzP fmP dmP pnP => ∀ (H : Heap) (locs : List Loc), va_P D vwCl (sh_P cs adP kdP grP cvP brP hzP fmP dmP e1P e2P fkP pnP fnP) H → va_D A (sh_P cs adP kdP grP cvP brP hzP fmP dmP e1P e2P fkP pnP fnP) → va_S A s.heap H locs → ∀ ls : Array Slot, lv_has ls 6 [(0, .ref (adP 0)), (4, .int v4), (5, .int v5)] → W p l e (headSpec wsX1_addPart ({ frames := 2, cells := 0, slots := 0, locals := 44 })).room s m ([.ref (adP 0), .int p1, .long p2] : List Value).toArray below meth c H locs 0 0 (MQ below (va_Qi post (fun u t => match u with | (kdP', grP', cvP', brP', hzP', fmP', dmP', pnP') => mAt D cs (A) (sh_P cs adP kdP' grP' cvP' brP' hzP' fmP' dmP' e1P e2P fkP pnP' fnP) t) A) ([.ref (adP 0), .int p1, .long p2] : List Value).toArray s 0 0 A) (F0 m 44 ls [])) := ⟨_, rfl⟩
  have s44 : ∀ (v4 : Int32) (v5 : Int32) (kdP : Nat → Int32) (grP : Nat → Int64) (cvP : Nat → Int32) (brP : Nat → Int32) (hzP : Nat → Int32) (fmP : Nat → Int32) (dmP : Nat → Int32) (pnP : Int32), ((6 ≤ v5 → (vp_in v4 10 ∧ (vp_in v4 10 ∧ (vp_in v4 10 ∧ post v4 (kdP, grP, cvP, brP, upd hzP v4.toNatClampNeg 0, upd fmP v4.toNatClampNeg (-1), upd dmP v4.toNatClampNeg 0, pnP + 1))))) ∧ (¬ 6 ≤ v5 → wp_X1_barIndex v4 v5 (fun r_4 _ => (vp_in r_4 60 ∧ A44 v4 (v5 + 1) kdP grP cvP (upd brP r_4.toNatClampNeg 0) hzP fmP dmP pnP)))) → A44 v4 v5 kdP grP cvP brP hzP fmP dmP pnP := by
    intro v4 v5 kdP grP cvP brP hzP fmP dmP pnP h
    rw [hA44]
    intro H locs hP hD hS ls hl
    refine lv_iload hx hb dX1_addPart_44 (lv_at hl 2 rfl) ?_
    refine lv_bipush (v := 6) hx hb dX1_addPart_46 (by decide) ?_
    refine lv_icmp_ge (tgt := 70) hx hb dX1_addPart_48 (by decide) (fun c_3 => ?_) (fun c_3 => ?_)
    · have h := h.1 c_3
      refine lv_aload_n hx hb dX1_addPart_70 rfl (lv_at hl 0 rfl) ?_
      refine va_get (D := D) (ci := 1) (v := .ref (adP 5)) (C := RX1) (T := TX1) (N := 12) hx hb hts (by decide +kernel) hown hK hP 0 rfl rfl 4 (by decide) (hts (.fieldLink RX1 25 "PartGraphs$Product" "hazards" "[I") (by decide +kernel)) (fun _ h9 => h9) rfl dX1_addPart_71 ?_
      refine lv_iload hx hb dX1_addPart_74 (lv_at hl 1 rfl) ?_
      refine lv_iconst (v := 0) hx hb dX1_addPart_76 (by decide) ?_
      have hin := h.1
      have h := h.2
      refine va_iast (D := D) (cl := vwCl) hx hb hK hP hD hS 5 0 rfl rfl hin dX1_addPart_77 (fun H locs hP hD hS => ?_)
      have hP : va_P D vwCl (sh_P cs adP kdP grP cvP brP (upd hzP v4.toNatClampNeg 0) fmP dmP e1P e2P fkP pnP fnP) H := hP
      have hD : va_D A (sh_P cs adP kdP grP cvP brP (upd hzP v4.toNatClampNeg 0) fmP dmP e1P e2P fkP pnP fnP) := hD
      refine lv_aload_n hx hb dX1_addPart_78 rfl (lv_at hl 0 rfl) ?_
      refine va_get (D := D) (ci := 1) (v := .ref (adP 6)) (C := RX1) (T := TX1) (N := 12) hx hb hts (by decide +kernel) hown hK hP 0 rfl rfl 5 (by decide) (hts (.fieldLink RX1 28 "PartGraphs$Product" "families" "[I") (by decide +kernel)) (fun _ h9 => h9) rfl dX1_addPart_79 ?_
      refine lv_iload hx hb dX1_addPart_82 (lv_at hl 1 rfl) ?_
      refine lv_iconst (v := (-1)) hx hb dX1_addPart_84 (by decide) ?_
      have hin := h.1
      have h := h.2
      refine va_iast (D := D) (cl := vwCl) hx hb hK hP hD hS 6 0 rfl rfl hin dX1_addPart_85 (fun H locs hP hD hS => ?_)
      have hP : va_P D vwCl (sh_P cs adP kdP grP cvP brP (upd hzP v4.toNatClampNeg 0) (upd fmP v4.toNatClampNeg (-1)) dmP e1P e2P fkP pnP fnP) H := hP
      have hD : va_D A (sh_P cs adP kdP grP cvP brP (upd hzP v4.toNatClampNeg 0) (upd fmP v4.toNatClampNeg (-1)) dmP e1P e2P fkP pnP fnP) := hD
      refine lv_aload_n hx hb dX1_addPart_86 rfl (lv_at hl 0 rfl) ?_
      refine va_get (D := D) (ci := 1) (v := .ref (adP 7)) (C := RX1) (T := TX1) (N := 12) hx hb hts (by decide +kernel) hown hK hP 0 rfl rfl 6 (by decide) (hts (.fieldLink RX1 31 "PartGraphs$Product" "damages" "[I") (by decide +kernel)) (fun _ h9 => h9) rfl dX1_addPart_87 ?_
      refine lv_iload hx hb dX1_addPart_90 (lv_at hl 1 rfl) ?_
      refine lv_iconst (v := 0) hx hb dX1_addPart_92 (by decide) ?_
      have hin := h.1
      have h := h.2
      refine va_iast (D := D) (cl := vwCl) hx hb hK hP hD hS 7 0 rfl rfl hin dX1_addPart_93 (fun H locs hP hD hS => ?_)
      have hP : va_P D vwCl (sh_P cs adP kdP grP cvP brP (upd hzP v4.toNatClampNeg 0) (upd fmP v4.toNatClampNeg (-1)) (upd dmP v4.toNatClampNeg 0) e1P e2P fkP pnP fnP) H := hP
      have hD : va_D A (sh_P cs adP kdP grP cvP brP (upd hzP v4.toNatClampNeg 0) (upd fmP v4.toNatClampNeg (-1)) (upd dmP v4.toNatClampNeg 0) e1P e2P fkP pnP fnP) := hD
      refine lv_aload_n hx hb dX1_addPart_94 rfl (lv_at hl 0 rfl) ?_
      refine lv_dup hx hb dX1_addPart_95 rfl ?_
      refine va_get (D := D) (ci := 1) (v := .int pnP) (C := RX1) (T := TX1) (N := 12) hx hb hts (by decide +kernel) hown hK hP 0 rfl rfl 10 (by decide) (hts (.fieldLink RX1 43 "PartGraphs$Product" "partCount" "I") (by decide +kernel)) (fun _ h9 => h9) rfl dX1_addPart_96 ?_
      refine lv_iconst (v := 1) hx hb dX1_addPart_99 (by decide) ?_
      refine lv_iadd hx hb dX1_addPart_100 ?_
      refine va_put (D := D) (ci := 1) (v := .int (pnP + 1)) (ty := .int) (C := RX1) (T := TX1) (N := 12) hx hb hts (by decide +kernel) tyX1 tyX1_ok nmX1 hown hK hP hD hS 0 rfl rfl 10 (by decide) (hts (.fieldLink RX1 43 "PartGraphs$Product" "partCount" "I") (by decide +kernel)) (fun _ h9 => h9) rfl (by decide +kernel) rfl rfl (Nat.le_of_ble_eq_true rfl) dX1_addPart_101 (fun H locs hP hD hS => ?_)
      have hP : va_P D vwCl (sh_P cs adP kdP grP cvP brP (upd hzP v4.toNatClampNeg 0) (upd fmP v4.toNatClampNeg (-1)) (upd dmP v4.toNatClampNeg 0) e1P e2P fkP (pnP + 1) fnP) H := hP
      have hD : va_D A (sh_P cs adP kdP grP cvP brP (upd hzP v4.toNatClampNeg 0) (upd fmP v4.toNatClampNeg (-1)) (upd dmP v4.toNatClampNeg 0) e1P e2P fkP (pnP + 1) fnP) := hD
      refine lv_iload hx hb dX1_addPart_104 (lv_at hl 1 rfl) ?_
      exact W.iret (v := v4) hx hb hr (fun t ht hW => ⟨⟨v4, (kdP, grP, cvP, brP, upd hzP v4.toNatClampNeg 0, upd fmP v4.toNatClampNeg (-1), upd dmP v4.toNatClampNeg 0, pnP + 1), rfl, h, by rw [ht]; exact hP, va_K.moved hW.alike hK, hD⟩, hS.F ht⟩) hS.2.2 dX1_addPart_106
    · have h := h.2 c_3
      refine lv_aload_n hx hb dX1_addPart_51 rfl (lv_at hl 0 rfl) ?_
      refine va_get (D := D) (ci := 1) (v := .ref (adP 4)) (C := RX1) (T := TX1) (N := 12) hx hb hts (by decide +kernel) hown hK hP 0 rfl rfl 3 (by decide) (hts (.fieldLink RX1 22 "PartGraphs$Product" "bars" "[I") (by decide +kernel)) (fun _ h9 => h9) rfl dX1_addPart_52 ?_
      refine lv_iload hx hb dX1_addPart_55 (lv_at hl 1 rfl) ?_
      refine lv_iload hx hb dX1_addPart_57 (lv_at hl 2 rfl) ?_
      have hFc := va_free (wc := ([] : va_W)) hD hS hA [] rfl
      refine va_calli (va_runS (As := [.int v4, .int v5]) (rest := [.ref (adP 4)]) ⟨hx, hb, hml, hown, hts⟩ (met_X1_barIndex l D cs ev _ v4 v5 _ h) (va_cwS 2 hts gX1_addPart_X1_barIndex rfl rfl rfl (by decide +kernel) ⟨Nat.le_of_ble_eq_true rfl, Nat.le_of_ble_eq_true rfl⟩) (mPreS hP hD hS hK hE hFc [] (by decide) rfl) rfl rfl hl.1 rfl (lv_room (Nat.le_of_ble_eq_true rfl)) dX1_addPart_59 ⟨Nat.le_of_ble_eq_true rfl, Nat.le_of_ble_eq_true rfl⟩) hS (fun q _ h => hFc q h) hFc (fun r_4 u t H1 locs ht hvm hw hB hz1 hk1 hS => ?_)
      have h := hw
      obtain ⟨hP1, hK1, hD1⟩ := hB
      rw [ht] at hP1
      obtain ⟨hP, hD⟩ := mJoin (wr := (sh_P cs adP kdP grP cvP brP hzP fmP dmP e1P e2P fkP pnP fnP)) (w1 := ([] : va_W)) (w' := (sh_P cs adP kdP grP cvP brP hzP fmP dmP e1P e2P fkP pnP fnP)) hP hD [] [0, 1, 2, 3, 4, 5, 6, 7, 8, 9, 10] rfl rfl (by decide) (by decide) hk1 hFc hP1 hD1 [0, 1, 2, 3, 4, 5, 6, 7, 8, 9, 10] (by decide) rfl
      generalize H1 = H at hP hS ⊢
      refine lv_iconst (v := 0) hx hb dX1_addPart_62 (by decide) ?_
      have hin := h.1
      have h := h.2
      refine va_iast (D := D) (cl := vwCl) hx hb hK hP hD hS 4 0 rfl rfl hin dX1_addPart_63 (fun H locs hP hD hS => ?_)
      have hP : va_P D vwCl (sh_P cs adP kdP grP cvP (upd brP r_4.toNatClampNeg 0) hzP fmP dmP e1P e2P fkP pnP fnP) H := hP
      have hD : va_D A (sh_P cs adP kdP grP cvP (upd brP r_4.toNatClampNeg 0) hzP fmP dmP e1P e2P fkP pnP fnP) := hD
      refine lv_iinc (v := v5 + 1) (lv' := [(5, .int (v5 + 1)), (0, .ref (adP 0)), (4, .int v4)]) hx hb dX1_addPart_64 hl (k := 2) rfl rfl (by decide) rfl (fun ls hl => ?_)
      refine lv_goto (tgt := 44) hx hb dX1_addPart_67 (by decide) ?_
      rw [hA44] at h
      exact h _ _ hP hD hS ls (lv_sub hl [1, 2, 0] rfl)
  have h := h A44 s44
  refine lv_aload_n hx hb dX1_addPart_0 rfl (lv_at hl 0 rfl) ?_
  refine lv_iload_n hx hb dX1_addPart_1 rfl (lv_at hl 1 rfl) ?_
  refine lv_lload_n hx hb dX1_addPart_2 rfl (lv_at hl 2 rfl) ?_
  have hFc := va_free (wc := (sh_P cs adP kdP grP cvP brP hzP fmP dmP e1P e2P fkP pnP fnP)) hD hS hA [0, 1, 2, 3, 4, 5, 6, 7, 8, 9, 10] rfl
  refine va_calli (va_runV (As := [.int p1, .long p2]) (rest := []) ⟨hx, hb, hml, hown, hts⟩ (met_X1_allowsPart l D cs ev _ adP kdP grP cvP brP hzP fmP dmP e1P e2P fkP pnP fnP p1 p2 _ h) (cwV 2 hts gX1_addPart_X1_allowsPart rfl rfl rfl (by decide +kernel) ⟨Nat.le_of_ble_eq_true rfl, Nat.le_of_ble_eq_true rfl⟩) (mPreV (va_recv hK hP (ci := 1) (q0 := 0) rfl rfl) hP hD hS hK hE hFc [0, 1, 2, 3, 4, 5, 6, 7, 8, 9, 10] (by decide) rfl) rfl rfl hl.1 rfl (lv_room (Nat.le_of_ble_eq_true rfl)) dX1_addPart_3 ⟨Nat.le_of_ble_eq_true rfl, Nat.le_of_ble_eq_true rfl⟩) hS (fun q _ h => hFc q h) hFc (fun r_1 u t H1 locs ht hvm hw hB hz1 hk1 hS => ?_)
  have h := hw
  obtain ⟨hP1, hK1, hD1⟩ := hB
  rw [ht] at hP1
  obtain ⟨hP, hD⟩ := mJoin (wr := ([] : va_W)) (w1 := (sh_P cs adP kdP grP cvP brP hzP fmP dmP e1P e2P fkP pnP fnP)) (w' := (sh_P cs adP kdP grP cvP brP hzP fmP dmP e1P e2P fkP pnP fnP)) hP hD [0, 1, 2, 3, 4, 5, 6, 7, 8, 9, 10] [] rfl rfl (by decide) (by decide) hk1 hFc hP1 hD1 [0, 1, 2, 3, 4, 5, 6, 7, 8, 9, 10] (by decide) rfl
  generalize H1 = H at hP hS ⊢
  refine lv_if_ne (tgt := 11) hx hb dX1_addPart_6 (by decide) (fun c_2 => ?_) (fun c_2 => ?_)
  · have h := h.2 c_2
    refine lv_aload_n hx hb dX1_addPart_11 rfl (lv_at hl 0 rfl) ?_
    refine va_get (D := D) (ci := 1) (v := .int pnP) (C := RX1) (T := TX1) (N := 12) hx hb hts (by decide +kernel) hown hK hP 0 rfl rfl 10 (by decide) (hts (.fieldLink RX1 43 "PartGraphs$Product" "partCount" "I") (by decide +kernel)) (fun _ h9 => h9) rfl dX1_addPart_12 ?_
    refine lv_istore (lv' := [(4, .int pnP), (0, .ref (adP 0)), (1, .int p1), (2, .long p2)]) hx hb dX1_addPart_15 hl (by decide) rfl (fun ls hl => ?_)
    refine lv_aload_n hx hb dX1_addPart_17 rfl (lv_at hl 1 rfl) ?_
    refine va_get (D := D) (ci := 1) (v := .ref (adP 1)) (C := RX1) (T := TX1) (N := 12) hx hb hts (by decide +kernel) hown hK hP 0 rfl rfl 0 (by decide) (hts (.fieldLink RX1 9 "PartGraphs$Product" "kinds" "[I") (by decide +kernel)) (fun _ h9 => h9) rfl dX1_addPart_18 ?_
    refine lv_iload hx hb dX1_addPart_21 (lv_at hl 0 rfl) ?_
    refine lv_iload_n hx hb dX1_addPart_23 rfl (lv_at hl 2 rfl) ?_
    have hin := h.1
    have h := h.2
    refine va_iast (D := D) (cl := vwCl) hx hb hK hP hD hS 1 0 rfl rfl hin dX1_addPart_24 (fun H locs hP hD hS => ?_)
    have hP : va_P D vwCl (sh_P cs adP (upd kdP pnP.toNatClampNeg p1) grP cvP brP hzP fmP dmP e1P e2P fkP pnP fnP) H := hP
    have hD : va_D A (sh_P cs adP (upd kdP pnP.toNatClampNeg p1) grP cvP brP hzP fmP dmP e1P e2P fkP pnP fnP) := hD
    refine lv_aload_n hx hb dX1_addPart_25 rfl (lv_at hl 1 rfl) ?_
    refine va_get (D := D) (ci := 1) (v := .ref (adP 2)) (C := RX1) (T := TX1) (N := 12) hx hb hts (by decide +kernel) hown hK hP 0 rfl rfl 1 (by decide) (hts (.fieldLink RX1 15 "PartGraphs$Product" "grams" "[J") (by decide +kernel)) (fun _ h9 => h9) rfl dX1_addPart_26 ?_
    refine lv_iload hx hb dX1_addPart_29 (lv_at hl 0 rfl) ?_
    refine lv_lload_n hx hb dX1_addPart_31 rfl (lv_at hl 3 rfl) ?_
    have hin := h.1
    have h := h.2
    refine va_last (D := D) (cl := vwCl) hx hb hK hP hD hS 2 1 rfl rfl hin dX1_addPart_32 (fun H locs hP hD hS => ?_)
    have hP : va_P D vwCl (sh_P cs adP (upd kdP pnP.toNatClampNeg p1) (vp_updL grP pnP.toNatClampNeg p2) cvP brP hzP fmP dmP e1P e2P fkP pnP fnP) H := hP
    have hD : va_D A (sh_P cs adP (upd kdP pnP.toNatClampNeg p1) (vp_updL grP pnP.toNatClampNeg p2) cvP brP hzP fmP dmP e1P e2P fkP pnP fnP) := hD
    refine lv_aload_n hx hb dX1_addPart_33 rfl (lv_at hl 1 rfl) ?_
    refine va_get (D := D) (ci := 1) (v := .ref (adP 3)) (C := RX1) (T := TX1) (N := 12) hx hb hts (by decide +kernel) hown hK hP 0 rfl rfl 2 (by decide) (hts (.fieldLink RX1 19 "PartGraphs$Product" "coverers" "[I") (by decide +kernel)) (fun _ h9 => h9) rfl dX1_addPart_34 ?_
    refine lv_iload hx hb dX1_addPart_37 (lv_at hl 0 rfl) ?_
    refine lv_iconst (v := 0) hx hb dX1_addPart_39 (by decide) ?_
    have hin := h.1
    have h := h.2
    refine va_iast (D := D) (cl := vwCl) hx hb hK hP hD hS 3 0 rfl rfl hin dX1_addPart_40 (fun H locs hP hD hS => ?_)
    have hP : va_P D vwCl (sh_P cs adP (upd kdP pnP.toNatClampNeg p1) (vp_updL grP pnP.toNatClampNeg p2) (upd cvP pnP.toNatClampNeg 0) brP hzP fmP dmP e1P e2P fkP pnP fnP) H := hP
    have hD : va_D A (sh_P cs adP (upd kdP pnP.toNatClampNeg p1) (vp_updL grP pnP.toNatClampNeg p2) (upd cvP pnP.toNatClampNeg 0) brP hzP fmP dmP e1P e2P fkP pnP fnP) := hD
    refine lv_iconst (v := 0) hx hb dX1_addPart_41 (by decide) ?_
    refine lv_istore (lv' := [(5, .int 0), (4, .int pnP), (0, .ref (adP 0)), (1, .int p1), (2, .long p2)]) hx hb dX1_addPart_42 hl (by decide) rfl (fun ls hl => ?_)
    rw [hA44] at h
    exact h _ _ hP hD hS ls (lv_sub hl [2, 1, 0] rfl)
  · have h := h.1 c_2
    refine lv_iconst (v := (-1)) hx hb dX1_addPart_9 (by decide) ?_
    exact W.iret (v := (-1)) hx hb hr (fun t ht hW => ⟨⟨(-1), (kdP, grP, cvP, brP, hzP, fmP, dmP, pnP), rfl, h, by rw [ht]; exact hP, va_K.moved hW.alike hK, hD⟩, hS.F ht⟩) hS.2.2 dX1_addPart_10
def wp_X1_allowsFastening (pnP : Int32) (fnP : Int32) (p1 : Int32) (p2 : Int32) (p3 : Int32) (post : Int32 → Unit → Prop) : Prop :=
    ((20 ≤ fnP → post 0 ()) ∧ (¬ 20 ≤ fnP → wp_X1_areTwoParts pnP p1 p2 (fun r_2 _ => ((r_2 = 0 → post 0 ()) ∧ (¬ r_2 = 0 → wp_X5_isBelow p3 4 (fun r_4 _ => ((r_4 = 0 → post 0 ()) ∧ (¬ r_4 = 0 → post 1 ()))))))))
set_option maxHeartbeats 4000000 in
set_option maxRecDepth 100000 in
theorem met_X1_allowsFastening (l : Launch) (D : va_G) (cs : Nat → ClassId) (ev : Nat → Nat → Nat) (sz0 : Nat) (adP : Nat → Nat) (kdP : Nat → Int32) (grP : Nat → Int64) (cvP : Nat → Int32) (brP : Nat → Int32) (hzP : Nat → Int32) (fmP : Nat → Int32) (dmP : Nat → Int32) (e1P : Nat → Int32) (e2P : Nat → Int32) (fkP : Nat → Int32) (pnP : Int32) (fnP : Int32) (p1 : Int32) (p2 : Int32) (p3 : Int32) (post : Int32 → Unit → Prop) (h : wp_X1_allowsFastening pnP fnP p1 p2 p3 post) : Met l yX1_allowsFastening wsX1_allowsFastening ({ frames := 1, cells := 0, slots := 0, locals := 22 }) (va_Pc [.ref (adP 0), .int p1, .int p2, .int p3] (mPre D cs ev (sh_P cs adP kdP grP cvP brP hzP fmP dmP e1P e2P fkP pnP fnP) sz0)) (va_Qi post (fun _ t => mAt D cs (va_A (sh_P cs adP kdP grP cvP brP hzP fmP dmP e1P e2P fkP pnP fnP) sz0) (sh_P cs adP kdP grP cvP brP hzP fmP dmP e1P e2P fkP pnP fnP) t) (va_A (sh_P cs adP kdP grP cvP brP hzP fmP dmP e1P e2P fkP pnP fnP) sz0)) 0 0 (va_A (sh_P cs adP kdP grP cvP brP hzP fmP dmP e1P e2P fkP pnP fnP) sz0) := by
  refine Met.ofW (cc := cX1_allowsFastening) (maxL := 4) (ret := (some .boolean)) (by decide) rfl ?_
  intro p e s m args below meth c s₁ B hml hv
  obtain ⟨rfl, hsz, hP, hK, hD0, hE⟩ := hv
  have hx := B.exec
  have hb := B.bytes
  have hr := B.returns
  have hts := atoms_spec (ws := wsX1_allowsFastening) B.pre
  have hown : s.vm.findClass RX1 = some m.cls := findClass_of_methodNamed B.named
  have hlocks := B.notSynchronized
  subst hsz
  have hD := hD0.self (sz := s.heap.size)
  generalize hAe : va_A (sh_P cs adP kdP grP cvP brP hzP fmP dmP e1P e2P fkP pnP fnP) s.heap.size = A at hD hE ⊢
  have hA : ∀ q : Nat, s.heap.size ≤ q → A q := fun q h => by rw [← hAe]; exact Or.inr h
  have hS : va_S A s.heap s.heap [] := va_S.rf
  have hl := lv_entry ([.ref (adP 0), .int p1, .int p2, .int p3]) (n := 4) (Nat.le_of_ble_eq_true rfl)
  rw [lg_entry_eq]
  generalize (lg_sl ([.ref (adP 0), .int p1, .int p2, .int p3]) ++ List.replicate (4 - (lg_sl ([.ref (adP 0), .int p1, .int p2, .int p3])).length) Slot.unset).toArray = ls at hl ⊢
  have hl : lv_has ls 4 [(0, .ref (adP 0)), (1, .int p1), (2, .int p2), (3, .int p3)] := hl
  refine lv_aload_n hx hb dX1_allowsFastening_0 rfl (lv_at hl 0 rfl) ?_
  refine va_get (D := D) (ci := 1) (v := .int fnP) (C := RX1) (T := TX1) (N := 12) hx hb hts (by decide +kernel) hown hK hP 0 rfl rfl 11 (by decide) (hts (.fieldLink RX1 47 "PartGraphs$Product" "fasteningCount" "I") (by decide +kernel)) (fun _ h9 => h9) rfl dX1_allowsFastening_1 ?_
  refine lv_bipush (v := 20) hx hb dX1_allowsFastening_4 (by decide) ?_
  refine lv_icmp_ge (tgt := 30) hx hb dX1_allowsFastening_6 (by decide) (fun c_1 => ?_) (fun c_1 => ?_)
  · have h := h.1 c_1
    refine lv_iconst (v := 0) hx hb dX1_allowsFastening_30 (by decide) ?_
    exact W.zret (v := 0) hx hb hr (by decide) (fun t ht hW => ⟨⟨0, (), rfl, h, by rw [ht]; exact hP, va_K.moved hW.alike hK, hD⟩, hS.F ht⟩) hS.2.2 dX1_allowsFastening_31
  · have h := h.2 c_1
    refine lv_aload_n hx hb dX1_allowsFastening_9 rfl (lv_at hl 0 rfl) ?_
    refine lv_iload_n hx hb dX1_allowsFastening_10 rfl (lv_at hl 1 rfl) ?_
    refine lv_iload_n hx hb dX1_allowsFastening_11 rfl (lv_at hl 2 rfl) ?_
    have hFc := va_free (wc := (sh_P cs adP kdP grP cvP brP hzP fmP dmP e1P e2P fkP pnP fnP)) hD hS hA [0, 1, 2, 3, 4, 5, 6, 7, 8, 9, 10] rfl
    refine va_calli (va_runV (As := [.int p1, .int p2]) (rest := []) ⟨hx, hb, hml, hown, hts⟩ (met_X1_areTwoParts l D cs ev _ adP kdP grP cvP brP hzP fmP dmP e1P e2P fkP pnP fnP p1 p2 _ h) (cwV 2 hts gX1_allowsFastening_X1_areTwoParts rfl rfl rfl (by decide +kernel) ⟨Nat.le_of_ble_eq_true rfl, Nat.le_of_ble_eq_true rfl⟩) (mPreV (va_recv hK hP (ci := 1) (q0 := 0) rfl rfl) hP hD hS hK hE hFc [0, 1, 2, 3, 4, 5, 6, 7, 8, 9, 10] (by decide) rfl) rfl rfl hl.1 rfl (lv_room (Nat.le_of_ble_eq_true rfl)) dX1_allowsFastening_12 ⟨Nat.le_of_ble_eq_true rfl, Nat.le_of_ble_eq_true rfl⟩) hS (fun q _ h => hFc q h) hFc (fun r_2 u t H1 locs ht hvm hw hB hz1 hk1 hS => ?_)
    have h := hw
    obtain ⟨hP1, hK1, hD1⟩ := hB
    rw [ht] at hP1
    obtain ⟨hP, hD⟩ := mJoin (wr := ([] : va_W)) (w1 := (sh_P cs adP kdP grP cvP brP hzP fmP dmP e1P e2P fkP pnP fnP)) (w' := (sh_P cs adP kdP grP cvP brP hzP fmP dmP e1P e2P fkP pnP fnP)) hP hD [0, 1, 2, 3, 4, 5, 6, 7, 8, 9, 10] [] rfl rfl (by decide) (by decide) hk1 hFc hP1 hD1 [0, 1, 2, 3, 4, 5, 6, 7, 8, 9, 10] (by decide) rfl
    generalize H1 = H at hP hS ⊢
    refine lv_if_eq (tgt := 30) hx hb dX1_allowsFastening_15 (by decide) (fun c_3 => ?_) (fun c_3 => ?_)
    · have h := h.1 c_3
      refine lv_iconst (v := 0) hx hb dX1_allowsFastening_30 (by decide) ?_
      exact W.zret (v := 0) hx hb hr (by decide) (fun t ht hW => ⟨⟨0, (), rfl, h, by rw [ht]; exact hP, va_K.moved hW.alike hK, hD⟩, hS.F ht⟩) hS.2.2 dX1_allowsFastening_31
    · have h := h.2 c_3
      refine lv_iload_n hx hb dX1_allowsFastening_18 rfl (lv_at hl 3 rfl) ?_
      refine lv_iconst (v := 4) hx hb dX1_allowsFastening_19 (by decide) ?_
      have hFc := va_free (wc := ([] : va_W)) hD hS hA [] rfl
      refine va_calli (va_runSN (As := [.int p3, .int 4]) (rest := []) ⟨hx, hb, hml, hown, hts⟩ (met_X5_isBelow l D cs ev _ p3 4 _ h) ⟨va_cnB 2 hts gX1_allowsFastening_X5_isBelow_n50 rfl rfl rfl hE.1.1 (hts (.initialized RX5) (by decide +kernel)) (by decide +kernel) ⟨Nat.le_of_ble_eq_true rfl, Nat.le_of_ble_eq_true rfl⟩, hts (.static yX5_isBelow) (by decide +kernel), trivial⟩ (mPreS hP hD hS hK hE hFc [] (by decide) rfl) rfl rfl hl.1 rfl (lv_room (Nat.le_of_ble_eq_true rfl)) dX1_allowsFastening_20 ⟨Nat.le_of_ble_eq_true rfl, Nat.le_of_ble_eq_true rfl⟩) hS (fun q _ h => hFc q h) hFc (fun r_4 u t H1 locs ht hvm hw hB hz1 hk1 hS => ?_)
      have h := hw
      obtain ⟨hP1, hK1, hD1⟩ := hB
      rw [ht] at hP1
      obtain ⟨hP, hD⟩ := mJoin (wr := (sh_P cs adP kdP grP cvP brP hzP fmP dmP e1P e2P fkP pnP fnP)) (w1 := ([] : va_W)) (w' := (sh_P cs adP kdP grP cvP brP hzP fmP dmP e1P e2P fkP pnP fnP)) hP hD [] [0, 1, 2, 3, 4, 5, 6, 7, 8, 9, 10] rfl rfl (by decide) (by decide) hk1 hFc hP1 hD1 [0, 1, 2, 3, 4, 5, 6, 7, 8, 9, 10] (by decide) rfl
      generalize H1 = H at hP hS ⊢
      refine lv_if_eq (tgt := 30) hx hb dX1_allowsFastening_23 (by decide) (fun c_5 => ?_) (fun c_5 => ?_)
      · have h := h.1 c_5
        refine lv_iconst (v := 0) hx hb dX1_allowsFastening_30 (by decide) ?_
        exact W.zret (v := 0) hx hb hr (by decide) (fun t ht hW => ⟨⟨0, (), rfl, h, by rw [ht]; exact hP, va_K.moved hW.alike hK, hD⟩, hS.F ht⟩) hS.2.2 dX1_allowsFastening_31
      · have h := h.2 c_5
        refine lv_iconst (v := 1) hx hb dX1_allowsFastening_26 (by decide) ?_
        refine lv_goto (tgt := 31) hx hb dX1_allowsFastening_27 (by decide) ?_
        exact W.zret (v := 1) hx hb hr (by decide) (fun t ht hW => ⟨⟨1, (), rfl, h, by rw [ht]; exact hP, va_K.moved hW.alike hK, hD⟩, hS.F ht⟩) hS.2.2 dX1_allowsFastening_31
def wp_X1_addFastening (e1P : Nat → Int32) (e2P : Nat → Int32) (fkP : Nat → Int32) (pnP : Int32) (fnP : Int32) (p1 : Int32) (p2 : Int32) (p3 : Int32) (post : Int32 → ((Nat → Int32) × (Nat → Int32) × (Nat → Int32) × Int32) → Prop) : Prop :=
    wp_X1_allowsFastening pnP fnP p1 p2 p3 (fun r_1 _ => ((r_1 = 0 → post (-1) (e1P, e2P, fkP, fnP)) ∧ (¬ r_1 = 0 → (vp_in fnP 20 ∧ (vp_in fnP 20 ∧ (vp_in fnP 20 ∧ post fnP (upd e1P fnP.toNatClampNeg p1, upd e2P fnP.toNatClampNeg p2, upd fkP fnP.toNatClampNeg p3, fnP + 1)))))))
set_option maxHeartbeats 4000000 in
set_option maxRecDepth 100000 in
theorem met_X1_addFastening (l : Launch) (D : va_G) (cs : Nat → ClassId) (ev : Nat → Nat → Nat) (sz0 : Nat) (adP : Nat → Nat) (kdP : Nat → Int32) (grP : Nat → Int64) (cvP : Nat → Int32) (brP : Nat → Int32) (hzP : Nat → Int32) (fmP : Nat → Int32) (dmP : Nat → Int32) (e1P : Nat → Int32) (e2P : Nat → Int32) (fkP : Nat → Int32) (pnP : Int32) (fnP : Int32) (p1 : Int32) (p2 : Int32) (p3 : Int32) (post : Int32 → ((Nat → Int32) × (Nat → Int32) × (Nat → Int32) × Int32) → Prop) (h : wp_X1_addFastening e1P e2P fkP pnP fnP p1 p2 p3 post) : Met l yX1_addFastening wsX1_addFastening ({ frames := 2, cells := 0, slots := 0, locals := 45 }) (va_Pc [.ref (adP 0), .int p1, .int p2, .int p3] (mPre D cs ev (sh_P cs adP kdP grP cvP brP hzP fmP dmP e1P e2P fkP pnP fnP) sz0)) (va_Qi post (fun u t => match u with | (e1P', e2P', fkP', fnP') => mAt D cs (va_A (sh_P cs adP kdP grP cvP brP hzP fmP dmP e1P e2P fkP pnP fnP) sz0) (sh_P cs adP kdP grP cvP brP hzP fmP dmP e1P' e2P' fkP' pnP fnP') t) (va_A (sh_P cs adP kdP grP cvP brP hzP fmP dmP e1P e2P fkP pnP fnP) sz0)) 0 0 (va_A (sh_P cs adP kdP grP cvP brP hzP fmP dmP e1P e2P fkP pnP fnP) sz0) := by
  refine Met.ofW (cc := cX1_addFastening) (maxL := 5) (ret := (some .int)) (by decide) rfl ?_
  intro p e s m args below meth c s₁ B hml hv
  obtain ⟨rfl, hsz, hP, hK, hD0, hE⟩ := hv
  have hx := B.exec
  have hb := B.bytes
  have hr := B.returns
  have hts := atoms_spec (ws := wsX1_addFastening) B.pre
  have hown : s.vm.findClass RX1 = some m.cls := findClass_of_methodNamed B.named
  have hlocks := B.notSynchronized
  subst hsz
  have hD := hD0.self (sz := s.heap.size)
  generalize hAe : va_A (sh_P cs adP kdP grP cvP brP hzP fmP dmP e1P e2P fkP pnP fnP) s.heap.size = A at hD hE ⊢
  have hA : ∀ q : Nat, s.heap.size ≤ q → A q := fun q h => by rw [← hAe]; exact Or.inr h
  have hS : va_S A s.heap s.heap [] := va_S.rf
  have hl := lv_entry ([.ref (adP 0), .int p1, .int p2, .int p3]) (n := 5) (Nat.le_of_ble_eq_true rfl)
  rw [lg_entry_eq]
  generalize (lg_sl ([.ref (adP 0), .int p1, .int p2, .int p3]) ++ List.replicate (5 - (lg_sl ([.ref (adP 0), .int p1, .int p2, .int p3])).length) Slot.unset).toArray = ls at hl ⊢
  have hl : lv_has ls 5 [(0, .ref (adP 0)), (1, .int p1), (2, .int p2), (3, .int p3)] := hl
  refine lv_aload_n hx hb dX1_addFastening_0 rfl (lv_at hl 0 rfl) ?_
  refine lv_iload_n hx hb dX1_addFastening_1 rfl (lv_at hl 1 rfl) ?_
  refine lv_iload_n hx hb dX1_addFastening_2 rfl (lv_at hl 2 rfl) ?_
  refine lv_iload_n hx hb dX1_addFastening_3 rfl (lv_at hl 3 rfl) ?_
  have hFc := va_free (wc := (sh_P cs adP kdP grP cvP brP hzP fmP dmP e1P e2P fkP pnP fnP)) hD hS hA [0, 1, 2, 3, 4, 5, 6, 7, 8, 9, 10] rfl
  refine va_calli (va_runV (As := [.int p1, .int p2, .int p3]) (rest := []) ⟨hx, hb, hml, hown, hts⟩ (met_X1_allowsFastening l D cs ev _ adP kdP grP cvP brP hzP fmP dmP e1P e2P fkP pnP fnP p1 p2 p3 _ h) (cwV 3 hts gX1_addFastening_X1_allowsFastening rfl rfl rfl (by decide +kernel) ⟨Nat.le_of_ble_eq_true rfl, Nat.le_of_ble_eq_true rfl⟩) (mPreV (va_recv hK hP (ci := 1) (q0 := 0) rfl rfl) hP hD hS hK hE hFc [0, 1, 2, 3, 4, 5, 6, 7, 8, 9, 10] (by decide) rfl) rfl rfl hl.1 rfl (lv_room (Nat.le_of_ble_eq_true rfl)) dX1_addFastening_4 ⟨Nat.le_of_ble_eq_true rfl, Nat.le_of_ble_eq_true rfl⟩) hS (fun q _ h => hFc q h) hFc (fun r_1 u t H1 locs ht hvm hw hB hz1 hk1 hS => ?_)
  have h := hw
  obtain ⟨hP1, hK1, hD1⟩ := hB
  rw [ht] at hP1
  obtain ⟨hP, hD⟩ := mJoin (wr := ([] : va_W)) (w1 := (sh_P cs adP kdP grP cvP brP hzP fmP dmP e1P e2P fkP pnP fnP)) (w' := (sh_P cs adP kdP grP cvP brP hzP fmP dmP e1P e2P fkP pnP fnP)) hP hD [0, 1, 2, 3, 4, 5, 6, 7, 8, 9, 10] [] rfl rfl (by decide) (by decide) hk1 hFc hP1 hD1 [0, 1, 2, 3, 4, 5, 6, 7, 8, 9, 10] (by decide) rfl
  generalize H1 = H at hP hS ⊢
  refine lv_if_ne (tgt := 12) hx hb dX1_addFastening_7 (by decide) (fun c_2 => ?_) (fun c_2 => ?_)
  · have h := h.2 c_2
    refine lv_aload_n hx hb dX1_addFastening_12 rfl (lv_at hl 0 rfl) ?_
    refine va_get (D := D) (ci := 1) (v := .int fnP) (C := RX1) (T := TX1) (N := 12) hx hb hts (by decide +kernel) hown hK hP 0 rfl rfl 11 (by decide) (hts (.fieldLink RX1 47 "PartGraphs$Product" "fasteningCount" "I") (by decide +kernel)) (fun _ h9 => h9) rfl dX1_addFastening_13 ?_
    refine lv_istore (lv' := [(4, .int fnP), (0, .ref (adP 0)), (1, .int p1), (2, .int p2), (3, .int p3)]) hx hb dX1_addFastening_16 hl (by decide) rfl (fun ls hl => ?_)
    refine lv_aload_n hx hb dX1_addFastening_18 rfl (lv_at hl 1 rfl) ?_
    refine va_get (D := D) (ci := 1) (v := .ref (adP 8)) (C := RX1) (T := TX1) (N := 12) hx hb hts (by decide +kernel) hown hK hP 0 rfl rfl 7 (by decide) (hts (.fieldLink RX1 34 "PartGraphs$Product" "firstEnds" "[I") (by decide +kernel)) (fun _ h9 => h9) rfl dX1_addFastening_19 ?_
    refine lv_iload hx hb dX1_addFastening_22 (lv_at hl 0 rfl) ?_
    refine lv_iload_n hx hb dX1_addFastening_24 rfl (lv_at hl 2 rfl) ?_
    have hin := h.1
    have h := h.2
    refine va_iast (D := D) (cl := vwCl) hx hb hK hP hD hS 8 0 rfl rfl hin dX1_addFastening_25 (fun H locs hP hD hS => ?_)
    have hP : va_P D vwCl (sh_P cs adP kdP grP cvP brP hzP fmP dmP (upd e1P fnP.toNatClampNeg p1) e2P fkP pnP fnP) H := hP
    have hD : va_D A (sh_P cs adP kdP grP cvP brP hzP fmP dmP (upd e1P fnP.toNatClampNeg p1) e2P fkP pnP fnP) := hD
    refine lv_aload_n hx hb dX1_addFastening_26 rfl (lv_at hl 1 rfl) ?_
    refine va_get (D := D) (ci := 1) (v := .ref (adP 9)) (C := RX1) (T := TX1) (N := 12) hx hb hts (by decide +kernel) hown hK hP 0 rfl rfl 8 (by decide) (hts (.fieldLink RX1 37 "PartGraphs$Product" "secondEnds" "[I") (by decide +kernel)) (fun _ h9 => h9) rfl dX1_addFastening_27 ?_
    refine lv_iload hx hb dX1_addFastening_30 (lv_at hl 0 rfl) ?_
    refine lv_iload_n hx hb dX1_addFastening_32 rfl (lv_at hl 3 rfl) ?_
    have hin := h.1
    have h := h.2
    refine va_iast (D := D) (cl := vwCl) hx hb hK hP hD hS 9 0 rfl rfl hin dX1_addFastening_33 (fun H locs hP hD hS => ?_)
    have hP : va_P D vwCl (sh_P cs adP kdP grP cvP brP hzP fmP dmP (upd e1P fnP.toNatClampNeg p1) (upd e2P fnP.toNatClampNeg p2) fkP pnP fnP) H := hP
    have hD : va_D A (sh_P cs adP kdP grP cvP brP hzP fmP dmP (upd e1P fnP.toNatClampNeg p1) (upd e2P fnP.toNatClampNeg p2) fkP pnP fnP) := hD
    refine lv_aload_n hx hb dX1_addFastening_34 rfl (lv_at hl 1 rfl) ?_
    refine va_get (D := D) (ci := 1) (v := .ref (adP 10)) (C := RX1) (T := TX1) (N := 12) hx hb hts (by decide +kernel) hown hK hP 0 rfl rfl 9 (by decide) (hts (.fieldLink RX1 40 "PartGraphs$Product" "fasteningKinds" "[I") (by decide +kernel)) (fun _ h9 => h9) rfl dX1_addFastening_35 ?_
    refine lv_iload hx hb dX1_addFastening_38 (lv_at hl 0 rfl) ?_
    refine lv_iload_n hx hb dX1_addFastening_40 rfl (lv_at hl 4 rfl) ?_
    have hin := h.1
    have h := h.2
    refine va_iast (D := D) (cl := vwCl) hx hb hK hP hD hS 10 0 rfl rfl hin dX1_addFastening_41 (fun H locs hP hD hS => ?_)
    have hP : va_P D vwCl (sh_P cs adP kdP grP cvP brP hzP fmP dmP (upd e1P fnP.toNatClampNeg p1) (upd e2P fnP.toNatClampNeg p2) (upd fkP fnP.toNatClampNeg p3) pnP fnP) H := hP
    have hD : va_D A (sh_P cs adP kdP grP cvP brP hzP fmP dmP (upd e1P fnP.toNatClampNeg p1) (upd e2P fnP.toNatClampNeg p2) (upd fkP fnP.toNatClampNeg p3) pnP fnP) := hD
    refine lv_aload_n hx hb dX1_addFastening_42 rfl (lv_at hl 1 rfl) ?_
    refine lv_dup hx hb dX1_addFastening_43 rfl ?_
    refine va_get (D := D) (ci := 1) (v := .int fnP) (C := RX1) (T := TX1) (N := 12) hx hb hts (by decide +kernel) hown hK hP 0 rfl rfl 11 (by decide) (hts (.fieldLink RX1 47 "PartGraphs$Product" "fasteningCount" "I") (by decide +kernel)) (fun _ h9 => h9) rfl dX1_addFastening_44 ?_
    refine lv_iconst (v := 1) hx hb dX1_addFastening_47 (by decide) ?_
    refine lv_iadd hx hb dX1_addFastening_48 ?_
    refine va_put (D := D) (ci := 1) (v := .int (fnP + 1)) (ty := .int) (C := RX1) (T := TX1) (N := 12) hx hb hts (by decide +kernel) tyX1 tyX1_ok nmX1 hown hK hP hD hS 0 rfl rfl 11 (by decide) (hts (.fieldLink RX1 47 "PartGraphs$Product" "fasteningCount" "I") (by decide +kernel)) (fun _ h9 => h9) rfl (by decide +kernel) rfl rfl (Nat.le_of_ble_eq_true rfl) dX1_addFastening_49 (fun H locs hP hD hS => ?_)
    have hP : va_P D vwCl (sh_P cs adP kdP grP cvP brP hzP fmP dmP (upd e1P fnP.toNatClampNeg p1) (upd e2P fnP.toNatClampNeg p2) (upd fkP fnP.toNatClampNeg p3) pnP (fnP + 1)) H := hP
    have hD : va_D A (sh_P cs adP kdP grP cvP brP hzP fmP dmP (upd e1P fnP.toNatClampNeg p1) (upd e2P fnP.toNatClampNeg p2) (upd fkP fnP.toNatClampNeg p3) pnP (fnP + 1)) := hD
    refine lv_iload hx hb dX1_addFastening_52 (lv_at hl 0 rfl) ?_
    exact W.iret (v := fnP) hx hb hr (fun t ht hW => ⟨⟨fnP, (upd e1P fnP.toNatClampNeg p1, upd e2P fnP.toNatClampNeg p2, upd fkP fnP.toNatClampNeg p3, fnP + 1), rfl, h, by rw [ht]; exact hP, va_K.moved hW.alike hK, hD⟩, hS.F ht⟩) hS.2.2 dX1_addFastening_54
  · have h := h.1 c_2
    refine lv_iconst (v := (-1)) hx hb dX1_addFastening_10 (by decide) ?_
    exact W.iret (v := (-1)) hx hb hr (fun t ht hW => ⟨⟨(-1), (e1P, e2P, fkP, fnP), rfl, h, by rw [ht]; exact hP, va_K.moved hW.alike hK, hD⟩, hS.F ht⟩) hS.2.2 dX1_addFastening_11
def wp_X1_allowsCover (cvP : Nat → Int32) (pnP : Int32) (p1 : Int32) (p2 : Int32) (post : Int32 → Unit → Prop) : Prop :=
    wp_X1_areTwoParts pnP p1 p2 (fun r_1 _ => ((r_1 = 0 → post 0 ()) ∧ (¬ r_1 = 0 → (vp_in p2 10 ∧ wp_X5_contains (cvP p2.toNatClampNeg) p1 (fun r_3 _ => ((r_3 = 0 → post 1 ()) ∧ (¬ r_3 = 0 → post 0 ())))))))
set_option maxHeartbeats 4000000 in
set_option maxRecDepth 100000 in
theorem met_X1_allowsCover (l : Launch) (D : va_G) (cs : Nat → ClassId) (ev : Nat → Nat → Nat) (sz0 : Nat) (adP : Nat → Nat) (kdP : Nat → Int32) (grP : Nat → Int64) (cvP : Nat → Int32) (brP : Nat → Int32) (hzP : Nat → Int32) (fmP : Nat → Int32) (dmP : Nat → Int32) (e1P : Nat → Int32) (e2P : Nat → Int32) (fkP : Nat → Int32) (pnP : Int32) (fnP : Int32) (p1 : Int32) (p2 : Int32) (post : Int32 → Unit → Prop) (h : wp_X1_allowsCover cvP pnP p1 p2 post) : Met l yX1_allowsCover wsX1_allowsCover ({ frames := 1, cells := 0, slots := 0, locals := 22 }) (va_Pc [.ref (adP 0), .int p1, .int p2] (mPre D cs ev (sh_P cs adP kdP grP cvP brP hzP fmP dmP e1P e2P fkP pnP fnP) sz0)) (va_Qi post (fun _ t => mAt D cs (va_A (sh_P cs adP kdP grP cvP brP hzP fmP dmP e1P e2P fkP pnP fnP) sz0) (sh_P cs adP kdP grP cvP brP hzP fmP dmP e1P e2P fkP pnP fnP) t) (va_A (sh_P cs adP kdP grP cvP brP hzP fmP dmP e1P e2P fkP pnP fnP) sz0)) 0 0 (va_A (sh_P cs adP kdP grP cvP brP hzP fmP dmP e1P e2P fkP pnP fnP) sz0) := by
  refine Met.ofW (cc := cX1_allowsCover) (maxL := 3) (ret := (some .boolean)) (by decide) rfl ?_
  intro p e s m args below meth c s₁ B hml hv
  obtain ⟨rfl, hsz, hP, hK, hD0, hE⟩ := hv
  have hx := B.exec
  have hb := B.bytes
  have hr := B.returns
  have hts := atoms_spec (ws := wsX1_allowsCover) B.pre
  have hown : s.vm.findClass RX1 = some m.cls := findClass_of_methodNamed B.named
  have hlocks := B.notSynchronized
  subst hsz
  have hD := hD0.self (sz := s.heap.size)
  generalize hAe : va_A (sh_P cs adP kdP grP cvP brP hzP fmP dmP e1P e2P fkP pnP fnP) s.heap.size = A at hD hE ⊢
  have hA : ∀ q : Nat, s.heap.size ≤ q → A q := fun q h => by rw [← hAe]; exact Or.inr h
  have hS : va_S A s.heap s.heap [] := va_S.rf
  have hl := lv_entry ([.ref (adP 0), .int p1, .int p2]) (n := 3) (Nat.le_of_ble_eq_true rfl)
  rw [lg_entry_eq]
  generalize (lg_sl ([.ref (adP 0), .int p1, .int p2]) ++ List.replicate (3 - (lg_sl ([.ref (adP 0), .int p1, .int p2])).length) Slot.unset).toArray = ls at hl ⊢
  have hl : lv_has ls 3 [(0, .ref (adP 0)), (1, .int p1), (2, .int p2)] := hl
  refine lv_aload_n hx hb dX1_allowsCover_0 rfl (lv_at hl 0 rfl) ?_
  refine lv_iload_n hx hb dX1_allowsCover_1 rfl (lv_at hl 1 rfl) ?_
  refine lv_iload_n hx hb dX1_allowsCover_2 rfl (lv_at hl 2 rfl) ?_
  have hFc := va_free (wc := (sh_P cs adP kdP grP cvP brP hzP fmP dmP e1P e2P fkP pnP fnP)) hD hS hA [0, 1, 2, 3, 4, 5, 6, 7, 8, 9, 10] rfl
  refine va_calli (va_runV (As := [.int p1, .int p2]) (rest := []) ⟨hx, hb, hml, hown, hts⟩ (met_X1_areTwoParts l D cs ev _ adP kdP grP cvP brP hzP fmP dmP e1P e2P fkP pnP fnP p1 p2 _ h) (cwV 2 hts gX1_allowsCover_X1_areTwoParts rfl rfl rfl (by decide +kernel) ⟨Nat.le_of_ble_eq_true rfl, Nat.le_of_ble_eq_true rfl⟩) (mPreV (va_recv hK hP (ci := 1) (q0 := 0) rfl rfl) hP hD hS hK hE hFc [0, 1, 2, 3, 4, 5, 6, 7, 8, 9, 10] (by decide) rfl) rfl rfl hl.1 rfl (lv_room (Nat.le_of_ble_eq_true rfl)) dX1_allowsCover_3 ⟨Nat.le_of_ble_eq_true rfl, Nat.le_of_ble_eq_true rfl⟩) hS (fun q _ h => hFc q h) hFc (fun r_1 u t H1 locs ht hvm hw hB hz1 hk1 hS => ?_)
  have h := hw
  obtain ⟨hP1, hK1, hD1⟩ := hB
  rw [ht] at hP1
  obtain ⟨hP, hD⟩ := mJoin (wr := ([] : va_W)) (w1 := (sh_P cs adP kdP grP cvP brP hzP fmP dmP e1P e2P fkP pnP fnP)) (w' := (sh_P cs adP kdP grP cvP brP hzP fmP dmP e1P e2P fkP pnP fnP)) hP hD [0, 1, 2, 3, 4, 5, 6, 7, 8, 9, 10] [] rfl rfl (by decide) (by decide) hk1 hFc hP1 hD1 [0, 1, 2, 3, 4, 5, 6, 7, 8, 9, 10] (by decide) rfl
  generalize H1 = H at hP hS ⊢
  refine lv_if_eq (tgt := 26) hx hb dX1_allowsCover_6 (by decide) (fun c_2 => ?_) (fun c_2 => ?_)
  · have h := h.1 c_2
    refine lv_iconst (v := 0) hx hb dX1_allowsCover_26 (by decide) ?_
    exact W.zret (v := 0) hx hb hr (by decide) (fun t ht hW => ⟨⟨0, (), rfl, h, by rw [ht]; exact hP, va_K.moved hW.alike hK, hD⟩, hS.F ht⟩) hS.2.2 dX1_allowsCover_27
  · have h := h.2 c_2
    refine lv_aload_n hx hb dX1_allowsCover_9 rfl (lv_at hl 0 rfl) ?_
    refine va_get (D := D) (ci := 1) (v := .ref (adP 3)) (C := RX1) (T := TX1) (N := 12) hx hb hts (by decide +kernel) hown hK hP 0 rfl rfl 2 (by decide) (hts (.fieldLink RX1 19 "PartGraphs$Product" "coverers" "[I") (by decide +kernel)) (fun _ h9 => h9) rfl dX1_allowsCover_10 ?_
    refine lv_iload_n hx hb dX1_allowsCover_13 rfl (lv_at hl 2 rfl) ?_
    have hin := h.1
    have h := h.2
    refine va_iald (D := D) (cl := vwCl) hx hb hK hP 3 0 rfl rfl hin dX1_allowsCover_14 ?_
    refine lv_iload_n hx hb dX1_allowsCover_15 rfl (lv_at hl 1 rfl) ?_
    have hFc := va_free (wc := ([] : va_W)) hD hS hA [] rfl
    refine va_calli (va_runSN (As := [.int (cvP p2.toNatClampNeg), .int p1]) (rest := []) ⟨hx, hb, hml, hown, hts⟩ (met_X5_contains l D cs ev _ (cvP p2.toNatClampNeg) p1 _ h) ⟨va_cnB 2 hts gX1_allowsCover_X5_contains_n71 rfl rfl rfl hE.1.2.1 (hts (.initialized RX5) (by decide +kernel)) (by decide +kernel) ⟨Nat.le_of_ble_eq_true rfl, Nat.le_of_ble_eq_true rfl⟩, hts (.static yX5_contains) (by decide +kernel), trivial⟩ (mPreS hP hD hS hK hE hFc [] (by decide) rfl) rfl rfl hl.1 rfl (lv_room (Nat.le_of_ble_eq_true rfl)) dX1_allowsCover_16 ⟨Nat.le_of_ble_eq_true rfl, Nat.le_of_ble_eq_true rfl⟩) hS (fun q _ h => hFc q h) hFc (fun r_3 u t H1 locs ht hvm hw hB hz1 hk1 hS => ?_)
    have h := hw
    obtain ⟨hP1, hK1, hD1⟩ := hB
    rw [ht] at hP1
    obtain ⟨hP, hD⟩ := mJoin (wr := (sh_P cs adP kdP grP cvP brP hzP fmP dmP e1P e2P fkP pnP fnP)) (w1 := ([] : va_W)) (w' := (sh_P cs adP kdP grP cvP brP hzP fmP dmP e1P e2P fkP pnP fnP)) hP hD [] [0, 1, 2, 3, 4, 5, 6, 7, 8, 9, 10] rfl rfl (by decide) (by decide) hk1 hFc hP1 hD1 [0, 1, 2, 3, 4, 5, 6, 7, 8, 9, 10] (by decide) rfl
    generalize H1 = H at hP hS ⊢
    refine lv_if_ne (tgt := 26) hx hb dX1_allowsCover_19 (by decide) (fun c_4 => ?_) (fun c_4 => ?_)
    · have h := h.2 c_4
      refine lv_iconst (v := 0) hx hb dX1_allowsCover_26 (by decide) ?_
      exact W.zret (v := 0) hx hb hr (by decide) (fun t ht hW => ⟨⟨0, (), rfl, h, by rw [ht]; exact hP, va_K.moved hW.alike hK, hD⟩, hS.F ht⟩) hS.2.2 dX1_allowsCover_27
    · have h := h.1 c_4
      refine lv_iconst (v := 1) hx hb dX1_allowsCover_22 (by decide) ?_
      refine lv_goto (tgt := 27) hx hb dX1_allowsCover_23 (by decide) ?_
      exact W.zret (v := 1) hx hb hr (by decide) (fun t ht hW => ⟨⟨1, (), rfl, h, by rw [ht]; exact hP, va_K.moved hW.alike hK, hD⟩, hS.F ht⟩) hS.2.2 dX1_allowsCover_27
def wp_X1_addCover (cvP : Nat → Int32) (pnP : Int32) (p1 : Int32) (p2 : Int32) (post : Int32 → ((Nat → Int32)) → Prop) : Prop :=
    wp_X1_allowsCover cvP pnP p1 p2 (fun r_1 _ => ((r_1 = 0 → post 0 cvP) ∧ (¬ r_1 = 0 → (vp_in p2 10 ∧ (vp_in p2 10 ∧ post 1 (upd cvP p2.toNatClampNeg ((cvP p2.toNatClampNeg) ||| (1 <<< (p1 &&& 31)))))))))
set_option maxHeartbeats 4000000 in
set_option maxRecDepth 100000 in
theorem met_X1_addCover (l : Launch) (D : va_G) (cs : Nat → ClassId) (ev : Nat → Nat → Nat) (sz0 : Nat) (adP : Nat → Nat) (kdP : Nat → Int32) (grP : Nat → Int64) (cvP : Nat → Int32) (brP : Nat → Int32) (hzP : Nat → Int32) (fmP : Nat → Int32) (dmP : Nat → Int32) (e1P : Nat → Int32) (e2P : Nat → Int32) (fkP : Nat → Int32) (pnP : Int32) (fnP : Int32) (p1 : Int32) (p2 : Int32) (post : Int32 → ((Nat → Int32)) → Prop) (h : wp_X1_addCover cvP pnP p1 p2 post) : Met l yX1_addCover wsX1_addCover ({ frames := 2, cells := 0, slots := 0, locals := 44 }) (va_Pc [.ref (adP 0), .int p1, .int p2] (mPre D cs ev (sh_P cs adP kdP grP cvP brP hzP fmP dmP e1P e2P fkP pnP fnP) sz0)) (va_Qi post (fun cvP' t => mAt D cs (va_A (sh_P cs adP kdP grP cvP brP hzP fmP dmP e1P e2P fkP pnP fnP) sz0) (sh_P cs adP kdP grP cvP' brP hzP fmP dmP e1P e2P fkP pnP fnP) t) (va_A (sh_P cs adP kdP grP cvP brP hzP fmP dmP e1P e2P fkP pnP fnP) sz0)) 0 0 (va_A (sh_P cs adP kdP grP cvP brP hzP fmP dmP e1P e2P fkP pnP fnP) sz0) := by
  refine Met.ofW (cc := cX1_addCover) (maxL := 3) (ret := (some .boolean)) (by decide) rfl ?_
  intro p e s m args below meth c s₁ B hml hv
  obtain ⟨rfl, hsz, hP, hK, hD0, hE⟩ := hv
  have hx := B.exec
  have hb := B.bytes
  have hr := B.returns
  have hts := atoms_spec (ws := wsX1_addCover) B.pre
  have hown : s.vm.findClass RX1 = some m.cls := findClass_of_methodNamed B.named
  have hlocks := B.notSynchronized
  subst hsz
  have hD := hD0.self (sz := s.heap.size)
  generalize hAe : va_A (sh_P cs adP kdP grP cvP brP hzP fmP dmP e1P e2P fkP pnP fnP) s.heap.size = A at hD hE ⊢
  have hA : ∀ q : Nat, s.heap.size ≤ q → A q := fun q h => by rw [← hAe]; exact Or.inr h
  have hS : va_S A s.heap s.heap [] := va_S.rf
  have hl := lv_entry ([.ref (adP 0), .int p1, .int p2]) (n := 3) (Nat.le_of_ble_eq_true rfl)
  rw [lg_entry_eq]
  generalize (lg_sl ([.ref (adP 0), .int p1, .int p2]) ++ List.replicate (3 - (lg_sl ([.ref (adP 0), .int p1, .int p2])).length) Slot.unset).toArray = ls at hl ⊢
  have hl : lv_has ls 3 [(0, .ref (adP 0)), (1, .int p1), (2, .int p2)] := hl
  refine lv_aload_n hx hb dX1_addCover_0 rfl (lv_at hl 0 rfl) ?_
  refine lv_iload_n hx hb dX1_addCover_1 rfl (lv_at hl 1 rfl) ?_
  refine lv_iload_n hx hb dX1_addCover_2 rfl (lv_at hl 2 rfl) ?_
  have hFc := va_free (wc := (sh_P cs adP kdP grP cvP brP hzP fmP dmP e1P e2P fkP pnP fnP)) hD hS hA [0, 1, 2, 3, 4, 5, 6, 7, 8, 9, 10] rfl
  refine va_calli (va_runV (As := [.int p1, .int p2]) (rest := []) ⟨hx, hb, hml, hown, hts⟩ (met_X1_allowsCover l D cs ev _ adP kdP grP cvP brP hzP fmP dmP e1P e2P fkP pnP fnP p1 p2 _ h) (cwV 2 hts gX1_addCover_X1_allowsCover rfl rfl rfl (by decide +kernel) ⟨Nat.le_of_ble_eq_true rfl, Nat.le_of_ble_eq_true rfl⟩) (mPreV (va_recv hK hP (ci := 1) (q0 := 0) rfl rfl) hP hD hS hK hE hFc [0, 1, 2, 3, 4, 5, 6, 7, 8, 9, 10] (by decide) rfl) rfl rfl hl.1 rfl (lv_room (Nat.le_of_ble_eq_true rfl)) dX1_addCover_3 ⟨Nat.le_of_ble_eq_true rfl, Nat.le_of_ble_eq_true rfl⟩) hS (fun q _ h => hFc q h) hFc (fun r_1 u t H1 locs ht hvm hw hB hz1 hk1 hS => ?_)
  have h := hw
  obtain ⟨hP1, hK1, hD1⟩ := hB
  rw [ht] at hP1
  obtain ⟨hP, hD⟩ := mJoin (wr := ([] : va_W)) (w1 := (sh_P cs adP kdP grP cvP brP hzP fmP dmP e1P e2P fkP pnP fnP)) (w' := (sh_P cs adP kdP grP cvP brP hzP fmP dmP e1P e2P fkP pnP fnP)) hP hD [0, 1, 2, 3, 4, 5, 6, 7, 8, 9, 10] [] rfl rfl (by decide) (by decide) hk1 hFc hP1 hD1 [0, 1, 2, 3, 4, 5, 6, 7, 8, 9, 10] (by decide) rfl
  generalize H1 = H at hP hS ⊢
  refine lv_if_ne (tgt := 11) hx hb dX1_addCover_6 (by decide) (fun c_2 => ?_) (fun c_2 => ?_)
  · have h := h.2 c_2
    refine lv_aload_n hx hb dX1_addCover_11 rfl (lv_at hl 0 rfl) ?_
    refine va_get (D := D) (ci := 1) (v := .ref (adP 3)) (C := RX1) (T := TX1) (N := 12) hx hb hts (by decide +kernel) hown hK hP 0 rfl rfl 2 (by decide) (hts (.fieldLink RX1 19 "PartGraphs$Product" "coverers" "[I") (by decide +kernel)) (fun _ h9 => h9) rfl dX1_addCover_12 ?_
    refine lv_iload_n hx hb dX1_addCover_15 rfl (lv_at hl 2 rfl) ?_
    refine lv_dup2_11 hx hb dX1_addCover_16 rfl rfl ?_
    have hin := h.1
    have h := h.2
    refine va_iald (D := D) (cl := vwCl) hx hb hK hP 3 0 rfl rfl hin dX1_addCover_17 ?_
    refine lv_iconst (v := 1) hx hb dX1_addCover_18 (by decide) ?_
    refine lv_iload_n hx hb dX1_addCover_19 rfl (lv_at hl 1 rfl) ?_
    refine lv_ishl hx hb dX1_addCover_20 ?_
    refine lv_ior hx hb dX1_addCover_21 ?_
    have hin := h.1
    have h := h.2
    refine va_iast (D := D) (cl := vwCl) hx hb hK hP hD hS 3 0 rfl rfl hin dX1_addCover_22 (fun H locs hP hD hS => ?_)
    have hP : va_P D vwCl (sh_P cs adP kdP grP (upd cvP p2.toNatClampNeg ((cvP p2.toNatClampNeg) ||| (1 <<< (p1 &&& 31)))) brP hzP fmP dmP e1P e2P fkP pnP fnP) H := hP
    have hD : va_D A (sh_P cs adP kdP grP (upd cvP p2.toNatClampNeg ((cvP p2.toNatClampNeg) ||| (1 <<< (p1 &&& 31)))) brP hzP fmP dmP e1P e2P fkP pnP fnP) := hD
    refine lv_iconst (v := 1) hx hb dX1_addCover_23 (by decide) ?_
    exact W.zret (v := 1) hx hb hr (by decide) (fun t ht hW => ⟨⟨1, (upd cvP p2.toNatClampNeg ((cvP p2.toNatClampNeg) ||| (1 <<< (p1 &&& 31)))), rfl, h, by rw [ht]; exact hP, va_K.moved hW.alike hK, hD⟩, hS.F ht⟩) hS.2.2 dX1_addCover_24
  · have h := h.1 c_2
    refine lv_iconst (v := 0) hx hb dX1_addCover_9 (by decide) ?_
    exact W.zret (v := 0) hx hb hr (by decide) (fun t ht hW => ⟨⟨0, cvP, rfl, h, by rw [ht]; exact hP, va_K.moved hW.alike hK, hD⟩, hS.F ht⟩) hS.2.2 dX1_addCover_10
def wp_X1_allowsBar (brP : Nat → Int32) (pnP : Int32) (p1 : Int32) (p2 : Int32) (p3 : Int32) (post : Int32 → Unit → Prop) : Prop :=
    wp_X1_areTwoParts pnP p1 p3 (fun r_1 _ => ((r_1 = 0 → post 0 ()) ∧ (¬ r_1 = 0 → wp_X5_isBelow p2 6 (fun r_3 _ => ((r_3 = 0 → post 0 ()) ∧ (¬ r_3 = 0 → wp_X1_barIndex p1 p2 (fun r_5 _ => (vp_in r_5 60 ∧ wp_X5_contains (brP r_5.toNatClampNeg) p3 (fun r_6 _ => ((r_6 = 0 → post 1 ()) ∧ (¬ r_6 = 0 → post 0 ())))))))))))
set_option maxHeartbeats 4000000 in
set_option maxRecDepth 100000 in
theorem met_X1_allowsBar (l : Launch) (D : va_G) (cs : Nat → ClassId) (ev : Nat → Nat → Nat) (sz0 : Nat) (adP : Nat → Nat) (kdP : Nat → Int32) (grP : Nat → Int64) (cvP : Nat → Int32) (brP : Nat → Int32) (hzP : Nat → Int32) (fmP : Nat → Int32) (dmP : Nat → Int32) (e1P : Nat → Int32) (e2P : Nat → Int32) (fkP : Nat → Int32) (pnP : Int32) (fnP : Int32) (p1 : Int32) (p2 : Int32) (p3 : Int32) (post : Int32 → Unit → Prop) (h : wp_X1_allowsBar brP pnP p1 p2 p3 post) : Met l yX1_allowsBar wsX1_allowsBar ({ frames := 1, cells := 0, slots := 0, locals := 22 }) (va_Pc [.ref (adP 0), .int p1, .int p2, .int p3] (mPre D cs ev (sh_P cs adP kdP grP cvP brP hzP fmP dmP e1P e2P fkP pnP fnP) sz0)) (va_Qi post (fun _ t => mAt D cs (va_A (sh_P cs adP kdP grP cvP brP hzP fmP dmP e1P e2P fkP pnP fnP) sz0) (sh_P cs adP kdP grP cvP brP hzP fmP dmP e1P e2P fkP pnP fnP) t) (va_A (sh_P cs adP kdP grP cvP brP hzP fmP dmP e1P e2P fkP pnP fnP) sz0)) 0 0 (va_A (sh_P cs adP kdP grP cvP brP hzP fmP dmP e1P e2P fkP pnP fnP) sz0) := by
  refine Met.ofW (cc := cX1_allowsBar) (maxL := 4) (ret := (some .boolean)) (by decide) rfl ?_
  intro p e s m args below meth c s₁ B hml hv
  obtain ⟨rfl, hsz, hP, hK, hD0, hE⟩ := hv
  have hx := B.exec
  have hb := B.bytes
  have hr := B.returns
  have hts := atoms_spec (ws := wsX1_allowsBar) B.pre
  have hown : s.vm.findClass RX1 = some m.cls := findClass_of_methodNamed B.named
  have hlocks := B.notSynchronized
  subst hsz
  have hD := hD0.self (sz := s.heap.size)
  generalize hAe : va_A (sh_P cs adP kdP grP cvP brP hzP fmP dmP e1P e2P fkP pnP fnP) s.heap.size = A at hD hE ⊢
  have hA : ∀ q : Nat, s.heap.size ≤ q → A q := fun q h => by rw [← hAe]; exact Or.inr h
  have hS : va_S A s.heap s.heap [] := va_S.rf
  have hl := lv_entry ([.ref (adP 0), .int p1, .int p2, .int p3]) (n := 4) (Nat.le_of_ble_eq_true rfl)
  rw [lg_entry_eq]
  generalize (lg_sl ([.ref (adP 0), .int p1, .int p2, .int p3]) ++ List.replicate (4 - (lg_sl ([.ref (adP 0), .int p1, .int p2, .int p3])).length) Slot.unset).toArray = ls at hl ⊢
  have hl : lv_has ls 4 [(0, .ref (adP 0)), (1, .int p1), (2, .int p2), (3, .int p3)] := hl
  refine lv_aload_n hx hb dX1_allowsBar_0 rfl (lv_at hl 0 rfl) ?_
  refine lv_iload_n hx hb dX1_allowsBar_1 rfl (lv_at hl 1 rfl) ?_
  refine lv_iload_n hx hb dX1_allowsBar_2 rfl (lv_at hl 3 rfl) ?_
  have hFc := va_free (wc := (sh_P cs adP kdP grP cvP brP hzP fmP dmP e1P e2P fkP pnP fnP)) hD hS hA [0, 1, 2, 3, 4, 5, 6, 7, 8, 9, 10] rfl
  refine va_calli (va_runV (As := [.int p1, .int p3]) (rest := []) ⟨hx, hb, hml, hown, hts⟩ (met_X1_areTwoParts l D cs ev _ adP kdP grP cvP brP hzP fmP dmP e1P e2P fkP pnP fnP p1 p3 _ h) (cwV 2 hts gX1_allowsBar_X1_areTwoParts rfl rfl rfl (by decide +kernel) ⟨Nat.le_of_ble_eq_true rfl, Nat.le_of_ble_eq_true rfl⟩) (mPreV (va_recv hK hP (ci := 1) (q0 := 0) rfl rfl) hP hD hS hK hE hFc [0, 1, 2, 3, 4, 5, 6, 7, 8, 9, 10] (by decide) rfl) rfl rfl hl.1 rfl (lv_room (Nat.le_of_ble_eq_true rfl)) dX1_allowsBar_3 ⟨Nat.le_of_ble_eq_true rfl, Nat.le_of_ble_eq_true rfl⟩) hS (fun q _ h => hFc q h) hFc (fun r_1 u t H1 locs ht hvm hw hB hz1 hk1 hS => ?_)
  have h := hw
  obtain ⟨hP1, hK1, hD1⟩ := hB
  rw [ht] at hP1
  obtain ⟨hP, hD⟩ := mJoin (wr := ([] : va_W)) (w1 := (sh_P cs adP kdP grP cvP brP hzP fmP dmP e1P e2P fkP pnP fnP)) (w' := (sh_P cs adP kdP grP cvP brP hzP fmP dmP e1P e2P fkP pnP fnP)) hP hD [0, 1, 2, 3, 4, 5, 6, 7, 8, 9, 10] [] rfl rfl (by decide) (by decide) hk1 hFc hP1 hD1 [0, 1, 2, 3, 4, 5, 6, 7, 8, 9, 10] (by decide) rfl
  generalize H1 = H at hP hS ⊢
  refine lv_if_eq (tgt := 39) hx hb dX1_allowsBar_6 (by decide) (fun c_2 => ?_) (fun c_2 => ?_)
  · have h := h.1 c_2
    refine lv_iconst (v := 0) hx hb dX1_allowsBar_39 (by decide) ?_
    exact W.zret (v := 0) hx hb hr (by decide) (fun t ht hW => ⟨⟨0, (), rfl, h, by rw [ht]; exact hP, va_K.moved hW.alike hK, hD⟩, hS.F ht⟩) hS.2.2 dX1_allowsBar_40
  · have h := h.2 c_2
    refine lv_iload_n hx hb dX1_allowsBar_9 rfl (lv_at hl 2 rfl) ?_
    refine lv_bipush (v := 6) hx hb dX1_allowsBar_10 (by decide) ?_
    have hFc := va_free (wc := ([] : va_W)) hD hS hA [] rfl
    refine va_calli (va_runSN (As := [.int p2, .int 6]) (rest := []) ⟨hx, hb, hml, hown, hts⟩ (met_X5_isBelow l D cs ev _ p2 6 _ h) ⟨va_cnB 2 hts gX1_allowsBar_X5_isBelow_n50 rfl rfl rfl hE.1.1 (hts (.initialized RX5) (by decide +kernel)) (by decide +kernel) ⟨Nat.le_of_ble_eq_true rfl, Nat.le_of_ble_eq_true rfl⟩, hts (.static yX5_isBelow) (by decide +kernel), trivial⟩ (mPreS hP hD hS hK hE hFc [] (by decide) rfl) rfl rfl hl.1 rfl (lv_room (Nat.le_of_ble_eq_true rfl)) dX1_allowsBar_12 ⟨Nat.le_of_ble_eq_true rfl, Nat.le_of_ble_eq_true rfl⟩) hS (fun q _ h => hFc q h) hFc (fun r_3 u t H1 locs ht hvm hw hB hz1 hk1 hS => ?_)
    have h := hw
    obtain ⟨hP1, hK1, hD1⟩ := hB
    rw [ht] at hP1
    obtain ⟨hP, hD⟩ := mJoin (wr := (sh_P cs adP kdP grP cvP brP hzP fmP dmP e1P e2P fkP pnP fnP)) (w1 := ([] : va_W)) (w' := (sh_P cs adP kdP grP cvP brP hzP fmP dmP e1P e2P fkP pnP fnP)) hP hD [] [0, 1, 2, 3, 4, 5, 6, 7, 8, 9, 10] rfl rfl (by decide) (by decide) hk1 hFc hP1 hD1 [0, 1, 2, 3, 4, 5, 6, 7, 8, 9, 10] (by decide) rfl
    generalize H1 = H at hP hS ⊢
    refine lv_if_eq (tgt := 39) hx hb dX1_allowsBar_15 (by decide) (fun c_4 => ?_) (fun c_4 => ?_)
    · have h := h.1 c_4
      refine lv_iconst (v := 0) hx hb dX1_allowsBar_39 (by decide) ?_
      exact W.zret (v := 0) hx hb hr (by decide) (fun t ht hW => ⟨⟨0, (), rfl, h, by rw [ht]; exact hP, va_K.moved hW.alike hK, hD⟩, hS.F ht⟩) hS.2.2 dX1_allowsBar_40
    · have h := h.2 c_4
      refine lv_aload_n hx hb dX1_allowsBar_18 rfl (lv_at hl 0 rfl) ?_
      refine va_get (D := D) (ci := 1) (v := .ref (adP 4)) (C := RX1) (T := TX1) (N := 12) hx hb hts (by decide +kernel) hown hK hP 0 rfl rfl 3 (by decide) (hts (.fieldLink RX1 22 "PartGraphs$Product" "bars" "[I") (by decide +kernel)) (fun _ h9 => h9) rfl dX1_allowsBar_19 ?_
      refine lv_iload_n hx hb dX1_allowsBar_22 rfl (lv_at hl 1 rfl) ?_
      refine lv_iload_n hx hb dX1_allowsBar_23 rfl (lv_at hl 2 rfl) ?_
      have hFc := va_free (wc := ([] : va_W)) hD hS hA [] rfl
      refine va_calli (va_runS (As := [.int p1, .int p2]) (rest := [.ref (adP 4)]) ⟨hx, hb, hml, hown, hts⟩ (met_X1_barIndex l D cs ev _ p1 p2 _ h) (va_cwS 2 hts gX1_allowsBar_X1_barIndex rfl rfl rfl (by decide +kernel) ⟨Nat.le_of_ble_eq_true rfl, Nat.le_of_ble_eq_true rfl⟩) (mPreS hP hD hS hK hE hFc [] (by decide) rfl) rfl rfl hl.1 rfl (lv_room (Nat.le_of_ble_eq_true rfl)) dX1_allowsBar_24 ⟨Nat.le_of_ble_eq_true rfl, Nat.le_of_ble_eq_true rfl⟩) hS (fun q _ h => hFc q h) hFc (fun r_5 u t H1 locs ht hvm hw hB hz1 hk1 hS => ?_)
      have h := hw
      obtain ⟨hP1, hK1, hD1⟩ := hB
      rw [ht] at hP1
      obtain ⟨hP, hD⟩ := mJoin (wr := (sh_P cs adP kdP grP cvP brP hzP fmP dmP e1P e2P fkP pnP fnP)) (w1 := ([] : va_W)) (w' := (sh_P cs adP kdP grP cvP brP hzP fmP dmP e1P e2P fkP pnP fnP)) hP hD [] [0, 1, 2, 3, 4, 5, 6, 7, 8, 9, 10] rfl rfl (by decide) (by decide) hk1 hFc hP1 hD1 [0, 1, 2, 3, 4, 5, 6, 7, 8, 9, 10] (by decide) rfl
      generalize H1 = H at hP hS ⊢
      have hin := h.1
      have h := h.2
      refine va_iald (D := D) (cl := vwCl) hx hb hK hP 4 0 rfl rfl hin dX1_allowsBar_27 ?_
      refine lv_iload_n hx hb dX1_allowsBar_28 rfl (lv_at hl 3 rfl) ?_
      have hFc := va_free (wc := ([] : va_W)) hD hS hA [] rfl
      refine va_calli (va_runSN (As := [.int (brP r_5.toNatClampNeg), .int p3]) (rest := []) ⟨hx, hb, hml, hown, hts⟩ (met_X5_contains l D cs ev _ (brP r_5.toNatClampNeg) p3 _ h) ⟨va_cnB 2 hts gX1_allowsBar_X5_contains_n71 rfl rfl rfl hE.1.2.1 (hts (.initialized RX5) (by decide +kernel)) (by decide +kernel) ⟨Nat.le_of_ble_eq_true rfl, Nat.le_of_ble_eq_true rfl⟩, hts (.static yX5_contains) (by decide +kernel), trivial⟩ (mPreS hP hD hS hK hE hFc [] (by decide) rfl) rfl rfl hl.1 rfl (lv_room (Nat.le_of_ble_eq_true rfl)) dX1_allowsBar_29 ⟨Nat.le_of_ble_eq_true rfl, Nat.le_of_ble_eq_true rfl⟩) hS (fun q _ h => hFc q h) hFc (fun r_6 u t H1 locs ht hvm hw hB hz1 hk1 hS => ?_)
      have h := hw
      obtain ⟨hP1, hK1, hD1⟩ := hB
      rw [ht] at hP1
      obtain ⟨hP, hD⟩ := mJoin (wr := (sh_P cs adP kdP grP cvP brP hzP fmP dmP e1P e2P fkP pnP fnP)) (w1 := ([] : va_W)) (w' := (sh_P cs adP kdP grP cvP brP hzP fmP dmP e1P e2P fkP pnP fnP)) hP hD [] [0, 1, 2, 3, 4, 5, 6, 7, 8, 9, 10] rfl rfl (by decide) (by decide) hk1 hFc hP1 hD1 [0, 1, 2, 3, 4, 5, 6, 7, 8, 9, 10] (by decide) rfl
      generalize H1 = H at hP hS ⊢
      refine lv_if_ne (tgt := 39) hx hb dX1_allowsBar_32 (by decide) (fun c_7 => ?_) (fun c_7 => ?_)
      · have h := h.2 c_7
        refine lv_iconst (v := 0) hx hb dX1_allowsBar_39 (by decide) ?_
        exact W.zret (v := 0) hx hb hr (by decide) (fun t ht hW => ⟨⟨0, (), rfl, h, by rw [ht]; exact hP, va_K.moved hW.alike hK, hD⟩, hS.F ht⟩) hS.2.2 dX1_allowsBar_40
      · have h := h.1 c_7
        refine lv_iconst (v := 1) hx hb dX1_allowsBar_35 (by decide) ?_
        refine lv_goto (tgt := 40) hx hb dX1_allowsBar_36 (by decide) ?_
        exact W.zret (v := 1) hx hb hr (by decide) (fun t ht hW => ⟨⟨1, (), rfl, h, by rw [ht]; exact hP, va_K.moved hW.alike hK, hD⟩, hS.F ht⟩) hS.2.2 dX1_allowsBar_40
def wp_X1_addBar (brP : Nat → Int32) (pnP : Int32) (p1 : Int32) (p2 : Int32) (p3 : Int32) (post : Int32 → ((Nat → Int32)) → Prop) : Prop :=
    wp_X1_allowsBar brP pnP p1 p2 p3 (fun r_1 _ => ((r_1 = 0 → post 0 brP) ∧ (¬ r_1 = 0 → wp_X1_barIndex p1 p2 (fun r_3 _ => (vp_in r_3 60 ∧ (vp_in r_3 60 ∧ post 1 (upd brP r_3.toNatClampNeg ((brP r_3.toNatClampNeg) ||| (1 <<< (p3 &&& 31))))))))))
set_option maxHeartbeats 4000000 in
set_option maxRecDepth 100000 in
theorem met_X1_addBar (l : Launch) (D : va_G) (cs : Nat → ClassId) (ev : Nat → Nat → Nat) (sz0 : Nat) (adP : Nat → Nat) (kdP : Nat → Int32) (grP : Nat → Int64) (cvP : Nat → Int32) (brP : Nat → Int32) (hzP : Nat → Int32) (fmP : Nat → Int32) (dmP : Nat → Int32) (e1P : Nat → Int32) (e2P : Nat → Int32) (fkP : Nat → Int32) (pnP : Int32) (fnP : Int32) (p1 : Int32) (p2 : Int32) (p3 : Int32) (post : Int32 → ((Nat → Int32)) → Prop) (h : wp_X1_addBar brP pnP p1 p2 p3 post) : Met l yX1_addBar wsX1_addBar ({ frames := 2, cells := 0, slots := 0, locals := 45 }) (va_Pc [.ref (adP 0), .int p1, .int p2, .int p3] (mPre D cs ev (sh_P cs adP kdP grP cvP brP hzP fmP dmP e1P e2P fkP pnP fnP) sz0)) (va_Qi post (fun brP' t => mAt D cs (va_A (sh_P cs adP kdP grP cvP brP hzP fmP dmP e1P e2P fkP pnP fnP) sz0) (sh_P cs adP kdP grP cvP brP' hzP fmP dmP e1P e2P fkP pnP fnP) t) (va_A (sh_P cs adP kdP grP cvP brP hzP fmP dmP e1P e2P fkP pnP fnP) sz0)) 0 0 (va_A (sh_P cs adP kdP grP cvP brP hzP fmP dmP e1P e2P fkP pnP fnP) sz0) := by
  refine Met.ofW (cc := cX1_addBar) (maxL := 4) (ret := (some .boolean)) (by decide) rfl ?_
  intro p e s m args below meth c s₁ B hml hv
  obtain ⟨rfl, hsz, hP, hK, hD0, hE⟩ := hv
  have hx := B.exec
  have hb := B.bytes
  have hr := B.returns
  have hts := atoms_spec (ws := wsX1_addBar) B.pre
  have hown : s.vm.findClass RX1 = some m.cls := findClass_of_methodNamed B.named
  have hlocks := B.notSynchronized
  subst hsz
  have hD := hD0.self (sz := s.heap.size)
  generalize hAe : va_A (sh_P cs adP kdP grP cvP brP hzP fmP dmP e1P e2P fkP pnP fnP) s.heap.size = A at hD hE ⊢
  have hA : ∀ q : Nat, s.heap.size ≤ q → A q := fun q h => by rw [← hAe]; exact Or.inr h
  have hS : va_S A s.heap s.heap [] := va_S.rf
  have hl := lv_entry ([.ref (adP 0), .int p1, .int p2, .int p3]) (n := 4) (Nat.le_of_ble_eq_true rfl)
  rw [lg_entry_eq]
  generalize (lg_sl ([.ref (adP 0), .int p1, .int p2, .int p3]) ++ List.replicate (4 - (lg_sl ([.ref (adP 0), .int p1, .int p2, .int p3])).length) Slot.unset).toArray = ls at hl ⊢
  have hl : lv_has ls 4 [(0, .ref (adP 0)), (1, .int p1), (2, .int p2), (3, .int p3)] := hl
  refine lv_aload_n hx hb dX1_addBar_0 rfl (lv_at hl 0 rfl) ?_
  refine lv_iload_n hx hb dX1_addBar_1 rfl (lv_at hl 1 rfl) ?_
  refine lv_iload_n hx hb dX1_addBar_2 rfl (lv_at hl 2 rfl) ?_
  refine lv_iload_n hx hb dX1_addBar_3 rfl (lv_at hl 3 rfl) ?_
  have hFc := va_free (wc := (sh_P cs adP kdP grP cvP brP hzP fmP dmP e1P e2P fkP pnP fnP)) hD hS hA [0, 1, 2, 3, 4, 5, 6, 7, 8, 9, 10] rfl
  refine va_calli (va_runV (As := [.int p1, .int p2, .int p3]) (rest := []) ⟨hx, hb, hml, hown, hts⟩ (met_X1_allowsBar l D cs ev _ adP kdP grP cvP brP hzP fmP dmP e1P e2P fkP pnP fnP p1 p2 p3 _ h) (cwV 3 hts gX1_addBar_X1_allowsBar rfl rfl rfl (by decide +kernel) ⟨Nat.le_of_ble_eq_true rfl, Nat.le_of_ble_eq_true rfl⟩) (mPreV (va_recv hK hP (ci := 1) (q0 := 0) rfl rfl) hP hD hS hK hE hFc [0, 1, 2, 3, 4, 5, 6, 7, 8, 9, 10] (by decide) rfl) rfl rfl hl.1 rfl (lv_room (Nat.le_of_ble_eq_true rfl)) dX1_addBar_4 ⟨Nat.le_of_ble_eq_true rfl, Nat.le_of_ble_eq_true rfl⟩) hS (fun q _ h => hFc q h) hFc (fun r_1 u t H1 locs ht hvm hw hB hz1 hk1 hS => ?_)
  have h := hw
  obtain ⟨hP1, hK1, hD1⟩ := hB
  rw [ht] at hP1
  obtain ⟨hP, hD⟩ := mJoin (wr := ([] : va_W)) (w1 := (sh_P cs adP kdP grP cvP brP hzP fmP dmP e1P e2P fkP pnP fnP)) (w' := (sh_P cs adP kdP grP cvP brP hzP fmP dmP e1P e2P fkP pnP fnP)) hP hD [0, 1, 2, 3, 4, 5, 6, 7, 8, 9, 10] [] rfl rfl (by decide) (by decide) hk1 hFc hP1 hD1 [0, 1, 2, 3, 4, 5, 6, 7, 8, 9, 10] (by decide) rfl
  generalize H1 = H at hP hS ⊢
  refine lv_if_ne (tgt := 12) hx hb dX1_addBar_7 (by decide) (fun c_2 => ?_) (fun c_2 => ?_)
  · have h := h.2 c_2
    refine lv_aload_n hx hb dX1_addBar_12 rfl (lv_at hl 0 rfl) ?_
    refine va_get (D := D) (ci := 1) (v := .ref (adP 4)) (C := RX1) (T := TX1) (N := 12) hx hb hts (by decide +kernel) hown hK hP 0 rfl rfl 3 (by decide) (hts (.fieldLink RX1 22 "PartGraphs$Product" "bars" "[I") (by decide +kernel)) (fun _ h9 => h9) rfl dX1_addBar_13 ?_
    refine lv_iload_n hx hb dX1_addBar_16 rfl (lv_at hl 1 rfl) ?_
    refine lv_iload_n hx hb dX1_addBar_17 rfl (lv_at hl 2 rfl) ?_
    have hFc := va_free (wc := ([] : va_W)) hD hS hA [] rfl
    refine va_calli (va_runS (As := [.int p1, .int p2]) (rest := [.ref (adP 4)]) ⟨hx, hb, hml, hown, hts⟩ (met_X1_barIndex l D cs ev _ p1 p2 _ h) (va_cwS 2 hts gX1_addBar_X1_barIndex rfl rfl rfl (by decide +kernel) ⟨Nat.le_of_ble_eq_true rfl, Nat.le_of_ble_eq_true rfl⟩) (mPreS hP hD hS hK hE hFc [] (by decide) rfl) rfl rfl hl.1 rfl (lv_room (Nat.le_of_ble_eq_true rfl)) dX1_addBar_18 ⟨Nat.le_of_ble_eq_true rfl, Nat.le_of_ble_eq_true rfl⟩) hS (fun q _ h => hFc q h) hFc (fun r_3 u t H1 locs ht hvm hw hB hz1 hk1 hS => ?_)
    have h := hw
    obtain ⟨hP1, hK1, hD1⟩ := hB
    rw [ht] at hP1
    obtain ⟨hP, hD⟩ := mJoin (wr := (sh_P cs adP kdP grP cvP brP hzP fmP dmP e1P e2P fkP pnP fnP)) (w1 := ([] : va_W)) (w' := (sh_P cs adP kdP grP cvP brP hzP fmP dmP e1P e2P fkP pnP fnP)) hP hD [] [0, 1, 2, 3, 4, 5, 6, 7, 8, 9, 10] rfl rfl (by decide) (by decide) hk1 hFc hP1 hD1 [0, 1, 2, 3, 4, 5, 6, 7, 8, 9, 10] (by decide) rfl
    generalize H1 = H at hP hS ⊢
    refine lv_dup2_11 hx hb dX1_addBar_21 rfl rfl ?_
    have hin := h.1
    have h := h.2
    refine va_iald (D := D) (cl := vwCl) hx hb hK hP 4 0 rfl rfl hin dX1_addBar_22 ?_
    refine lv_iconst (v := 1) hx hb dX1_addBar_23 (by decide) ?_
    refine lv_iload_n hx hb dX1_addBar_24 rfl (lv_at hl 3 rfl) ?_
    refine lv_ishl hx hb dX1_addBar_25 ?_
    refine lv_ior hx hb dX1_addBar_26 ?_
    have hin := h.1
    have h := h.2
    refine va_iast (D := D) (cl := vwCl) hx hb hK hP hD hS 4 0 rfl rfl hin dX1_addBar_27 (fun H locs hP hD hS => ?_)
    have hP : va_P D vwCl (sh_P cs adP kdP grP cvP (upd brP r_3.toNatClampNeg ((brP r_3.toNatClampNeg) ||| (1 <<< (p3 &&& 31)))) hzP fmP dmP e1P e2P fkP pnP fnP) H := hP
    have hD : va_D A (sh_P cs adP kdP grP cvP (upd brP r_3.toNatClampNeg ((brP r_3.toNatClampNeg) ||| (1 <<< (p3 &&& 31)))) hzP fmP dmP e1P e2P fkP pnP fnP) := hD
    refine lv_iconst (v := 1) hx hb dX1_addBar_28 (by decide) ?_
    exact W.zret (v := 1) hx hb hr (by decide) (fun t ht hW => ⟨⟨1, (upd brP r_3.toNatClampNeg ((brP r_3.toNatClampNeg) ||| (1 <<< (p3 &&& 31)))), rfl, h, by rw [ht]; exact hP, va_K.moved hW.alike hK, hD⟩, hS.F ht⟩) hS.2.2 dX1_addBar_29
  · have h := h.1 c_2
    refine lv_iconst (v := 0) hx hb dX1_addBar_10 (by decide) ?_
    exact W.zret (v := 0) hx hb hr (by decide) (fun t ht hW => ⟨⟨0, brP, rfl, h, by rw [ht]; exact hP, va_K.moved hW.alike hK, hD⟩, hS.F ht⟩) hS.2.2 dX1_addBar_11
def wp_X1_allowsHazard (hzP : Nat → Int32) (pnP : Int32) (p1 : Int32) (p2 : Int32) (post : Int32 → Unit → Prop) : Prop :=
    wp_X1_hasPart pnP p1 (fun r_1 _ => ((r_1 = 0 → post 0 ()) ∧ (¬ r_1 = 0 → wp_X5_isBelow p2 8 (fun r_3 _ => ((r_3 = 0 → post 0 ()) ∧ (¬ r_3 = 0 → (vp_in p1 10 ∧ wp_X5_contains (hzP p1.toNatClampNeg) p2 (fun r_5 _ => ((r_5 = 0 → post 1 ()) ∧ (¬ r_5 = 0 → post 0 ()))))))))))
set_option maxHeartbeats 4000000 in
set_option maxRecDepth 100000 in
theorem met_X1_allowsHazard (l : Launch) (D : va_G) (cs : Nat → ClassId) (ev : Nat → Nat → Nat) (sz0 : Nat) (adP : Nat → Nat) (kdP : Nat → Int32) (grP : Nat → Int64) (cvP : Nat → Int32) (brP : Nat → Int32) (hzP : Nat → Int32) (fmP : Nat → Int32) (dmP : Nat → Int32) (e1P : Nat → Int32) (e2P : Nat → Int32) (fkP : Nat → Int32) (pnP : Int32) (fnP : Int32) (p1 : Int32) (p2 : Int32) (post : Int32 → Unit → Prop) (h : wp_X1_allowsHazard hzP pnP p1 p2 post) : Met l yX1_allowsHazard wsX1_allowsHazard ({ frames := 1, cells := 0, slots := 0, locals := 21 }) (va_Pc [.ref (adP 0), .int p1, .int p2] (mPre D cs ev (sh_P cs adP kdP grP cvP brP hzP fmP dmP e1P e2P fkP pnP fnP) sz0)) (va_Qi post (fun _ t => mAt D cs (va_A (sh_P cs adP kdP grP cvP brP hzP fmP dmP e1P e2P fkP pnP fnP) sz0) (sh_P cs adP kdP grP cvP brP hzP fmP dmP e1P e2P fkP pnP fnP) t) (va_A (sh_P cs adP kdP grP cvP brP hzP fmP dmP e1P e2P fkP pnP fnP) sz0)) 0 0 (va_A (sh_P cs adP kdP grP cvP brP hzP fmP dmP e1P e2P fkP pnP fnP) sz0) := by
  refine Met.ofW (cc := cX1_allowsHazard) (maxL := 3) (ret := (some .boolean)) (by decide) rfl ?_
  intro p e s m args below meth c s₁ B hml hv
  obtain ⟨rfl, hsz, hP, hK, hD0, hE⟩ := hv
  have hx := B.exec
  have hb := B.bytes
  have hr := B.returns
  have hts := atoms_spec (ws := wsX1_allowsHazard) B.pre
  have hown : s.vm.findClass RX1 = some m.cls := findClass_of_methodNamed B.named
  have hlocks := B.notSynchronized
  subst hsz
  have hD := hD0.self (sz := s.heap.size)
  generalize hAe : va_A (sh_P cs adP kdP grP cvP brP hzP fmP dmP e1P e2P fkP pnP fnP) s.heap.size = A at hD hE ⊢
  have hA : ∀ q : Nat, s.heap.size ≤ q → A q := fun q h => by rw [← hAe]; exact Or.inr h
  have hS : va_S A s.heap s.heap [] := va_S.rf
  have hl := lv_entry ([.ref (adP 0), .int p1, .int p2]) (n := 3) (Nat.le_of_ble_eq_true rfl)
  rw [lg_entry_eq]
  generalize (lg_sl ([.ref (adP 0), .int p1, .int p2]) ++ List.replicate (3 - (lg_sl ([.ref (adP 0), .int p1, .int p2])).length) Slot.unset).toArray = ls at hl ⊢
  have hl : lv_has ls 3 [(0, .ref (adP 0)), (1, .int p1), (2, .int p2)] := hl
  refine lv_aload_n hx hb dX1_allowsHazard_0 rfl (lv_at hl 0 rfl) ?_
  refine lv_iload_n hx hb dX1_allowsHazard_1 rfl (lv_at hl 1 rfl) ?_
  have hFc := va_free (wc := (sh_P cs adP kdP grP cvP brP hzP fmP dmP e1P e2P fkP pnP fnP)) hD hS hA [0, 1, 2, 3, 4, 5, 6, 7, 8, 9, 10] rfl
  refine va_calli (va_runV (As := [.int p1]) (rest := []) ⟨hx, hb, hml, hown, hts⟩ (met_X1_hasPart l D cs ev _ adP kdP grP cvP brP hzP fmP dmP e1P e2P fkP pnP fnP p1 _ h) (cwV 1 hts gX1_allowsHazard_X1_hasPart rfl rfl rfl (by decide +kernel) ⟨Nat.le_of_ble_eq_true rfl, Nat.le_of_ble_eq_true rfl⟩) (mPreV (va_recv hK hP (ci := 1) (q0 := 0) rfl rfl) hP hD hS hK hE hFc [0, 1, 2, 3, 4, 5, 6, 7, 8, 9, 10] (by decide) rfl) rfl rfl hl.1 rfl (lv_room (Nat.le_of_ble_eq_true rfl)) dX1_allowsHazard_2 ⟨Nat.le_of_ble_eq_true rfl, Nat.le_of_ble_eq_true rfl⟩) hS (fun q _ h => hFc q h) hFc (fun r_1 u t H1 locs ht hvm hw hB hz1 hk1 hS => ?_)
  have h := hw
  obtain ⟨hP1, hK1, hD1⟩ := hB
  rw [ht] at hP1
  obtain ⟨hP, hD⟩ := mJoin (wr := ([] : va_W)) (w1 := (sh_P cs adP kdP grP cvP brP hzP fmP dmP e1P e2P fkP pnP fnP)) (w' := (sh_P cs adP kdP grP cvP brP hzP fmP dmP e1P e2P fkP pnP fnP)) hP hD [0, 1, 2, 3, 4, 5, 6, 7, 8, 9, 10] [] rfl rfl (by decide) (by decide) hk1 hFc hP1 hD1 [0, 1, 2, 3, 4, 5, 6, 7, 8, 9, 10] (by decide) rfl
  generalize H1 = H at hP hS ⊢
  refine lv_if_eq (tgt := 34) hx hb dX1_allowsHazard_5 (by decide) (fun c_2 => ?_) (fun c_2 => ?_)
  · have h := h.1 c_2
    refine lv_iconst (v := 0) hx hb dX1_allowsHazard_34 (by decide) ?_
    exact W.zret (v := 0) hx hb hr (by decide) (fun t ht hW => ⟨⟨0, (), rfl, h, by rw [ht]; exact hP, va_K.moved hW.alike hK, hD⟩, hS.F ht⟩) hS.2.2 dX1_allowsHazard_35
  · have h := h.2 c_2
    refine lv_iload_n hx hb dX1_allowsHazard_8 rfl (lv_at hl 2 rfl) ?_
    refine lv_bipush (v := 8) hx hb dX1_allowsHazard_9 (by decide) ?_
    have hFc := va_free (wc := ([] : va_W)) hD hS hA [] rfl
    refine va_calli (va_runSN (As := [.int p2, .int 8]) (rest := []) ⟨hx, hb, hml, hown, hts⟩ (met_X5_isBelow l D cs ev _ p2 8 _ h) ⟨va_cnB 2 hts gX1_allowsHazard_X5_isBelow_n50 rfl rfl rfl hE.1.1 (hts (.initialized RX5) (by decide +kernel)) (by decide +kernel) ⟨Nat.le_of_ble_eq_true rfl, Nat.le_of_ble_eq_true rfl⟩, hts (.static yX5_isBelow) (by decide +kernel), trivial⟩ (mPreS hP hD hS hK hE hFc [] (by decide) rfl) rfl rfl hl.1 rfl (lv_room (Nat.le_of_ble_eq_true rfl)) dX1_allowsHazard_11 ⟨Nat.le_of_ble_eq_true rfl, Nat.le_of_ble_eq_true rfl⟩) hS (fun q _ h => hFc q h) hFc (fun r_3 u t H1 locs ht hvm hw hB hz1 hk1 hS => ?_)
    have h := hw
    obtain ⟨hP1, hK1, hD1⟩ := hB
    rw [ht] at hP1
    obtain ⟨hP, hD⟩ := mJoin (wr := (sh_P cs adP kdP grP cvP brP hzP fmP dmP e1P e2P fkP pnP fnP)) (w1 := ([] : va_W)) (w' := (sh_P cs adP kdP grP cvP brP hzP fmP dmP e1P e2P fkP pnP fnP)) hP hD [] [0, 1, 2, 3, 4, 5, 6, 7, 8, 9, 10] rfl rfl (by decide) (by decide) hk1 hFc hP1 hD1 [0, 1, 2, 3, 4, 5, 6, 7, 8, 9, 10] (by decide) rfl
    generalize H1 = H at hP hS ⊢
    refine lv_if_eq (tgt := 34) hx hb dX1_allowsHazard_14 (by decide) (fun c_4 => ?_) (fun c_4 => ?_)
    · have h := h.1 c_4
      refine lv_iconst (v := 0) hx hb dX1_allowsHazard_34 (by decide) ?_
      exact W.zret (v := 0) hx hb hr (by decide) (fun t ht hW => ⟨⟨0, (), rfl, h, by rw [ht]; exact hP, va_K.moved hW.alike hK, hD⟩, hS.F ht⟩) hS.2.2 dX1_allowsHazard_35
    · have h := h.2 c_4
      refine lv_aload_n hx hb dX1_allowsHazard_17 rfl (lv_at hl 0 rfl) ?_
      refine va_get (D := D) (ci := 1) (v := .ref (adP 5)) (C := RX1) (T := TX1) (N := 12) hx hb hts (by decide +kernel) hown hK hP 0 rfl rfl 4 (by decide) (hts (.fieldLink RX1 25 "PartGraphs$Product" "hazards" "[I") (by decide +kernel)) (fun _ h9 => h9) rfl dX1_allowsHazard_18 ?_
      refine lv_iload_n hx hb dX1_allowsHazard_21 rfl (lv_at hl 1 rfl) ?_
      have hin := h.1
      have h := h.2
      refine va_iald (D := D) (cl := vwCl) hx hb hK hP 5 0 rfl rfl hin dX1_allowsHazard_22 ?_
      refine lv_iload_n hx hb dX1_allowsHazard_23 rfl (lv_at hl 2 rfl) ?_
      have hFc := va_free (wc := ([] : va_W)) hD hS hA [] rfl
      refine va_calli (va_runSN (As := [.int (hzP p1.toNatClampNeg), .int p2]) (rest := []) ⟨hx, hb, hml, hown, hts⟩ (met_X5_contains l D cs ev _ (hzP p1.toNatClampNeg) p2 _ h) ⟨va_cnB 2 hts gX1_allowsHazard_X5_contains_n71 rfl rfl rfl hE.1.2.1 (hts (.initialized RX5) (by decide +kernel)) (by decide +kernel) ⟨Nat.le_of_ble_eq_true rfl, Nat.le_of_ble_eq_true rfl⟩, hts (.static yX5_contains) (by decide +kernel), trivial⟩ (mPreS hP hD hS hK hE hFc [] (by decide) rfl) rfl rfl hl.1 rfl (lv_room (Nat.le_of_ble_eq_true rfl)) dX1_allowsHazard_24 ⟨Nat.le_of_ble_eq_true rfl, Nat.le_of_ble_eq_true rfl⟩) hS (fun q _ h => hFc q h) hFc (fun r_5 u t H1 locs ht hvm hw hB hz1 hk1 hS => ?_)
      have h := hw
      obtain ⟨hP1, hK1, hD1⟩ := hB
      rw [ht] at hP1
      obtain ⟨hP, hD⟩ := mJoin (wr := (sh_P cs adP kdP grP cvP brP hzP fmP dmP e1P e2P fkP pnP fnP)) (w1 := ([] : va_W)) (w' := (sh_P cs adP kdP grP cvP brP hzP fmP dmP e1P e2P fkP pnP fnP)) hP hD [] [0, 1, 2, 3, 4, 5, 6, 7, 8, 9, 10] rfl rfl (by decide) (by decide) hk1 hFc hP1 hD1 [0, 1, 2, 3, 4, 5, 6, 7, 8, 9, 10] (by decide) rfl
      generalize H1 = H at hP hS ⊢
      refine lv_if_ne (tgt := 34) hx hb dX1_allowsHazard_27 (by decide) (fun c_6 => ?_) (fun c_6 => ?_)
      · have h := h.2 c_6
        refine lv_iconst (v := 0) hx hb dX1_allowsHazard_34 (by decide) ?_
        exact W.zret (v := 0) hx hb hr (by decide) (fun t ht hW => ⟨⟨0, (), rfl, h, by rw [ht]; exact hP, va_K.moved hW.alike hK, hD⟩, hS.F ht⟩) hS.2.2 dX1_allowsHazard_35
      · have h := h.1 c_6
        refine lv_iconst (v := 1) hx hb dX1_allowsHazard_30 (by decide) ?_
        refine lv_goto (tgt := 35) hx hb dX1_allowsHazard_31 (by decide) ?_
        exact W.zret (v := 1) hx hb hr (by decide) (fun t ht hW => ⟨⟨1, (), rfl, h, by rw [ht]; exact hP, va_K.moved hW.alike hK, hD⟩, hS.F ht⟩) hS.2.2 dX1_allowsHazard_35
def wp_X1_addHazard (hzP : Nat → Int32) (pnP : Int32) (p1 : Int32) (p2 : Int32) (post : Int32 → ((Nat → Int32)) → Prop) : Prop :=
    wp_X1_allowsHazard hzP pnP p1 p2 (fun r_1 _ => ((r_1 = 0 → post 0 hzP) ∧ (¬ r_1 = 0 → (vp_in p1 10 ∧ (vp_in p1 10 ∧ post 1 (upd hzP p1.toNatClampNeg ((hzP p1.toNatClampNeg) ||| (1 <<< (p2 &&& 31)))))))))
set_option maxHeartbeats 4000000 in
set_option maxRecDepth 100000 in
theorem met_X1_addHazard (l : Launch) (D : va_G) (cs : Nat → ClassId) (ev : Nat → Nat → Nat) (sz0 : Nat) (adP : Nat → Nat) (kdP : Nat → Int32) (grP : Nat → Int64) (cvP : Nat → Int32) (brP : Nat → Int32) (hzP : Nat → Int32) (fmP : Nat → Int32) (dmP : Nat → Int32) (e1P : Nat → Int32) (e2P : Nat → Int32) (fkP : Nat → Int32) (pnP : Int32) (fnP : Int32) (p1 : Int32) (p2 : Int32) (post : Int32 → ((Nat → Int32)) → Prop) (h : wp_X1_addHazard hzP pnP p1 p2 post) : Met l yX1_addHazard wsX1_addHazard ({ frames := 2, cells := 0, slots := 0, locals := 43 }) (va_Pc [.ref (adP 0), .int p1, .int p2] (mPre D cs ev (sh_P cs adP kdP grP cvP brP hzP fmP dmP e1P e2P fkP pnP fnP) sz0)) (va_Qi post (fun hzP' t => mAt D cs (va_A (sh_P cs adP kdP grP cvP brP hzP fmP dmP e1P e2P fkP pnP fnP) sz0) (sh_P cs adP kdP grP cvP brP hzP' fmP dmP e1P e2P fkP pnP fnP) t) (va_A (sh_P cs adP kdP grP cvP brP hzP fmP dmP e1P e2P fkP pnP fnP) sz0)) 0 0 (va_A (sh_P cs adP kdP grP cvP brP hzP fmP dmP e1P e2P fkP pnP fnP) sz0) := by
  refine Met.ofW (cc := cX1_addHazard) (maxL := 3) (ret := (some .boolean)) (by decide) rfl ?_
  intro p e s m args below meth c s₁ B hml hv
  obtain ⟨rfl, hsz, hP, hK, hD0, hE⟩ := hv
  have hx := B.exec
  have hb := B.bytes
  have hr := B.returns
  have hts := atoms_spec (ws := wsX1_addHazard) B.pre
  have hown : s.vm.findClass RX1 = some m.cls := findClass_of_methodNamed B.named
  have hlocks := B.notSynchronized
  subst hsz
  have hD := hD0.self (sz := s.heap.size)
  generalize hAe : va_A (sh_P cs adP kdP grP cvP brP hzP fmP dmP e1P e2P fkP pnP fnP) s.heap.size = A at hD hE ⊢
  have hA : ∀ q : Nat, s.heap.size ≤ q → A q := fun q h => by rw [← hAe]; exact Or.inr h
  have hS : va_S A s.heap s.heap [] := va_S.rf
  have hl := lv_entry ([.ref (adP 0), .int p1, .int p2]) (n := 3) (Nat.le_of_ble_eq_true rfl)
  rw [lg_entry_eq]
  generalize (lg_sl ([.ref (adP 0), .int p1, .int p2]) ++ List.replicate (3 - (lg_sl ([.ref (adP 0), .int p1, .int p2])).length) Slot.unset).toArray = ls at hl ⊢
  have hl : lv_has ls 3 [(0, .ref (adP 0)), (1, .int p1), (2, .int p2)] := hl
  refine lv_aload_n hx hb dX1_addHazard_0 rfl (lv_at hl 0 rfl) ?_
  refine lv_iload_n hx hb dX1_addHazard_1 rfl (lv_at hl 1 rfl) ?_
  refine lv_iload_n hx hb dX1_addHazard_2 rfl (lv_at hl 2 rfl) ?_
  have hFc := va_free (wc := (sh_P cs adP kdP grP cvP brP hzP fmP dmP e1P e2P fkP pnP fnP)) hD hS hA [0, 1, 2, 3, 4, 5, 6, 7, 8, 9, 10] rfl
  refine va_calli (va_runV (As := [.int p1, .int p2]) (rest := []) ⟨hx, hb, hml, hown, hts⟩ (met_X1_allowsHazard l D cs ev _ adP kdP grP cvP brP hzP fmP dmP e1P e2P fkP pnP fnP p1 p2 _ h) (cwV 2 hts gX1_addHazard_X1_allowsHazard rfl rfl rfl (by decide +kernel) ⟨Nat.le_of_ble_eq_true rfl, Nat.le_of_ble_eq_true rfl⟩) (mPreV (va_recv hK hP (ci := 1) (q0 := 0) rfl rfl) hP hD hS hK hE hFc [0, 1, 2, 3, 4, 5, 6, 7, 8, 9, 10] (by decide) rfl) rfl rfl hl.1 rfl (lv_room (Nat.le_of_ble_eq_true rfl)) dX1_addHazard_3 ⟨Nat.le_of_ble_eq_true rfl, Nat.le_of_ble_eq_true rfl⟩) hS (fun q _ h => hFc q h) hFc (fun r_1 u t H1 locs ht hvm hw hB hz1 hk1 hS => ?_)
  have h := hw
  obtain ⟨hP1, hK1, hD1⟩ := hB
  rw [ht] at hP1
  obtain ⟨hP, hD⟩ := mJoin (wr := ([] : va_W)) (w1 := (sh_P cs adP kdP grP cvP brP hzP fmP dmP e1P e2P fkP pnP fnP)) (w' := (sh_P cs adP kdP grP cvP brP hzP fmP dmP e1P e2P fkP pnP fnP)) hP hD [0, 1, 2, 3, 4, 5, 6, 7, 8, 9, 10] [] rfl rfl (by decide) (by decide) hk1 hFc hP1 hD1 [0, 1, 2, 3, 4, 5, 6, 7, 8, 9, 10] (by decide) rfl
  generalize H1 = H at hP hS ⊢
  refine lv_if_ne (tgt := 11) hx hb dX1_addHazard_6 (by decide) (fun c_2 => ?_) (fun c_2 => ?_)
  · have h := h.2 c_2
    refine lv_aload_n hx hb dX1_addHazard_11 rfl (lv_at hl 0 rfl) ?_
    refine va_get (D := D) (ci := 1) (v := .ref (adP 5)) (C := RX1) (T := TX1) (N := 12) hx hb hts (by decide +kernel) hown hK hP 0 rfl rfl 4 (by decide) (hts (.fieldLink RX1 25 "PartGraphs$Product" "hazards" "[I") (by decide +kernel)) (fun _ h9 => h9) rfl dX1_addHazard_12 ?_
    refine lv_iload_n hx hb dX1_addHazard_15 rfl (lv_at hl 1 rfl) ?_
    refine lv_dup2_11 hx hb dX1_addHazard_16 rfl rfl ?_
    have hin := h.1
    have h := h.2
    refine va_iald (D := D) (cl := vwCl) hx hb hK hP 5 0 rfl rfl hin dX1_addHazard_17 ?_
    refine lv_iconst (v := 1) hx hb dX1_addHazard_18 (by decide) ?_
    refine lv_iload_n hx hb dX1_addHazard_19 rfl (lv_at hl 2 rfl) ?_
    refine lv_ishl hx hb dX1_addHazard_20 ?_
    refine lv_ior hx hb dX1_addHazard_21 ?_
    have hin := h.1
    have h := h.2
    refine va_iast (D := D) (cl := vwCl) hx hb hK hP hD hS 5 0 rfl rfl hin dX1_addHazard_22 (fun H locs hP hD hS => ?_)
    have hP : va_P D vwCl (sh_P cs adP kdP grP cvP brP (upd hzP p1.toNatClampNeg ((hzP p1.toNatClampNeg) ||| (1 <<< (p2 &&& 31)))) fmP dmP e1P e2P fkP pnP fnP) H := hP
    have hD : va_D A (sh_P cs adP kdP grP cvP brP (upd hzP p1.toNatClampNeg ((hzP p1.toNatClampNeg) ||| (1 <<< (p2 &&& 31)))) fmP dmP e1P e2P fkP pnP fnP) := hD
    refine lv_iconst (v := 1) hx hb dX1_addHazard_23 (by decide) ?_
    exact W.zret (v := 1) hx hb hr (by decide) (fun t ht hW => ⟨⟨1, (upd hzP p1.toNatClampNeg ((hzP p1.toNatClampNeg) ||| (1 <<< (p2 &&& 31)))), rfl, h, by rw [ht]; exact hP, va_K.moved hW.alike hK, hD⟩, hS.F ht⟩) hS.2.2 dX1_addHazard_24
  · have h := h.1 c_2
    refine lv_iconst (v := 0) hx hb dX1_addHazard_9 (by decide) ?_
    exact W.zret (v := 0) hx hb hr (by decide) (fun t ht hW => ⟨⟨0, hzP, rfl, h, by rw [ht]; exact hP, va_K.moved hW.alike hK, hD⟩, hS.F ht⟩) hS.2.2 dX1_addHazard_10
def wp_X1_allowsOption (fmP : Nat → Int32) (pnP : Int32) (p1 : Int32) (p2 : Int32) (post : Int32 → Unit → Prop) : Prop :=
    wp_X1_hasPart pnP p1 (fun r_1 _ => ((r_1 = 0 → post 0 ()) ∧ (¬ r_1 = 0 → wp_X5_isBelow p2 4 (fun r_3 _ => ((r_3 = 0 → post 0 ()) ∧ (¬ r_3 = 0 → (vp_in p1 10 ∧ (((fmP p1.toNatClampNeg) = p2 → post 0 ()) ∧ (¬ (fmP p1.toNatClampNeg) = p2 → post 1 ())))))))))
set_option maxHeartbeats 4000000 in
set_option maxRecDepth 100000 in
theorem met_X1_allowsOption (l : Launch) (D : va_G) (cs : Nat → ClassId) (ev : Nat → Nat → Nat) (sz0 : Nat) (adP : Nat → Nat) (kdP : Nat → Int32) (grP : Nat → Int64) (cvP : Nat → Int32) (brP : Nat → Int32) (hzP : Nat → Int32) (fmP : Nat → Int32) (dmP : Nat → Int32) (e1P : Nat → Int32) (e2P : Nat → Int32) (fkP : Nat → Int32) (pnP : Int32) (fnP : Int32) (p1 : Int32) (p2 : Int32) (post : Int32 → Unit → Prop) (h : wp_X1_allowsOption fmP pnP p1 p2 post) : Met l yX1_allowsOption wsX1_allowsOption ({ frames := 1, cells := 0, slots := 0, locals := 21 }) (va_Pc [.ref (adP 0), .int p1, .int p2] (mPre D cs ev (sh_P cs adP kdP grP cvP brP hzP fmP dmP e1P e2P fkP pnP fnP) sz0)) (va_Qi post (fun _ t => mAt D cs (va_A (sh_P cs adP kdP grP cvP brP hzP fmP dmP e1P e2P fkP pnP fnP) sz0) (sh_P cs adP kdP grP cvP brP hzP fmP dmP e1P e2P fkP pnP fnP) t) (va_A (sh_P cs adP kdP grP cvP brP hzP fmP dmP e1P e2P fkP pnP fnP) sz0)) 0 0 (va_A (sh_P cs adP kdP grP cvP brP hzP fmP dmP e1P e2P fkP pnP fnP) sz0) := by
  refine Met.ofW (cc := cX1_allowsOption) (maxL := 3) (ret := (some .boolean)) (by decide) rfl ?_
  intro p e s m args below meth c s₁ B hml hv
  obtain ⟨rfl, hsz, hP, hK, hD0, hE⟩ := hv
  have hx := B.exec
  have hb := B.bytes
  have hr := B.returns
  have hts := atoms_spec (ws := wsX1_allowsOption) B.pre
  have hown : s.vm.findClass RX1 = some m.cls := findClass_of_methodNamed B.named
  have hlocks := B.notSynchronized
  subst hsz
  have hD := hD0.self (sz := s.heap.size)
  generalize hAe : va_A (sh_P cs adP kdP grP cvP brP hzP fmP dmP e1P e2P fkP pnP fnP) s.heap.size = A at hD hE ⊢
  have hA : ∀ q : Nat, s.heap.size ≤ q → A q := fun q h => by rw [← hAe]; exact Or.inr h
  have hS : va_S A s.heap s.heap [] := va_S.rf
  have hl := lv_entry ([.ref (adP 0), .int p1, .int p2]) (n := 3) (Nat.le_of_ble_eq_true rfl)
  rw [lg_entry_eq]
  generalize (lg_sl ([.ref (adP 0), .int p1, .int p2]) ++ List.replicate (3 - (lg_sl ([.ref (adP 0), .int p1, .int p2])).length) Slot.unset).toArray = ls at hl ⊢
  have hl : lv_has ls 3 [(0, .ref (adP 0)), (1, .int p1), (2, .int p2)] := hl
  refine lv_aload_n hx hb dX1_allowsOption_0 rfl (lv_at hl 0 rfl) ?_
  refine lv_iload_n hx hb dX1_allowsOption_1 rfl (lv_at hl 1 rfl) ?_
  have hFc := va_free (wc := (sh_P cs adP kdP grP cvP brP hzP fmP dmP e1P e2P fkP pnP fnP)) hD hS hA [0, 1, 2, 3, 4, 5, 6, 7, 8, 9, 10] rfl
  refine va_calli (va_runV (As := [.int p1]) (rest := []) ⟨hx, hb, hml, hown, hts⟩ (met_X1_hasPart l D cs ev _ adP kdP grP cvP brP hzP fmP dmP e1P e2P fkP pnP fnP p1 _ h) (cwV 1 hts gX1_allowsOption_X1_hasPart rfl rfl rfl (by decide +kernel) ⟨Nat.le_of_ble_eq_true rfl, Nat.le_of_ble_eq_true rfl⟩) (mPreV (va_recv hK hP (ci := 1) (q0 := 0) rfl rfl) hP hD hS hK hE hFc [0, 1, 2, 3, 4, 5, 6, 7, 8, 9, 10] (by decide) rfl) rfl rfl hl.1 rfl (lv_room (Nat.le_of_ble_eq_true rfl)) dX1_allowsOption_2 ⟨Nat.le_of_ble_eq_true rfl, Nat.le_of_ble_eq_true rfl⟩) hS (fun q _ h => hFc q h) hFc (fun r_1 u t H1 locs ht hvm hw hB hz1 hk1 hS => ?_)
  have h := hw
  obtain ⟨hP1, hK1, hD1⟩ := hB
  rw [ht] at hP1
  obtain ⟨hP, hD⟩ := mJoin (wr := ([] : va_W)) (w1 := (sh_P cs adP kdP grP cvP brP hzP fmP dmP e1P e2P fkP pnP fnP)) (w' := (sh_P cs adP kdP grP cvP brP hzP fmP dmP e1P e2P fkP pnP fnP)) hP hD [0, 1, 2, 3, 4, 5, 6, 7, 8, 9, 10] [] rfl rfl (by decide) (by decide) hk1 hFc hP1 hD1 [0, 1, 2, 3, 4, 5, 6, 7, 8, 9, 10] (by decide) rfl
  generalize H1 = H at hP hS ⊢
  refine lv_if_eq (tgt := 30) hx hb dX1_allowsOption_5 (by decide) (fun c_2 => ?_) (fun c_2 => ?_)
  · have h := h.1 c_2
    refine lv_iconst (v := 0) hx hb dX1_allowsOption_30 (by decide) ?_
    exact W.zret (v := 0) hx hb hr (by decide) (fun t ht hW => ⟨⟨0, (), rfl, h, by rw [ht]; exact hP, va_K.moved hW.alike hK, hD⟩, hS.F ht⟩) hS.2.2 dX1_allowsOption_31
  · have h := h.2 c_2
    refine lv_iload_n hx hb dX1_allowsOption_8 rfl (lv_at hl 2 rfl) ?_
    refine lv_iconst (v := 4) hx hb dX1_allowsOption_9 (by decide) ?_
    have hFc := va_free (wc := ([] : va_W)) hD hS hA [] rfl
    refine va_calli (va_runSN (As := [.int p2, .int 4]) (rest := []) ⟨hx, hb, hml, hown, hts⟩ (met_X5_isBelow l D cs ev _ p2 4 _ h) ⟨va_cnB 2 hts gX1_allowsOption_X5_isBelow_n50 rfl rfl rfl hE.1.1 (hts (.initialized RX5) (by decide +kernel)) (by decide +kernel) ⟨Nat.le_of_ble_eq_true rfl, Nat.le_of_ble_eq_true rfl⟩, hts (.static yX5_isBelow) (by decide +kernel), trivial⟩ (mPreS hP hD hS hK hE hFc [] (by decide) rfl) rfl rfl hl.1 rfl (lv_room (Nat.le_of_ble_eq_true rfl)) dX1_allowsOption_10 ⟨Nat.le_of_ble_eq_true rfl, Nat.le_of_ble_eq_true rfl⟩) hS (fun q _ h => hFc q h) hFc (fun r_3 u t H1 locs ht hvm hw hB hz1 hk1 hS => ?_)
    have h := hw
    obtain ⟨hP1, hK1, hD1⟩ := hB
    rw [ht] at hP1
    obtain ⟨hP, hD⟩ := mJoin (wr := (sh_P cs adP kdP grP cvP brP hzP fmP dmP e1P e2P fkP pnP fnP)) (w1 := ([] : va_W)) (w' := (sh_P cs adP kdP grP cvP brP hzP fmP dmP e1P e2P fkP pnP fnP)) hP hD [] [0, 1, 2, 3, 4, 5, 6, 7, 8, 9, 10] rfl rfl (by decide) (by decide) hk1 hFc hP1 hD1 [0, 1, 2, 3, 4, 5, 6, 7, 8, 9, 10] (by decide) rfl
    generalize H1 = H at hP hS ⊢
    refine lv_if_eq (tgt := 30) hx hb dX1_allowsOption_13 (by decide) (fun c_4 => ?_) (fun c_4 => ?_)
    · have h := h.1 c_4
      refine lv_iconst (v := 0) hx hb dX1_allowsOption_30 (by decide) ?_
      exact W.zret (v := 0) hx hb hr (by decide) (fun t ht hW => ⟨⟨0, (), rfl, h, by rw [ht]; exact hP, va_K.moved hW.alike hK, hD⟩, hS.F ht⟩) hS.2.2 dX1_allowsOption_31
    · have h := h.2 c_4
      refine lv_aload_n hx hb dX1_allowsOption_16 rfl (lv_at hl 0 rfl) ?_
      refine va_get (D := D) (ci := 1) (v := .ref (adP 6)) (C := RX1) (T := TX1) (N := 12) hx hb hts (by decide +kernel) hown hK hP 0 rfl rfl 5 (by decide) (hts (.fieldLink RX1 28 "PartGraphs$Product" "families" "[I") (by decide +kernel)) (fun _ h9 => h9) rfl dX1_allowsOption_17 ?_
      refine lv_iload_n hx hb dX1_allowsOption_20 rfl (lv_at hl 1 rfl) ?_
      have hin := h.1
      have h := h.2
      refine va_iald (D := D) (cl := vwCl) hx hb hK hP 6 0 rfl rfl hin dX1_allowsOption_21 ?_
      refine lv_iload_n hx hb dX1_allowsOption_22 rfl (lv_at hl 2 rfl) ?_
      refine lv_icmp_eq (tgt := 30) hx hb dX1_allowsOption_23 (by decide) (fun c_5 => ?_) (fun c_5 => ?_)
      · have h := h.1 c_5
        refine lv_iconst (v := 0) hx hb dX1_allowsOption_30 (by decide) ?_
        exact W.zret (v := 0) hx hb hr (by decide) (fun t ht hW => ⟨⟨0, (), rfl, h, by rw [ht]; exact hP, va_K.moved hW.alike hK, hD⟩, hS.F ht⟩) hS.2.2 dX1_allowsOption_31
      · have h := h.2 c_5
        refine lv_iconst (v := 1) hx hb dX1_allowsOption_26 (by decide) ?_
        refine lv_goto (tgt := 31) hx hb dX1_allowsOption_27 (by decide) ?_
        exact W.zret (v := 1) hx hb hr (by decide) (fun t ht hW => ⟨⟨1, (), rfl, h, by rw [ht]; exact hP, va_K.moved hW.alike hK, hD⟩, hS.F ht⟩) hS.2.2 dX1_allowsOption_31
def wp_X1_addOption (fmP : Nat → Int32) (pnP : Int32) (p1 : Int32) (p2 : Int32) (post : Int32 → ((Nat → Int32)) → Prop) : Prop :=
    wp_X1_allowsOption fmP pnP p1 p2 (fun r_1 _ => ((r_1 = 0 → post 0 fmP) ∧ (¬ r_1 = 0 → (vp_in p1 10 ∧ post 1 (upd fmP p1.toNatClampNeg p2)))))
set_option maxHeartbeats 4000000 in
set_option maxRecDepth 100000 in
theorem met_X1_addOption (l : Launch) (D : va_G) (cs : Nat → ClassId) (ev : Nat → Nat → Nat) (sz0 : Nat) (adP : Nat → Nat) (kdP : Nat → Int32) (grP : Nat → Int64) (cvP : Nat → Int32) (brP : Nat → Int32) (hzP : Nat → Int32) (fmP : Nat → Int32) (dmP : Nat → Int32) (e1P : Nat → Int32) (e2P : Nat → Int32) (fkP : Nat → Int32) (pnP : Int32) (fnP : Int32) (p1 : Int32) (p2 : Int32) (post : Int32 → ((Nat → Int32)) → Prop) (h : wp_X1_addOption fmP pnP p1 p2 post) : Met l yX1_addOption wsX1_addOption ({ frames := 2, cells := 0, slots := 0, locals := 43 }) (va_Pc [.ref (adP 0), .int p1, .int p2] (mPre D cs ev (sh_P cs adP kdP grP cvP brP hzP fmP dmP e1P e2P fkP pnP fnP) sz0)) (va_Qi post (fun fmP' t => mAt D cs (va_A (sh_P cs adP kdP grP cvP brP hzP fmP dmP e1P e2P fkP pnP fnP) sz0) (sh_P cs adP kdP grP cvP brP hzP fmP' dmP e1P e2P fkP pnP fnP) t) (va_A (sh_P cs adP kdP grP cvP brP hzP fmP dmP e1P e2P fkP pnP fnP) sz0)) 0 0 (va_A (sh_P cs adP kdP grP cvP brP hzP fmP dmP e1P e2P fkP pnP fnP) sz0) := by
  refine Met.ofW (cc := cX1_addOption) (maxL := 3) (ret := (some .boolean)) (by decide) rfl ?_
  intro p e s m args below meth c s₁ B hml hv
  obtain ⟨rfl, hsz, hP, hK, hD0, hE⟩ := hv
  have hx := B.exec
  have hb := B.bytes
  have hr := B.returns
  have hts := atoms_spec (ws := wsX1_addOption) B.pre
  have hown : s.vm.findClass RX1 = some m.cls := findClass_of_methodNamed B.named
  have hlocks := B.notSynchronized
  subst hsz
  have hD := hD0.self (sz := s.heap.size)
  generalize hAe : va_A (sh_P cs adP kdP grP cvP brP hzP fmP dmP e1P e2P fkP pnP fnP) s.heap.size = A at hD hE ⊢
  have hA : ∀ q : Nat, s.heap.size ≤ q → A q := fun q h => by rw [← hAe]; exact Or.inr h
  have hS : va_S A s.heap s.heap [] := va_S.rf
  have hl := lv_entry ([.ref (adP 0), .int p1, .int p2]) (n := 3) (Nat.le_of_ble_eq_true rfl)
  rw [lg_entry_eq]
  generalize (lg_sl ([.ref (adP 0), .int p1, .int p2]) ++ List.replicate (3 - (lg_sl ([.ref (adP 0), .int p1, .int p2])).length) Slot.unset).toArray = ls at hl ⊢
  have hl : lv_has ls 3 [(0, .ref (adP 0)), (1, .int p1), (2, .int p2)] := hl
  refine lv_aload_n hx hb dX1_addOption_0 rfl (lv_at hl 0 rfl) ?_
  refine lv_iload_n hx hb dX1_addOption_1 rfl (lv_at hl 1 rfl) ?_
  refine lv_iload_n hx hb dX1_addOption_2 rfl (lv_at hl 2 rfl) ?_
  have hFc := va_free (wc := (sh_P cs adP kdP grP cvP brP hzP fmP dmP e1P e2P fkP pnP fnP)) hD hS hA [0, 1, 2, 3, 4, 5, 6, 7, 8, 9, 10] rfl
  refine va_calli (va_runV (As := [.int p1, .int p2]) (rest := []) ⟨hx, hb, hml, hown, hts⟩ (met_X1_allowsOption l D cs ev _ adP kdP grP cvP brP hzP fmP dmP e1P e2P fkP pnP fnP p1 p2 _ h) (cwV 2 hts gX1_addOption_X1_allowsOption rfl rfl rfl (by decide +kernel) ⟨Nat.le_of_ble_eq_true rfl, Nat.le_of_ble_eq_true rfl⟩) (mPreV (va_recv hK hP (ci := 1) (q0 := 0) rfl rfl) hP hD hS hK hE hFc [0, 1, 2, 3, 4, 5, 6, 7, 8, 9, 10] (by decide) rfl) rfl rfl hl.1 rfl (lv_room (Nat.le_of_ble_eq_true rfl)) dX1_addOption_3 ⟨Nat.le_of_ble_eq_true rfl, Nat.le_of_ble_eq_true rfl⟩) hS (fun q _ h => hFc q h) hFc (fun r_1 u t H1 locs ht hvm hw hB hz1 hk1 hS => ?_)
  have h := hw
  obtain ⟨hP1, hK1, hD1⟩ := hB
  rw [ht] at hP1
  obtain ⟨hP, hD⟩ := mJoin (wr := ([] : va_W)) (w1 := (sh_P cs adP kdP grP cvP brP hzP fmP dmP e1P e2P fkP pnP fnP)) (w' := (sh_P cs adP kdP grP cvP brP hzP fmP dmP e1P e2P fkP pnP fnP)) hP hD [0, 1, 2, 3, 4, 5, 6, 7, 8, 9, 10] [] rfl rfl (by decide) (by decide) hk1 hFc hP1 hD1 [0, 1, 2, 3, 4, 5, 6, 7, 8, 9, 10] (by decide) rfl
  generalize H1 = H at hP hS ⊢
  refine lv_if_ne (tgt := 11) hx hb dX1_addOption_6 (by decide) (fun c_2 => ?_) (fun c_2 => ?_)
  · have h := h.2 c_2
    refine lv_aload_n hx hb dX1_addOption_11 rfl (lv_at hl 0 rfl) ?_
    refine va_get (D := D) (ci := 1) (v := .ref (adP 6)) (C := RX1) (T := TX1) (N := 12) hx hb hts (by decide +kernel) hown hK hP 0 rfl rfl 5 (by decide) (hts (.fieldLink RX1 28 "PartGraphs$Product" "families" "[I") (by decide +kernel)) (fun _ h9 => h9) rfl dX1_addOption_12 ?_
    refine lv_iload_n hx hb dX1_addOption_15 rfl (lv_at hl 1 rfl) ?_
    refine lv_iload_n hx hb dX1_addOption_16 rfl (lv_at hl 2 rfl) ?_
    have hin := h.1
    have h := h.2
    refine va_iast (D := D) (cl := vwCl) hx hb hK hP hD hS 6 0 rfl rfl hin dX1_addOption_17 (fun H locs hP hD hS => ?_)
    have hP : va_P D vwCl (sh_P cs adP kdP grP cvP brP hzP (upd fmP p1.toNatClampNeg p2) dmP e1P e2P fkP pnP fnP) H := hP
    have hD : va_D A (sh_P cs adP kdP grP cvP brP hzP (upd fmP p1.toNatClampNeg p2) dmP e1P e2P fkP pnP fnP) := hD
    refine lv_iconst (v := 1) hx hb dX1_addOption_18 (by decide) ?_
    exact W.zret (v := 1) hx hb hr (by decide) (fun t ht hW => ⟨⟨1, (upd fmP p1.toNatClampNeg p2), rfl, h, by rw [ht]; exact hP, va_K.moved hW.alike hK, hD⟩, hS.F ht⟩) hS.2.2 dX1_addOption_19
  · have h := h.1 c_2
    refine lv_iconst (v := 0) hx hb dX1_addOption_9 (by decide) ?_
    exact W.zret (v := 0) hx hb hr (by decide) (fun t ht hW => ⟨⟨0, fmP, rfl, h, by rw [ht]; exact hP, va_K.moved hW.alike hK, hD⟩, hS.F ht⟩) hS.2.2 dX1_addOption_10
def wp_X1_allowsDamage (pnP : Int32) (p1 : Int32) (p2 : Int32) (post : Int32 → Unit → Prop) : Prop :=
    wp_X1_hasPart pnP p1 (fun r_1 _ => ((r_1 = 0 → post 0 ()) ∧ (¬ r_1 = 0 → wp_X5_isBelow p2 4 (fun r_3 _ => ((r_3 = 0 → post 0 ()) ∧ (¬ r_3 = 0 → post 1 ()))))))
set_option maxHeartbeats 4000000 in
set_option maxRecDepth 100000 in
theorem met_X1_allowsDamage (l : Launch) (D : va_G) (cs : Nat → ClassId) (ev : Nat → Nat → Nat) (sz0 : Nat) (adP : Nat → Nat) (kdP : Nat → Int32) (grP : Nat → Int64) (cvP : Nat → Int32) (brP : Nat → Int32) (hzP : Nat → Int32) (fmP : Nat → Int32) (dmP : Nat → Int32) (e1P : Nat → Int32) (e2P : Nat → Int32) (fkP : Nat → Int32) (pnP : Int32) (fnP : Int32) (p1 : Int32) (p2 : Int32) (post : Int32 → Unit → Prop) (h : wp_X1_allowsDamage pnP p1 p2 post) : Met l yX1_allowsDamage wsX1_allowsDamage ({ frames := 1, cells := 0, slots := 0, locals := 21 }) (va_Pc [.ref (adP 0), .int p1, .int p2] (mPre D cs ev (sh_P cs adP kdP grP cvP brP hzP fmP dmP e1P e2P fkP pnP fnP) sz0)) (va_Qi post (fun _ t => mAt D cs (va_A (sh_P cs adP kdP grP cvP brP hzP fmP dmP e1P e2P fkP pnP fnP) sz0) (sh_P cs adP kdP grP cvP brP hzP fmP dmP e1P e2P fkP pnP fnP) t) (va_A (sh_P cs adP kdP grP cvP brP hzP fmP dmP e1P e2P fkP pnP fnP) sz0)) 0 0 (va_A (sh_P cs adP kdP grP cvP brP hzP fmP dmP e1P e2P fkP pnP fnP) sz0) := by
  refine Met.ofW (cc := cX1_allowsDamage) (maxL := 3) (ret := (some .boolean)) (by decide) rfl ?_
  intro p e s m args below meth c s₁ B hml hv
  obtain ⟨rfl, hsz, hP, hK, hD0, hE⟩ := hv
  have hx := B.exec
  have hb := B.bytes
  have hr := B.returns
  have hts := atoms_spec (ws := wsX1_allowsDamage) B.pre
  have hown : s.vm.findClass RX1 = some m.cls := findClass_of_methodNamed B.named
  have hlocks := B.notSynchronized
  subst hsz
  have hD := hD0.self (sz := s.heap.size)
  generalize hAe : va_A (sh_P cs adP kdP grP cvP brP hzP fmP dmP e1P e2P fkP pnP fnP) s.heap.size = A at hD hE ⊢
  have hA : ∀ q : Nat, s.heap.size ≤ q → A q := fun q h => by rw [← hAe]; exact Or.inr h
  have hS : va_S A s.heap s.heap [] := va_S.rf
  have hl := lv_entry ([.ref (adP 0), .int p1, .int p2]) (n := 3) (Nat.le_of_ble_eq_true rfl)
  rw [lg_entry_eq]
  generalize (lg_sl ([.ref (adP 0), .int p1, .int p2]) ++ List.replicate (3 - (lg_sl ([.ref (adP 0), .int p1, .int p2])).length) Slot.unset).toArray = ls at hl ⊢
  have hl : lv_has ls 3 [(0, .ref (adP 0)), (1, .int p1), (2, .int p2)] := hl
  refine lv_aload_n hx hb dX1_allowsDamage_0 rfl (lv_at hl 0 rfl) ?_
  refine lv_iload_n hx hb dX1_allowsDamage_1 rfl (lv_at hl 1 rfl) ?_
  have hFc := va_free (wc := (sh_P cs adP kdP grP cvP brP hzP fmP dmP e1P e2P fkP pnP fnP)) hD hS hA [0, 1, 2, 3, 4, 5, 6, 7, 8, 9, 10] rfl
  refine va_calli (va_runV (As := [.int p1]) (rest := []) ⟨hx, hb, hml, hown, hts⟩ (met_X1_hasPart l D cs ev _ adP kdP grP cvP brP hzP fmP dmP e1P e2P fkP pnP fnP p1 _ h) (cwV 1 hts gX1_allowsDamage_X1_hasPart rfl rfl rfl (by decide +kernel) ⟨Nat.le_of_ble_eq_true rfl, Nat.le_of_ble_eq_true rfl⟩) (mPreV (va_recv hK hP (ci := 1) (q0 := 0) rfl rfl) hP hD hS hK hE hFc [0, 1, 2, 3, 4, 5, 6, 7, 8, 9, 10] (by decide) rfl) rfl rfl hl.1 rfl (lv_room (Nat.le_of_ble_eq_true rfl)) dX1_allowsDamage_2 ⟨Nat.le_of_ble_eq_true rfl, Nat.le_of_ble_eq_true rfl⟩) hS (fun q _ h => hFc q h) hFc (fun r_1 u t H1 locs ht hvm hw hB hz1 hk1 hS => ?_)
  have h := hw
  obtain ⟨hP1, hK1, hD1⟩ := hB
  rw [ht] at hP1
  obtain ⟨hP, hD⟩ := mJoin (wr := ([] : va_W)) (w1 := (sh_P cs adP kdP grP cvP brP hzP fmP dmP e1P e2P fkP pnP fnP)) (w' := (sh_P cs adP kdP grP cvP brP hzP fmP dmP e1P e2P fkP pnP fnP)) hP hD [0, 1, 2, 3, 4, 5, 6, 7, 8, 9, 10] [] rfl rfl (by decide) (by decide) hk1 hFc hP1 hD1 [0, 1, 2, 3, 4, 5, 6, 7, 8, 9, 10] (by decide) rfl
  generalize H1 = H at hP hS ⊢
  refine lv_if_eq (tgt := 20) hx hb dX1_allowsDamage_5 (by decide) (fun c_2 => ?_) (fun c_2 => ?_)
  · have h := h.1 c_2
    refine lv_iconst (v := 0) hx hb dX1_allowsDamage_20 (by decide) ?_
    exact W.zret (v := 0) hx hb hr (by decide) (fun t ht hW => ⟨⟨0, (), rfl, h, by rw [ht]; exact hP, va_K.moved hW.alike hK, hD⟩, hS.F ht⟩) hS.2.2 dX1_allowsDamage_21
  · have h := h.2 c_2
    refine lv_iload_n hx hb dX1_allowsDamage_8 rfl (lv_at hl 2 rfl) ?_
    refine lv_iconst (v := 4) hx hb dX1_allowsDamage_9 (by decide) ?_
    have hFc := va_free (wc := ([] : va_W)) hD hS hA [] rfl
    refine va_calli (va_runSN (As := [.int p2, .int 4]) (rest := []) ⟨hx, hb, hml, hown, hts⟩ (met_X5_isBelow l D cs ev _ p2 4 _ h) ⟨va_cnB 2 hts gX1_allowsDamage_X5_isBelow_n50 rfl rfl rfl hE.1.1 (hts (.initialized RX5) (by decide +kernel)) (by decide +kernel) ⟨Nat.le_of_ble_eq_true rfl, Nat.le_of_ble_eq_true rfl⟩, hts (.static yX5_isBelow) (by decide +kernel), trivial⟩ (mPreS hP hD hS hK hE hFc [] (by decide) rfl) rfl rfl hl.1 rfl (lv_room (Nat.le_of_ble_eq_true rfl)) dX1_allowsDamage_10 ⟨Nat.le_of_ble_eq_true rfl, Nat.le_of_ble_eq_true rfl⟩) hS (fun q _ h => hFc q h) hFc (fun r_3 u t H1 locs ht hvm hw hB hz1 hk1 hS => ?_)
    have h := hw
    obtain ⟨hP1, hK1, hD1⟩ := hB
    rw [ht] at hP1
    obtain ⟨hP, hD⟩ := mJoin (wr := (sh_P cs adP kdP grP cvP brP hzP fmP dmP e1P e2P fkP pnP fnP)) (w1 := ([] : va_W)) (w' := (sh_P cs adP kdP grP cvP brP hzP fmP dmP e1P e2P fkP pnP fnP)) hP hD [] [0, 1, 2, 3, 4, 5, 6, 7, 8, 9, 10] rfl rfl (by decide) (by decide) hk1 hFc hP1 hD1 [0, 1, 2, 3, 4, 5, 6, 7, 8, 9, 10] (by decide) rfl
    generalize H1 = H at hP hS ⊢
    refine lv_if_eq (tgt := 20) hx hb dX1_allowsDamage_13 (by decide) (fun c_4 => ?_) (fun c_4 => ?_)
    · have h := h.1 c_4
      refine lv_iconst (v := 0) hx hb dX1_allowsDamage_20 (by decide) ?_
      exact W.zret (v := 0) hx hb hr (by decide) (fun t ht hW => ⟨⟨0, (), rfl, h, by rw [ht]; exact hP, va_K.moved hW.alike hK, hD⟩, hS.F ht⟩) hS.2.2 dX1_allowsDamage_21
    · have h := h.2 c_4
      refine lv_iconst (v := 1) hx hb dX1_allowsDamage_16 (by decide) ?_
      refine lv_goto (tgt := 21) hx hb dX1_allowsDamage_17 (by decide) ?_
      exact W.zret (v := 1) hx hb hr (by decide) (fun t ht hW => ⟨⟨1, (), rfl, h, by rw [ht]; exact hP, va_K.moved hW.alike hK, hD⟩, hS.F ht⟩) hS.2.2 dX1_allowsDamage_21
def wp_X1_setDamage (dmP : Nat → Int32) (pnP : Int32) (p1 : Int32) (p2 : Int32) (post : Int32 → ((Nat → Int32)) → Prop) : Prop :=
    wp_X1_allowsDamage pnP p1 p2 (fun r_1 _ => ((r_1 = 0 → post (-1) dmP) ∧ (¬ r_1 = 0 → (vp_in p1 10 ∧ (vp_in p1 10 ∧ post (dmP p1.toNatClampNeg) (upd dmP p1.toNatClampNeg p2))))))
set_option maxHeartbeats 4000000 in
set_option maxRecDepth 100000 in
theorem met_X1_setDamage (l : Launch) (D : va_G) (cs : Nat → ClassId) (ev : Nat → Nat → Nat) (sz0 : Nat) (adP : Nat → Nat) (kdP : Nat → Int32) (grP : Nat → Int64) (cvP : Nat → Int32) (brP : Nat → Int32) (hzP : Nat → Int32) (fmP : Nat → Int32) (dmP : Nat → Int32) (e1P : Nat → Int32) (e2P : Nat → Int32) (fkP : Nat → Int32) (pnP : Int32) (fnP : Int32) (p1 : Int32) (p2 : Int32) (post : Int32 → ((Nat → Int32)) → Prop) (h : wp_X1_setDamage dmP pnP p1 p2 post) : Met l yX1_setDamage wsX1_setDamage ({ frames := 2, cells := 0, slots := 0, locals := 43 }) (va_Pc [.ref (adP 0), .int p1, .int p2] (mPre D cs ev (sh_P cs adP kdP grP cvP brP hzP fmP dmP e1P e2P fkP pnP fnP) sz0)) (va_Qi post (fun dmP' t => mAt D cs (va_A (sh_P cs adP kdP grP cvP brP hzP fmP dmP e1P e2P fkP pnP fnP) sz0) (sh_P cs adP kdP grP cvP brP hzP fmP dmP' e1P e2P fkP pnP fnP) t) (va_A (sh_P cs adP kdP grP cvP brP hzP fmP dmP e1P e2P fkP pnP fnP) sz0)) 0 0 (va_A (sh_P cs adP kdP grP cvP brP hzP fmP dmP e1P e2P fkP pnP fnP) sz0) := by
  refine Met.ofW (cc := cX1_setDamage) (maxL := 4) (ret := (some .int)) (by decide) rfl ?_
  intro p e s m args below meth c s₁ B hml hv
  obtain ⟨rfl, hsz, hP, hK, hD0, hE⟩ := hv
  have hx := B.exec
  have hb := B.bytes
  have hr := B.returns
  have hts := atoms_spec (ws := wsX1_setDamage) B.pre
  have hown : s.vm.findClass RX1 = some m.cls := findClass_of_methodNamed B.named
  have hlocks := B.notSynchronized
  subst hsz
  have hD := hD0.self (sz := s.heap.size)
  generalize hAe : va_A (sh_P cs adP kdP grP cvP brP hzP fmP dmP e1P e2P fkP pnP fnP) s.heap.size = A at hD hE ⊢
  have hA : ∀ q : Nat, s.heap.size ≤ q → A q := fun q h => by rw [← hAe]; exact Or.inr h
  have hS : va_S A s.heap s.heap [] := va_S.rf
  have hl := lv_entry ([.ref (adP 0), .int p1, .int p2]) (n := 4) (Nat.le_of_ble_eq_true rfl)
  rw [lg_entry_eq]
  generalize (lg_sl ([.ref (adP 0), .int p1, .int p2]) ++ List.replicate (4 - (lg_sl ([.ref (adP 0), .int p1, .int p2])).length) Slot.unset).toArray = ls at hl ⊢
  have hl : lv_has ls 4 [(0, .ref (adP 0)), (1, .int p1), (2, .int p2)] := hl
  refine lv_aload_n hx hb dX1_setDamage_0 rfl (lv_at hl 0 rfl) ?_
  refine lv_iload_n hx hb dX1_setDamage_1 rfl (lv_at hl 1 rfl) ?_
  refine lv_iload_n hx hb dX1_setDamage_2 rfl (lv_at hl 2 rfl) ?_
  have hFc := va_free (wc := (sh_P cs adP kdP grP cvP brP hzP fmP dmP e1P e2P fkP pnP fnP)) hD hS hA [0, 1, 2, 3, 4, 5, 6, 7, 8, 9, 10] rfl
  refine va_calli (va_runV (As := [.int p1, .int p2]) (rest := []) ⟨hx, hb, hml, hown, hts⟩ (met_X1_allowsDamage l D cs ev _ adP kdP grP cvP brP hzP fmP dmP e1P e2P fkP pnP fnP p1 p2 _ h) (cwV 2 hts gX1_setDamage_X1_allowsDamage rfl rfl rfl (by decide +kernel) ⟨Nat.le_of_ble_eq_true rfl, Nat.le_of_ble_eq_true rfl⟩) (mPreV (va_recv hK hP (ci := 1) (q0 := 0) rfl rfl) hP hD hS hK hE hFc [0, 1, 2, 3, 4, 5, 6, 7, 8, 9, 10] (by decide) rfl) rfl rfl hl.1 rfl (lv_room (Nat.le_of_ble_eq_true rfl)) dX1_setDamage_3 ⟨Nat.le_of_ble_eq_true rfl, Nat.le_of_ble_eq_true rfl⟩) hS (fun q _ h => hFc q h) hFc (fun r_1 u t H1 locs ht hvm hw hB hz1 hk1 hS => ?_)
  have h := hw
  obtain ⟨hP1, hK1, hD1⟩ := hB
  rw [ht] at hP1
  obtain ⟨hP, hD⟩ := mJoin (wr := ([] : va_W)) (w1 := (sh_P cs adP kdP grP cvP brP hzP fmP dmP e1P e2P fkP pnP fnP)) (w' := (sh_P cs adP kdP grP cvP brP hzP fmP dmP e1P e2P fkP pnP fnP)) hP hD [0, 1, 2, 3, 4, 5, 6, 7, 8, 9, 10] [] rfl rfl (by decide) (by decide) hk1 hFc hP1 hD1 [0, 1, 2, 3, 4, 5, 6, 7, 8, 9, 10] (by decide) rfl
  generalize H1 = H at hP hS ⊢
  refine lv_if_ne (tgt := 11) hx hb dX1_setDamage_6 (by decide) (fun c_2 => ?_) (fun c_2 => ?_)
  · have h := h.2 c_2
    refine lv_aload_n hx hb dX1_setDamage_11 rfl (lv_at hl 0 rfl) ?_
    refine va_get (D := D) (ci := 1) (v := .ref (adP 7)) (C := RX1) (T := TX1) (N := 12) hx hb hts (by decide +kernel) hown hK hP 0 rfl rfl 6 (by decide) (hts (.fieldLink RX1 31 "PartGraphs$Product" "damages" "[I") (by decide +kernel)) (fun _ h9 => h9) rfl dX1_setDamage_12 ?_
    refine lv_iload_n hx hb dX1_setDamage_15 rfl (lv_at hl 1 rfl) ?_
    have hin := h.1
    have h := h.2
    refine va_iald (D := D) (cl := vwCl) hx hb hK hP 7 0 rfl rfl hin dX1_setDamage_16 ?_
    refine lv_istore_n (lv' := [(3, .int (dmP p1.toNatClampNeg)), (0, .ref (adP 0)), (1, .int p1), (2, .int p2)]) hx hb dX1_setDamage_17 rfl hl (by decide) rfl (fun ls hl => ?_)
    refine lv_aload_n hx hb dX1_setDamage_18 rfl (lv_at hl 1 rfl) ?_
    refine va_get (D := D) (ci := 1) (v := .ref (adP 7)) (C := RX1) (T := TX1) (N := 12) hx hb hts (by decide +kernel) hown hK hP 0 rfl rfl 6 (by decide) (hts (.fieldLink RX1 31 "PartGraphs$Product" "damages" "[I") (by decide +kernel)) (fun _ h9 => h9) rfl dX1_setDamage_19 ?_
    refine lv_iload_n hx hb dX1_setDamage_22 rfl (lv_at hl 2 rfl) ?_
    refine lv_iload_n hx hb dX1_setDamage_23 rfl (lv_at hl 3 rfl) ?_
    have hin := h.1
    have h := h.2
    refine va_iast (D := D) (cl := vwCl) hx hb hK hP hD hS 7 0 rfl rfl hin dX1_setDamage_24 (fun H locs hP hD hS => ?_)
    have hP : va_P D vwCl (sh_P cs adP kdP grP cvP brP hzP fmP (upd dmP p1.toNatClampNeg p2) e1P e2P fkP pnP fnP) H := hP
    have hD : va_D A (sh_P cs adP kdP grP cvP brP hzP fmP (upd dmP p1.toNatClampNeg p2) e1P e2P fkP pnP fnP) := hD
    refine lv_iload_n hx hb dX1_setDamage_25 rfl (lv_at hl 0 rfl) ?_
    exact W.iret (v := dmP p1.toNatClampNeg) hx hb hr (fun t ht hW => ⟨⟨dmP p1.toNatClampNeg, (upd dmP p1.toNatClampNeg p2), rfl, h, by rw [ht]; exact hP, va_K.moved hW.alike hK, hD⟩, hS.F ht⟩) hS.2.2 dX1_setDamage_26
  · have h := h.1 c_2
    refine lv_iconst (v := (-1)) hx hb dX1_setDamage_9 (by decide) ?_
    exact W.iret (v := (-1)) hx hb hr (fun t ht hW => ⟨⟨(-1), dmP, rfl, h, by rw [ht]; exact hP, va_K.moved hW.alike hK, hD⟩, hS.F ht⟩) hS.2.2 dX1_setDamage_10
end
