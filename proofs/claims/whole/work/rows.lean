section
-- ===== PART A: goes FIRST, ahead of the names: the tables' words, and 'selects' of the private methods out of them =====
/-- a private method of a class that the tables say can be made, by its rows of tables_1 -/
def lw_okq (q : MethodName × Nat) : Prop := (q.1.cls ≠ "java/lang/invoke/MethodHandle" ∧ q.1.cls ≠ "java/lang/invoke/VarHandle") ∧ Cond.instantiable q.1.cls q.2 ∈ tables_1 ∧ Cond.privateMethod q.1 ∈ tables_1 ∧ Cond.instanceMethod q.1 ∈ tables_1
theorem lw_p0 : lw_okq (⟨"SectionGarden", "forgetLink", "()V"⟩, 8) := ⟨⟨by decide +kernel, by decide +kernel⟩, List.mem_of_getElem? (i := 28) (by decide +kernel), List.mem_of_getElem? (i := 212) (by decide +kernel), List.mem_of_getElem? (i := 213) (by decide +kernel)⟩
theorem lw_p1 : lw_okq (⟨"java/util/ArrayList", "add", "(Ljava/lang/Object;[Ljava/lang/Object;I)V"⟩, 3) := ⟨⟨by decide +kernel, by decide +kernel⟩, List.mem_of_getElem? (i := 42) (by decide +kernel), List.mem_of_getElem? (i := 340) (by decide +kernel), List.mem_of_getElem? (i := 341) (by decide +kernel)⟩
theorem lw_p2 : lw_okq (⟨"java/util/ArrayList", "grow", "()[Ljava/lang/Object;"⟩, 3) := ⟨⟨by decide +kernel, by decide +kernel⟩, List.mem_of_getElem? (i := 42) (by decide +kernel), List.mem_of_getElem? (i := 344) (by decide +kernel), List.mem_of_getElem? (i := 345) (by decide +kernel)⟩
theorem lw_p3 : lw_okq (⟨"java/util/ArrayList", "grow", "(I)[Ljava/lang/Object;"⟩, 3) := ⟨⟨by decide +kernel, by decide +kernel⟩, List.mem_of_getElem? (i := 42) (by decide +kernel), List.mem_of_getElem? (i := 348) (by decide +kernel), List.mem_of_getElem? (i := 349) (by decide +kernel)⟩
theorem lw_p4 : lw_okq (⟨"SectionGarden$Section", "seededBytes", "()[B"⟩, 20) := ⟨⟨by decide +kernel, by decide +kernel⟩, List.mem_of_getElem? (i := 232) (by decide +kernel), List.mem_of_getElem? (i := 429) (by decide +kernel), List.mem_of_getElem? (i := 430) (by decide +kernel)⟩
theorem lw_p5 : lw_okq (⟨"SectionGarden$Names", "findLost", "(Ljava/util/ArrayList;)V"⟩, 2) := ⟨⟨by decide +kernel, by decide +kernel⟩, List.mem_of_getElem? (i := 110) (by decide +kernel), List.mem_of_getElem? (i := 570) (by decide +kernel), List.mem_of_getElem? (i := 571) (by decide +kernel)⟩
theorem lw_p6 : lw_okq (⟨"SectionGarden$Names", "hasGroup", "(LSectionGarden$Section;)Z"⟩, 2) := ⟨⟨by decide +kernel, by decide +kernel⟩, List.mem_of_getElem? (i := 110) (by decide +kernel), List.mem_of_getElem? (i := 580) (by decide +kernel), List.mem_of_getElem? (i := 581) (by decide +kernel)⟩
theorem lw_p7 : lw_okq (⟨"SectionGarden$Names", "findDefinitions", "(Ljava/util/ArrayList;)I"⟩, 2) := ⟨⟨by decide +kernel, by decide +kernel⟩, List.mem_of_getElem? (i := 110) (by decide +kernel), List.mem_of_getElem? (i := 585) (by decide +kernel), List.mem_of_getElem? (i := 586) (by decide +kernel)⟩
theorem lw_p8 : lw_okq (⟨"SectionGarden$Names", "takeDefinition", "(LSectionGarden$Symbol;)Z"⟩, 2) := ⟨⟨by decide +kernel, by decide +kernel⟩, List.mem_of_getElem? (i := 110) (by decide +kernel), List.mem_of_getElem? (i := 593) (by decide +kernel), List.mem_of_getElem? (i := 594) (by decide +kernel)⟩
theorem lw_p9 : lw_okq (⟨"SectionGarden$Names", "findTargets", "(Ljava/util/ArrayList;)V"⟩, 2) := ⟨⟨by decide +kernel, by decide +kernel⟩, List.mem_of_getElem? (i := 110) (by decide +kernel), List.mem_of_getElem? (i := 601) (by decide +kernel), List.mem_of_getElem? (i := 602) (by decide +kernel)⟩
theorem lw_p10 : lw_okq (⟨"SectionGarden$Keeping", "begin", "(Ljava/util/ArrayList;)V"⟩, 1) := ⟨⟨by decide +kernel, by decide +kernel⟩, List.mem_of_getElem? (i := 125) (by decide +kernel), List.mem_of_getElem? (i := 617) (by decide +kernel), List.mem_of_getElem? (i := 618) (by decide +kernel)⟩
theorem lw_p11 : lw_okq (⟨"SectionGarden$Keeping", "admit", "(LSectionGarden$Section;LSectionGarden$Section;)V"⟩, 1) := ⟨⟨by decide +kernel, by decide +kernel⟩, List.mem_of_getElem? (i := 125) (by decide +kernel), List.mem_of_getElem? (i := 628) (by decide +kernel), List.mem_of_getElem? (i := 629) (by decide +kernel)⟩
theorem lw_p12 : lw_okq (⟨"SectionGarden$Keeping", "follow", "(LSectionGarden$Section;Ljava/util/ArrayList;)V"⟩, 1) := ⟨⟨by decide +kernel, by decide +kernel⟩, List.mem_of_getElem? (i := 125) (by decide +kernel), List.mem_of_getElem? (i := 638) (by decide +kernel), List.mem_of_getElem? (i := 639) (by decide +kernel)⟩
theorem lw_p13 : lw_okq (⟨"SectionGarden$Keeping", "admitSet", "(ILSectionGarden$Section;Ljava/util/ArrayList;)V"⟩, 1) := ⟨⟨by decide +kernel, by decide +kernel⟩, List.mem_of_getElem? (i := 125) (by decide +kernel), List.mem_of_getElem? (i := 644) (by decide +kernel), List.mem_of_getElem? (i := 645) (by decide +kernel)⟩
theorem lw_p14 : lw_okq (⟨"SectionGarden$Keeping", "admitGroup", "(LSectionGarden$Section;Ljava/util/ArrayList;)V"⟩, 1) := ⟨⟨by decide +kernel, by decide +kernel⟩, List.mem_of_getElem? (i := 125) (by decide +kernel), List.mem_of_getElem? (i := 648) (by decide +kernel), List.mem_of_getElem? (i := 649) (by decide +kernel)⟩
theorem lw_p15 : lw_okq (⟨"SectionGarden$Folding", "findWhatMayFold", "(Ljava/util/ArrayList;)V"⟩, 1) := ⟨⟨by decide +kernel, by decide +kernel⟩, List.mem_of_getElem? (i := 138) (by decide +kernel), List.mem_of_getElem? (i := 659) (by decide +kernel), List.mem_of_getElem? (i := 660) (by decide +kernel)⟩
def lw_privs_1 : List (MethodName × Nat) := [(⟨"SectionGarden", "forgetLink", "()V"⟩, 8), (⟨"java/util/ArrayList", "add", "(Ljava/lang/Object;[Ljava/lang/Object;I)V"⟩, 3), (⟨"java/util/ArrayList", "grow", "()[Ljava/lang/Object;"⟩, 3), (⟨"java/util/ArrayList", "grow", "(I)[Ljava/lang/Object;"⟩, 3), (⟨"SectionGarden$Section", "seededBytes", "()[B"⟩, 20), (⟨"SectionGarden$Names", "findLost", "(Ljava/util/ArrayList;)V"⟩, 2), (⟨"SectionGarden$Names", "hasGroup", "(LSectionGarden$Section;)Z"⟩, 2), (⟨"SectionGarden$Names", "findDefinitions", "(Ljava/util/ArrayList;)I"⟩, 2), (⟨"SectionGarden$Names", "takeDefinition", "(LSectionGarden$Symbol;)Z"⟩, 2), (⟨"SectionGarden$Names", "findTargets", "(Ljava/util/ArrayList;)V"⟩, 2), (⟨"SectionGarden$Keeping", "begin", "(Ljava/util/ArrayList;)V"⟩, 1), (⟨"SectionGarden$Keeping", "admit", "(LSectionGarden$Section;LSectionGarden$Section;)V"⟩, 1), (⟨"SectionGarden$Keeping", "follow", "(LSectionGarden$Section;Ljava/util/ArrayList;)V"⟩, 1), (⟨"SectionGarden$Keeping", "admitSet", "(ILSectionGarden$Section;Ljava/util/ArrayList;)V"⟩, 1), (⟨"SectionGarden$Keeping", "admitGroup", "(LSectionGarden$Section;Ljava/util/ArrayList;)V"⟩, 1), (⟨"SectionGarden$Folding", "findWhatMayFold", "(Ljava/util/ArrayList;)V"⟩, 1)]
theorem lw_r1 : ∀ q ∈ lw_privs_1, lw_okq q := List.forall_mem_cons.mpr ⟨lw_p0, List.forall_mem_cons.mpr ⟨lw_p1, List.forall_mem_cons.mpr ⟨lw_p2, List.forall_mem_cons.mpr ⟨lw_p3, List.forall_mem_cons.mpr ⟨lw_p4, List.forall_mem_cons.mpr ⟨lw_p5, List.forall_mem_cons.mpr ⟨lw_p6, List.forall_mem_cons.mpr ⟨lw_p7, List.forall_mem_cons.mpr ⟨lw_p8, List.forall_mem_cons.mpr ⟨lw_p9, List.forall_mem_cons.mpr ⟨lw_p10, List.forall_mem_cons.mpr ⟨lw_p11, List.forall_mem_cons.mpr ⟨lw_p12, List.forall_mem_cons.mpr ⟨lw_p13, List.forall_mem_cons.mpr ⟨lw_p14, List.forall_mem_cons.mpr ⟨lw_p15, fun _ h => absurd h List.not_mem_nil⟩⟩⟩⟩⟩⟩⟩⟩⟩⟩⟩⟩⟩⟩⟩⟩
theorem lw_p16 : lw_okq (⟨"SectionGarden$Folding", "forbidWhatItTakesPlacesOf", "(LSectionGarden$Section;)V"⟩, 1) := ⟨⟨by decide +kernel, by decide +kernel⟩, List.mem_of_getElem? (i := 138) (by decide +kernel), List.mem_of_getElem? (i := 664) (by decide +kernel), List.mem_of_getElem? (i := 665) (by decide +kernel)⟩
theorem lw_p17 : lw_okq (⟨"SectionGarden$Folding", "joinKin", "(Ljava/util/ArrayList;)V"⟩, 1) := ⟨⟨by decide +kernel, by decide +kernel⟩, List.mem_of_getElem? (i := 138) (by decide +kernel), List.mem_of_getElem? (i := 670) (by decide +kernel), List.mem_of_getElem? (i := 671) (by decide +kernel)⟩
theorem lw_p18 : lw_okq (⟨"SectionGarden$Folding", "looksLike", "(LSectionGarden$Section;LSectionGarden$Section;)Z"⟩, 1) := ⟨⟨by decide +kernel, by decide +kernel⟩, List.mem_of_getElem? (i := 138) (by decide +kernel), List.mem_of_getElem? (i := 674) (by decide +kernel), List.mem_of_getElem? (i := 675) (by decide +kernel)⟩
theorem lw_p19 : lw_okq (⟨"SectionGarden$Folding", "relocationsLookLike", "(Ljava/util/ArrayList;Ljava/util/ArrayList;)Z"⟩, 1) := ⟨⟨by decide +kernel, by decide +kernel⟩, List.mem_of_getElem? (i := 138) (by decide +kernel), List.mem_of_getElem? (i := 678) (by decide +kernel), List.mem_of_getElem? (i := 679) (by decide +kernel)⟩
theorem lw_p20 : lw_okq (⟨"SectionGarden$Folding", "partKin", "(Ljava/util/ArrayList;)Z"⟩, 1) := ⟨⟨by decide +kernel, by decide +kernel⟩, List.mem_of_getElem? (i := 138) (by decide +kernel), List.mem_of_getElem? (i := 695) (by decide +kernel), List.mem_of_getElem? (i := 696) (by decide +kernel)⟩
theorem lw_p21 : lw_okq (⟨"SectionGarden$Folding", "firstOfTheSameKin", "(Ljava/util/ArrayList;ILSectionGarden$Section;)LSectionGarden$Section;"⟩, 1) := ⟨⟨by decide +kernel, by decide +kernel⟩, List.mem_of_getElem? (i := 138) (by decide +kernel), List.mem_of_getElem? (i := 699) (by decide +kernel), List.mem_of_getElem? (i := 700) (by decide +kernel)⟩
theorem lw_p22 : lw_okq (⟨"SectionGarden$Folding", "targetsAreKin", "(LSectionGarden$Section;LSectionGarden$Section;)Z"⟩, 1) := ⟨⟨by decide +kernel, by decide +kernel⟩, List.mem_of_getElem? (i := 138) (by decide +kernel), List.mem_of_getElem? (i := 703) (by decide +kernel), List.mem_of_getElem? (i := 704) (by decide +kernel)⟩
theorem lw_p23 : lw_okq (⟨"SectionGarden$Folding", "foldKin", "(Ljava/util/ArrayList;)V"⟩, 1) := ⟨⟨by decide +kernel, by decide +kernel⟩, List.mem_of_getElem? (i := 138) (by decide +kernel), List.mem_of_getElem? (i := 707) (by decide +kernel), List.mem_of_getElem? (i := 708) (by decide +kernel)⟩
theorem lw_p24 : lw_okq (⟨"SectionGarden", "faultBeforePlacing", "()I"⟩, 8) := ⟨⟨by decide +kernel, by decide +kernel⟩, List.mem_of_getElem? (i := 28) (by decide +kernel), List.mem_of_getElem? (i := 711) (by decide +kernel), List.mem_of_getElem? (i := 712) (by decide +kernel)⟩
theorem lw_p25 : lw_okq (⟨"SectionGarden$Placing", "dropVeneers", "(LSectionGarden$Told;)V"⟩, 7) := ⟨⟨by decide +kernel, by decide +kernel⟩, List.mem_of_getElem? (i := 149) (by decide +kernel), List.mem_of_getElem? (i := 736) (by decide +kernel), List.mem_of_getElem? (i := 737) (by decide +kernel)⟩
theorem lw_p26 : lw_okq (⟨"SectionGarden$Placing", "layOut", "(LSectionGarden$Told;)V"⟩, 7) := ⟨⟨by decide +kernel, by decide +kernel⟩, List.mem_of_getElem? (i := 149) (by decide +kernel), List.mem_of_getElem? (i := 744) (by decide +kernel), List.mem_of_getElem? (i := 745) (by decide +kernel)⟩
theorem lw_p27 : lw_okq (⟨"SectionGarden$Placing", "layOutKind", "(IJLjava/util/ArrayList;)J"⟩, 7) := ⟨⟨by decide +kernel, by decide +kernel⟩, List.mem_of_getElem? (i := 149) (by decide +kernel), List.mem_of_getElem? (i := 749) (by decide +kernel), List.mem_of_getElem? (i := 750) (by decide +kernel)⟩
theorem lw_p28 : lw_okq (⟨"SectionGarden$Placing", "findSetEdges", "(Ljava/util/ArrayList;)V"⟩, 7) := ⟨⟨by decide +kernel, by decide +kernel⟩, List.mem_of_getElem? (i := 149) (by decide +kernel), List.mem_of_getElem? (i := 776) (by decide +kernel), List.mem_of_getElem? (i := 777) (by decide +kernel)⟩
theorem lw_p29 : lw_okq (⟨"SectionGarden$Placing", "widenSet", "(IJJ)V"⟩, 7) := ⟨⟨by decide +kernel, by decide +kernel⟩, List.mem_of_getElem? (i := 149) (by decide +kernel), List.mem_of_getElem? (i := 789) (by decide +kernel), List.mem_of_getElem? (i := 790) (by decide +kernel)⟩
theorem lw_p30 : lw_okq (⟨"SectionGarden$Placing", "addVeneers", "(Ljava/util/ArrayList;)Z"⟩, 7) := ⟨⟨by decide +kernel, by decide +kernel⟩, List.mem_of_getElem? (i := 149) (by decide +kernel), List.mem_of_getElem? (i := 799) (by decide +kernel), List.mem_of_getElem? (i := 800) (by decide +kernel)⟩
theorem lw_p31 : lw_okq (⟨"SectionGarden$Placing", "addVeneersOf", "(LSectionGarden$Section;)V"⟩, 7) := ⟨⟨by decide +kernel, by decide +kernel⟩, List.mem_of_getElem? (i := 149) (by decide +kernel), List.mem_of_getElem? (i := 803) (by decide +kernel), List.mem_of_getElem? (i := 804) (by decide +kernel)⟩
def lw_privs_2 : List (MethodName × Nat) := [(⟨"SectionGarden$Folding", "forbidWhatItTakesPlacesOf", "(LSectionGarden$Section;)V"⟩, 1), (⟨"SectionGarden$Folding", "joinKin", "(Ljava/util/ArrayList;)V"⟩, 1), (⟨"SectionGarden$Folding", "looksLike", "(LSectionGarden$Section;LSectionGarden$Section;)Z"⟩, 1), (⟨"SectionGarden$Folding", "relocationsLookLike", "(Ljava/util/ArrayList;Ljava/util/ArrayList;)Z"⟩, 1), (⟨"SectionGarden$Folding", "partKin", "(Ljava/util/ArrayList;)Z"⟩, 1), (⟨"SectionGarden$Folding", "firstOfTheSameKin", "(Ljava/util/ArrayList;ILSectionGarden$Section;)LSectionGarden$Section;"⟩, 1), (⟨"SectionGarden$Folding", "targetsAreKin", "(LSectionGarden$Section;LSectionGarden$Section;)Z"⟩, 1), (⟨"SectionGarden$Folding", "foldKin", "(Ljava/util/ArrayList;)V"⟩, 1), (⟨"SectionGarden", "faultBeforePlacing", "()I"⟩, 8), (⟨"SectionGarden$Placing", "dropVeneers", "(LSectionGarden$Told;)V"⟩, 7), (⟨"SectionGarden$Placing", "layOut", "(LSectionGarden$Told;)V"⟩, 7), (⟨"SectionGarden$Placing", "layOutKind", "(IJLjava/util/ArrayList;)J"⟩, 7), (⟨"SectionGarden$Placing", "findSetEdges", "(Ljava/util/ArrayList;)V"⟩, 7), (⟨"SectionGarden$Placing", "widenSet", "(IJJ)V"⟩, 7), (⟨"SectionGarden$Placing", "addVeneers", "(Ljava/util/ArrayList;)Z"⟩, 7), (⟨"SectionGarden$Placing", "addVeneersOf", "(LSectionGarden$Section;)V"⟩, 7)]
theorem lw_r2 : ∀ q ∈ lw_privs_2, lw_okq q := List.forall_mem_cons.mpr ⟨lw_p16, List.forall_mem_cons.mpr ⟨lw_p17, List.forall_mem_cons.mpr ⟨lw_p18, List.forall_mem_cons.mpr ⟨lw_p19, List.forall_mem_cons.mpr ⟨lw_p20, List.forall_mem_cons.mpr ⟨lw_p21, List.forall_mem_cons.mpr ⟨lw_p22, List.forall_mem_cons.mpr ⟨lw_p23, List.forall_mem_cons.mpr ⟨lw_p24, List.forall_mem_cons.mpr ⟨lw_p25, List.forall_mem_cons.mpr ⟨lw_p26, List.forall_mem_cons.mpr ⟨lw_p27, List.forall_mem_cons.mpr ⟨lw_p28, List.forall_mem_cons.mpr ⟨lw_p29, List.forall_mem_cons.mpr ⟨lw_p30, List.forall_mem_cons.mpr ⟨lw_p31, fun _ h => absurd h List.not_mem_nil⟩⟩⟩⟩⟩⟩⟩⟩⟩⟩⟩⟩⟩⟩⟩⟩
theorem lw_p32 : lw_okq (⟨"SectionGarden$Placing", "amountWritten", "(LSectionGarden$Relocation;)J"⟩, 7) := ⟨⟨by decide +kernel, by decide +kernel⟩, List.mem_of_getElem? (i := 149) (by decide +kernel), List.mem_of_getElem? (i := 808) (by decide +kernel), List.mem_of_getElem? (i := 809) (by decide +kernel)⟩
theorem lw_p33 : lw_okq (⟨"SectionGarden$Placing", "veneerFor", "(LSectionGarden$Section;LSectionGarden$Relocation;)I"⟩, 7) := ⟨⟨by decide +kernel, by decide +kernel⟩, List.mem_of_getElem? (i := 149) (by decide +kernel), List.mem_of_getElem? (i := 825) (by decide +kernel), List.mem_of_getElem? (i := 826) (by decide +kernel)⟩
theorem lw_p34 : lw_okq (⟨"SectionGarden", "faultOfPlaces", "()I"⟩, 8) := ⟨⟨by decide +kernel, by decide +kernel⟩, List.mem_of_getElem? (i := 28) (by decide +kernel), List.mem_of_getElem? (i := 834) (by decide +kernel), List.mem_of_getElem? (i := 835) (by decide +kernel)⟩
theorem lw_p35 : lw_okq (⟨"SectionGarden$Placing", "sectionByte", "(LSectionGarden$Section;I)I"⟩, 7) := ⟨⟨by decide +kernel, by decide +kernel⟩, List.mem_of_getElem? (i := 149) (by decide +kernel), List.mem_of_getElem? (i := 870) (by decide +kernel), List.mem_of_getElem? (i := 871) (by decide +kernel)⟩
theorem lw_p36 : lw_okq (⟨"SectionGarden$Placing", "veneerByte", "(LSectionGarden$Section;II)I"⟩, 7) := ⟨⟨by decide +kernel, by decide +kernel⟩, List.mem_of_getElem? (i := 149) (by decide +kernel), List.mem_of_getElem? (i := 883) (by decide +kernel), List.mem_of_getElem? (i := 884) (by decide +kernel)⟩
theorem lw_p37 : lw_okq (⟨"java/lang/Throwable", "fillInStackTrace", "(I)Ljava/lang/Throwable;"⟩, 6) := ⟨⟨by decide +kernel, by decide +kernel⟩, List.mem_of_getElem? (i := 941) (by decide +kernel), List.mem_of_getElem? (i := 939) (by decide +kernel), List.mem_of_getElem? (i := 940) (by decide +kernel)⟩
theorem lw_p38 : lw_okq (⟨"SectionGardenModel", "told", "()V"⟩, 54) := ⟨⟨by decide +kernel, by decide +kernel⟩, List.mem_of_getElem? (i := 1010) (by decide +kernel), List.mem_of_getElem? (i := 1185) (by decide +kernel), List.mem_of_getElem? (i := 1186) (by decide +kernel)⟩
theorem lw_p39 : lw_okq (⟨"SectionGardenModel", "hasBytes", "(I)Z"⟩, 54) := ⟨⟨by decide +kernel, by decide +kernel⟩, List.mem_of_getElem? (i := 1010) (by decide +kernel), List.mem_of_getElem? (i := 1203) (by decide +kernel), List.mem_of_getElem? (i := 1204) (by decide +kernel)⟩
theorem lw_p40 : lw_okq (⟨"SectionGardenModel", "names", "()I"⟩, 54) := ⟨⟨by decide +kernel, by decide +kernel⟩, List.mem_of_getElem? (i := 1010) (by decide +kernel), List.mem_of_getElem? (i := 1240) (by decide +kernel), List.mem_of_getElem? (i := 1241) (by decide +kernel)⟩
theorem lw_p41 : lw_okq (⟨"SectionGardenModel", "bad", "(II)V"⟩, 54) := ⟨⟨by decide +kernel, by decide +kernel⟩, List.mem_of_getElem? (i := 1010) (by decide +kernel), List.mem_of_getElem? (i := 1244) (by decide +kernel), List.mem_of_getElem? (i := 1245) (by decide +kernel)⟩
theorem lw_p42 : lw_okq (⟨"SectionGardenModel", "keepAll", "()V"⟩, 54) := ⟨⟨by decide +kernel, by decide +kernel⟩, List.mem_of_getElem? (i := 1010) (by decide +kernel), List.mem_of_getElem? (i := 1248) (by decide +kernel), List.mem_of_getElem? (i := 1249) (by decide +kernel)⟩
theorem lw_p43 : lw_okq (⟨"SectionGardenModel", "keeps", "(II)V"⟩, 54) := ⟨⟨by decide +kernel, by decide +kernel⟩, List.mem_of_getElem? (i := 1010) (by decide +kernel), List.mem_of_getElem? (i := 1252) (by decide +kernel), List.mem_of_getElem? (i := 1253) (by decide +kernel)⟩
theorem lw_p44 : lw_okq (⟨"SectionGardenModel", "comesBy", "(II)V"⟩, 54) := ⟨⟨by decide +kernel, by decide +kernel⟩, List.mem_of_getElem? (i := 1010) (by decide +kernel), List.mem_of_getElem? (i := 1256) (by decide +kernel), List.mem_of_getElem? (i := 1257) (by decide +kernel)⟩
theorem lw_p45 : lw_okq (⟨"SectionGardenModel", "foldAll", "(Z)V"⟩, 54) := ⟨⟨by decide +kernel, by decide +kernel⟩, List.mem_of_getElem? (i := 1010) (by decide +kernel), List.mem_of_getElem? (i := 1260) (by decide +kernel), List.mem_of_getElem? (i := 1261) (by decide +kernel)⟩
theorem lw_p46 : lw_okq (⟨"SectionGardenModel", "startsAlike", "(II)Z"⟩, 54) := ⟨⟨by decide +kernel, by decide +kernel⟩, List.mem_of_getElem? (i := 1010) (by decide +kernel), List.mem_of_getElem? (i := 1264) (by decide +kernel), List.mem_of_getElem? (i := 1265) (by decide +kernel)⟩
theorem lw_p47 : lw_okq (⟨"SectionGardenModel", "relocationsOf", "(I)I"⟩, 54) := ⟨⟨by decide +kernel, by decide +kernel⟩, List.mem_of_getElem? (i := 1010) (by decide +kernel), List.mem_of_getElem? (i := 1268) (by decide +kernel), List.mem_of_getElem? (i := 1269) (by decide +kernel)⟩
def lw_privs_3 : List (MethodName × Nat) := [(⟨"SectionGarden$Placing", "amountWritten", "(LSectionGarden$Relocation;)J"⟩, 7), (⟨"SectionGarden$Placing", "veneerFor", "(LSectionGarden$Section;LSectionGarden$Relocation;)I"⟩, 7), (⟨"SectionGarden", "faultOfPlaces", "()I"⟩, 8), (⟨"SectionGarden$Placing", "sectionByte", "(LSectionGarden$Section;I)I"⟩, 7), (⟨"SectionGarden$Placing", "veneerByte", "(LSectionGarden$Section;II)I"⟩, 7), (⟨"java/lang/Throwable", "fillInStackTrace", "(I)Ljava/lang/Throwable;"⟩, 6), (⟨"SectionGardenModel", "told", "()V"⟩, 54), (⟨"SectionGardenModel", "hasBytes", "(I)Z"⟩, 54), (⟨"SectionGardenModel", "names", "()I"⟩, 54), (⟨"SectionGardenModel", "bad", "(II)V"⟩, 54), (⟨"SectionGardenModel", "keepAll", "()V"⟩, 54), (⟨"SectionGardenModel", "keeps", "(II)V"⟩, 54), (⟨"SectionGardenModel", "comesBy", "(II)V"⟩, 54), (⟨"SectionGardenModel", "foldAll", "(Z)V"⟩, 54), (⟨"SectionGardenModel", "startsAlike", "(II)Z"⟩, 54), (⟨"SectionGardenModel", "relocationsOf", "(I)I"⟩, 54)]
theorem lw_r3 : ∀ q ∈ lw_privs_3, lw_okq q := List.forall_mem_cons.mpr ⟨lw_p32, List.forall_mem_cons.mpr ⟨lw_p33, List.forall_mem_cons.mpr ⟨lw_p34, List.forall_mem_cons.mpr ⟨lw_p35, List.forall_mem_cons.mpr ⟨lw_p36, List.forall_mem_cons.mpr ⟨lw_p37, List.forall_mem_cons.mpr ⟨lw_p38, List.forall_mem_cons.mpr ⟨lw_p39, List.forall_mem_cons.mpr ⟨lw_p40, List.forall_mem_cons.mpr ⟨lw_p41, List.forall_mem_cons.mpr ⟨lw_p42, List.forall_mem_cons.mpr ⟨lw_p43, List.forall_mem_cons.mpr ⟨lw_p44, List.forall_mem_cons.mpr ⟨lw_p45, List.forall_mem_cons.mpr ⟨lw_p46, List.forall_mem_cons.mpr ⟨lw_p47, fun _ h => absurd h List.not_mem_nil⟩⟩⟩⟩⟩⟩⟩⟩⟩⟩⟩⟩⟩⟩⟩⟩
theorem lw_p48 : lw_okq (⟨"SectionGardenModel", "staysAlike", "(II)Z"⟩, 54) := ⟨⟨by decide +kernel, by decide +kernel⟩, List.mem_of_getElem? (i := 1010) (by decide +kernel), List.mem_of_getElem? (i := 1272) (by decide +kernel), List.mem_of_getElem? (i := 1273) (by decide +kernel)⟩
theorem lw_p49 : lw_okq (⟨"SectionGardenModel", "nth", "(II)I"⟩, 54) := ⟨⟨by decide +kernel, by decide +kernel⟩, List.mem_of_getElem? (i := 1010) (by decide +kernel), List.mem_of_getElem? (i := 1276) (by decide +kernel), List.mem_of_getElem? (i := 1277) (by decide +kernel)⟩
theorem lw_p50 : lw_okq (⟨"SectionGardenModel", "veneerAll", "()V"⟩, 54) := ⟨⟨by decide +kernel, by decide +kernel⟩, List.mem_of_getElem? (i := 1010) (by decide +kernel), List.mem_of_getElem? (i := 1280) (by decide +kernel), List.mem_of_getElem? (i := 1281) (by decide +kernel)⟩
theorem lw_p51 : lw_okq (⟨"SectionGardenModel", "placeAll", "()V"⟩, 54) := ⟨⟨by decide +kernel, by decide +kernel⟩, List.mem_of_getElem? (i := 1010) (by decide +kernel), List.mem_of_getElem? (i := 1284) (by decide +kernel), List.mem_of_getElem? (i := 1285) (by decide +kernel)⟩
theorem lw_p52 : lw_okq (⟨"SectionGardenModel", "isPlaced", "(I)Z"⟩, 54) := ⟨⟨by decide +kernel, by decide +kernel⟩, List.mem_of_getElem? (i := 1010) (by decide +kernel), List.mem_of_getElem? (i := 1289) (by decide +kernel), List.mem_of_getElem? (i := 1290) (by decide +kernel)⟩
theorem lw_p53 : lw_okq (⟨"SectionGardenModel", "veneersOf", "(I)I"⟩, 54) := ⟨⟨by decide +kernel, by decide +kernel⟩, List.mem_of_getElem? (i := 1010) (by decide +kernel), List.mem_of_getElem? (i := 1296) (by decide +kernel), List.mem_of_getElem? (i := 1297) (by decide +kernel)⟩
theorem lw_p54 : lw_okq (⟨"SectionGardenModel", "v", "(I)J"⟩, 54) := ⟨⟨by decide +kernel, by decide +kernel⟩, List.mem_of_getElem? (i := 1010) (by decide +kernel), List.mem_of_getElem? (i := 1300) (by decide +kernel), List.mem_of_getElem? (i := 1301) (by decide +kernel)⟩
theorem lw_p55 : lw_okq (⟨"SectionGardenModel", "valueOf", "(I)J"⟩, 54) := ⟨⟨by decide +kernel, by decide +kernel⟩, List.mem_of_getElem? (i := 1010) (by decide +kernel), List.mem_of_getElem? (i := 1304) (by decide +kernel), List.mem_of_getElem? (i := 1305) (by decide +kernel)⟩
theorem lw_p56 : lw_okq (⟨"SectionGardenModel", "placeOf", "(I)J"⟩, 54) := ⟨⟨by decide +kernel, by decide +kernel⟩, List.mem_of_getElem? (i := 1010) (by decide +kernel), List.mem_of_getElem? (i := 1308) (by decide +kernel), List.mem_of_getElem? (i := 1309) (by decide +kernel)⟩
theorem lw_p57 : lw_okq (⟨"SectionGardenModel", "isBranchNear", "(J)Z"⟩, 54) := ⟨⟨by decide +kernel, by decide +kernel⟩, List.mem_of_getElem? (i := 1010) (by decide +kernel), List.mem_of_getElem? (i := 1312) (by decide +kernel), List.mem_of_getElem? (i := 1313) (by decide +kernel)⟩
theorem lw_p58 : lw_okq (⟨"SectionGardenModel", "sameAim", "(II)Z"⟩, 54) := ⟨⟨by decide +kernel, by decide +kernel⟩, List.mem_of_getElem? (i := 1010) (by decide +kernel), List.mem_of_getElem? (i := 1318) (by decide +kernel), List.mem_of_getElem? (i := 1319) (by decide +kernel)⟩
theorem lw_p59 : lw_okq (⟨"SectionGardenModel", "hasPlaced", "(I)Z"⟩, 54) := ⟨⟨by decide +kernel, by decide +kernel⟩, List.mem_of_getElem? (i := 1010) (by decide +kernel), List.mem_of_getElem? (i := 1322) (by decide +kernel), List.mem_of_getElem? (i := 1323) (by decide +kernel)⟩
theorem lw_p60 : lw_okq (⟨"SectionGardenModel", "fits", "(I)Z"⟩, 54) := ⟨⟨by decide +kernel, by decide +kernel⟩, List.mem_of_getElem? (i := 1010) (by decide +kernel), List.mem_of_getElem? (i := 1326) (by decide +kernel), List.mem_of_getElem? (i := 1327) (by decide +kernel)⟩
theorem lw_p61 : lw_okq (⟨"SectionGardenModel", "written", "(I)J"⟩, 54) := ⟨⟨by decide +kernel, by decide +kernel⟩, List.mem_of_getElem? (i := 1010) (by decide +kernel), List.mem_of_getElem? (i := 1330) (by decide +kernel), List.mem_of_getElem? (i := 1331) (by decide +kernel)⟩
theorem lw_p62 : lw_okq (⟨"SectionGardenModel", "veneerPlace", "(I)J"⟩, 54) := ⟨⟨by decide +kernel, by decide +kernel⟩, List.mem_of_getElem? (i := 1010) (by decide +kernel), List.mem_of_getElem? (i := 1334) (by decide +kernel), List.mem_of_getElem? (i := 1335) (by decide +kernel)⟩
theorem lw_p63 : lw_okq (⟨"SectionGardenModel", "byteOf", "(II)I"⟩, 54) := ⟨⟨by decide +kernel, by decide +kernel⟩, List.mem_of_getElem? (i := 1010) (by decide +kernel), List.mem_of_getElem? (i := 1364) (by decide +kernel), List.mem_of_getElem? (i := 1365) (by decide +kernel)⟩
def lw_privs_4 : List (MethodName × Nat) := [(⟨"SectionGardenModel", "staysAlike", "(II)Z"⟩, 54), (⟨"SectionGardenModel", "nth", "(II)I"⟩, 54), (⟨"SectionGardenModel", "veneerAll", "()V"⟩, 54), (⟨"SectionGardenModel", "placeAll", "()V"⟩, 54), (⟨"SectionGardenModel", "isPlaced", "(I)Z"⟩, 54), (⟨"SectionGardenModel", "veneersOf", "(I)I"⟩, 54), (⟨"SectionGardenModel", "v", "(I)J"⟩, 54), (⟨"SectionGardenModel", "valueOf", "(I)J"⟩, 54), (⟨"SectionGardenModel", "placeOf", "(I)J"⟩, 54), (⟨"SectionGardenModel", "isBranchNear", "(J)Z"⟩, 54), (⟨"SectionGardenModel", "sameAim", "(II)Z"⟩, 54), (⟨"SectionGardenModel", "hasPlaced", "(I)Z"⟩, 54), (⟨"SectionGardenModel", "fits", "(I)Z"⟩, 54), (⟨"SectionGardenModel", "written", "(I)J"⟩, 54), (⟨"SectionGardenModel", "veneerPlace", "(I)J"⟩, 54), (⟨"SectionGardenModel", "byteOf", "(II)I"⟩, 54)]
theorem lw_r4 : ∀ q ∈ lw_privs_4, lw_okq q := List.forall_mem_cons.mpr ⟨lw_p48, List.forall_mem_cons.mpr ⟨lw_p49, List.forall_mem_cons.mpr ⟨lw_p50, List.forall_mem_cons.mpr ⟨lw_p51, List.forall_mem_cons.mpr ⟨lw_p52, List.forall_mem_cons.mpr ⟨lw_p53, List.forall_mem_cons.mpr ⟨lw_p54, List.forall_mem_cons.mpr ⟨lw_p55, List.forall_mem_cons.mpr ⟨lw_p56, List.forall_mem_cons.mpr ⟨lw_p57, List.forall_mem_cons.mpr ⟨lw_p58, List.forall_mem_cons.mpr ⟨lw_p59, List.forall_mem_cons.mpr ⟨lw_p60, List.forall_mem_cons.mpr ⟨lw_p61, List.forall_mem_cons.mpr ⟨lw_p62, List.forall_mem_cons.mpr ⟨lw_p63, fun _ h => absurd h List.not_mem_nil⟩⟩⟩⟩⟩⟩⟩⟩⟩⟩⟩⟩⟩⟩⟩⟩
theorem lw_p64 : lw_okq (⟨"SectionGardenModel", "found", "(Z)I"⟩, 54) := ⟨⟨by decide +kernel, by decide +kernel⟩, List.mem_of_getElem? (i := 1010) (by decide +kernel), List.mem_of_getElem? (i := 1380) (by decide +kernel), List.mem_of_getElem? (i := 1381) (by decide +kernel)⟩
def lw_privs_5 : List (MethodName × Nat) := [(⟨"SectionGardenModel", "found", "(Z)I"⟩, 54)]
theorem lw_r5 : ∀ q ∈ lw_privs_5, lw_okq q := List.forall_mem_cons.mpr ⟨lw_p64, fun _ h => absurd h List.not_mem_nil⟩
def lw_privs : List (MethodName × Nat) := lw_privs_1 ++ (lw_privs_2 ++ (lw_privs_3 ++ (lw_privs_4 ++ (lw_privs_5))))
def lw_tbl : List Cond := k2_sels lw_privs ++ tables_1
theorem lw_privs_ok : ∀ q ∈ lw_privs, lw_okq q := by
  show ∀ q ∈ lw_privs_1 ++ (lw_privs_2 ++ (lw_privs_3 ++ (lw_privs_4 ++ (lw_privs_5)))), lw_okq q
  exact List.forall_mem_append.mpr ⟨lw_r1, List.forall_mem_append.mpr ⟨lw_r2, List.forall_mem_append.mpr ⟨lw_r3, List.forall_mem_append.mpr ⟨lw_r4, lw_r5⟩⟩⟩⟩
/-- the words that a call carries along -/
def gt_tbl : List Cond := lw_tbl.filter goodWord
end
section
def RX0 : String := "SectionGarden$Folding"
def TX0 : u_T := fun k => match k with
  | _ => ("SectionGarden$Folding", "folded", "I", false)
def tyX0 : Nat → FieldType := fun k => match k with
  | _ => .int
theorem nmX0 : ∀ a, a < 1 → ∀ b, b < 1 → a ≠ b → (TX0 a).2.1 ≠ (TX0 b).2.1 := by decide +kernel
theorem tyX0_ok : ∀ k, k < 1 → parseFieldDescriptor (TX0 k).2.2.1 = some (tyX0 k) := by decide +kernel
def RX1 : String := "SectionGarden$Keeping"
def TX1 : u_T := fun k => match k with
  | _ => ("SectionGarden$Keeping", "rows", "Ljava/util/ArrayList;", true)
def tyX1 : Nat → FieldType := fun k => match k with
  | _ => .object "java/util/ArrayList"
theorem nmX1 : ∀ a, a < 1 → ∀ b, b < 1 → a ≠ b → (TX1 a).2.1 ≠ (TX1 b).2.1 := by decide +kernel
theorem tyX1_ok : ∀ k, k < 1 → parseFieldDescriptor (TX1 k).2.2.1 = some (tyX1 k) := by decide +kernel
def RX2 : String := "SectionGarden$Names"
def TX2 : u_T := fun k => match k with
  | 0 => ("SectionGarden$Names", "firstObjects", "[I", true)
  | _ => ("SectionGarden$Names", "definitions", "[LSectionGarden$Symbol;", true)
def tyX2 : Nat → FieldType := fun k => match k with
  | 0 => .array .int
  | _ => .array (.object "SectionGarden$Symbol")
theorem nmX2 : ∀ a, a < 2 → ∀ b, b < 2 → a ≠ b → (TX2 a).2.1 ≠ (TX2 b).2.1 := by decide +kernel
theorem tyX2_ok : ∀ k, k < 2 → parseFieldDescriptor (TX2 k).2.2.1 = some (tyX2 k) := by decide +kernel
def RX3 : String := "SectionGarden$Placing"
def TX3 : u_T := fun k => match k with
  | 0 => ("SectionGarden$Placing", "begins", "[J", true)
  | 1 => ("SectionGarden$Placing", "ends", "[J", true)
  | 2 => ("SectionGarden$Placing", "hasSections", "[Z", true)
  | 3 => ("SectionGarden$Placing", "starts", "[J", true)
  | 4 => ("SectionGarden$Placing", "stops", "[J", true)
  | 5 => ("SectionGarden$Placing", "times", "I", false)
  | _ => ("SectionGarden$Placing", "veneerSum", "I", false)
def tyX3 : Nat → FieldType := fun k => match k with
  | 0 => .array .long
  | 1 => .array .long
  | 2 => .array .boolean
  | 3 => .array .long
  | 4 => .array .long
  | 5 => .int
  | _ => .int
theorem nmX3 : ∀ a, a < 7 → ∀ b, b < 7 → a ≠ b → (TX3 a).2.1 ≠ (TX3 b).2.1 := by decide +kernel
theorem tyX3_ok : ∀ k, k < 7 → parseFieldDescriptor (TX3 k).2.2.1 = some (tyX3 k) := by decide +kernel
def RX4 : String := "SectionGarden$Relocation"
def TX4 : u_T := fun k => match k with
  | 0 => ("SectionGarden$Relocation", "home", "LSectionGarden$Section;", true)
  | 1 => ("SectionGarden$Relocation", "offset", "I", true)
  | 2 => ("SectionGarden$Relocation", "type", "LSectionGarden$Type;", true)
  | 3 => ("SectionGarden$Relocation", "symbol", "LSectionGarden$Symbol;", true)
  | 4 => ("SectionGarden$Relocation", "addend", "I", true)
  | _ => ("SectionGarden$Relocation", "veneer", "I", false)
def tyX4 : Nat → FieldType := fun k => match k with
  | 0 => .object "SectionGarden$Section"
  | 1 => .int
  | 2 => .object "SectionGarden$Type"
  | 3 => .object "SectionGarden$Symbol"
  | 4 => .int
  | _ => .int
theorem nmX4 : ∀ a, a < 6 → ∀ b, b < 6 → a ≠ b → (TX4 a).2.1 ≠ (TX4 b).2.1 := by decide +kernel
theorem tyX4_ok : ∀ k, k < 6 → parseFieldDescriptor (TX4 k).2.2.1 = some (tyX4 k) := by decide +kernel
def RX5 : String := "SectionGarden$Section"
def TX5 : u_T := fun k => match k with
  | 0 => ("SectionGarden$Section", "number", "I", true)
  | 1 => ("SectionGarden$Section", "object", "I", true)
  | 2 => ("SectionGarden$Section", "kind", "I", true)
  | 3 => ("SectionGarden$Section", "size", "I", true)
  | 4 => ("SectionGarden$Section", "align", "I", true)
  | 5 => ("SectionGarden$Section", "seed", "I", true)
  | 6 => ("SectionGarden$Section", "relocations", "Ljava/util/ArrayList;", true)
  | 7 => ("SectionGarden$Section", "patchedBytes", "[B", false)
  | 8 => ("SectionGarden$Section", "keep", "Z", false)
  | 9 => ("SectionGarden$Section", "set", "I", false)
  | 10 => ("SectionGarden$Section", "group", "I", false)
  | 11 => ("SectionGarden$Section", "lost", "Z", false)
  | 12 => ("SectionGarden$Section", "row", "I", false)
  | 13 => ("SectionGarden$Section", "by", "LSectionGarden$Section;", false)
  | 14 => ("SectionGarden$Section", "mayFold", "Z", false)
  | 15 => ("SectionGarden$Section", "kin", "LSectionGarden$Section;", false)
  | 16 => ("SectionGarden$Section", "nextKin", "LSectionGarden$Section;", false)
  | 17 => ("SectionGarden$Section", "foldedInto", "LSectionGarden$Section;", false)
  | 18 => ("SectionGarden$Section", "place", "J", false)
  | _ => ("SectionGarden$Section", "veneerCount", "I", false)
def tyX5 : Nat → FieldType := fun k => match k with
  | 0 => .int
  | 1 => .int
  | 2 => .int
  | 3 => .int
  | 4 => .int
  | 5 => .int
  | 6 => .object "java/util/ArrayList"
  | 7 => .array .byte
  | 8 => .boolean
  | 9 => .int
  | 10 => .int
  | 11 => .boolean
  | 12 => .int
  | 13 => .object "SectionGarden$Section"
  | 14 => .boolean
  | 15 => .object "SectionGarden$Section"
  | 16 => .object "SectionGarden$Section"
  | 17 => .object "SectionGarden$Section"
  | 18 => .long
  | _ => .int
theorem nmX5 : ∀ a, a < 20 → ∀ b, b < 20 → a ≠ b → (TX5 a).2.1 ≠ (TX5 b).2.1 := by decide +kernel
theorem tyX5_ok : ∀ k, k < 20 → parseFieldDescriptor (TX5 k).2.2.1 = some (tyX5 k) := by decide +kernel
def RX6 : String := "SectionGarden$Symbol"
def TX6 : u_T := fun k => match k with
  | 0 => ("SectionGarden$Symbol", "object", "I", true)
  | 1 => ("SectionGarden$Symbol", "name", "I", true)
  | 2 => ("SectionGarden$Symbol", "home", "LSectionGarden$Section;", true)
  | 3 => ("SectionGarden$Symbol", "offset", "I", true)
  | 4 => ("SectionGarden$Symbol", "sort", "I", true)
  | 5 => ("SectionGarden$Symbol", "startOf", "I", true)
  | 6 => ("SectionGarden$Symbol", "stopOf", "I", true)
  | 7 => ("SectionGarden$Symbol", "target", "LSectionGarden$Section;", false)
  | _ => ("SectionGarden$Symbol", "targetOffset", "I", false)
def tyX6 : Nat → FieldType := fun k => match k with
  | 0 => .int
  | 1 => .int
  | 2 => .object "SectionGarden$Section"
  | 3 => .int
  | 4 => .int
  | 5 => .int
  | 6 => .int
  | 7 => .object "SectionGarden$Section"
  | _ => .int
theorem nmX6 : ∀ a, a < 9 → ∀ b, b < 9 → a ≠ b → (TX6 a).2.1 ≠ (TX6 b).2.1 := by decide +kernel
theorem tyX6_ok : ∀ k, k < 9 → parseFieldDescriptor (TX6 k).2.2.1 = some (tyX6 k) := by decide +kernel
def RX7 : String := "SectionGarden$Told"
def TX7 : u_T := fun k => match k with
  | 0 => ("SectionGarden$Told", "sections", "Ljava/util/ArrayList;", true)
  | 1 => ("SectionGarden$Told", "symbols", "Ljava/util/ArrayList;", true)
  | 2 => ("SectionGarden$Told", "relocations", "Ljava/util/ArrayList;", true)
  | 3 => ("SectionGarden$Told", "roots", "[I", true)
  | 4 => ("SectionGarden$Told", "bases", "[I", true)
  | 5 => ("SectionGarden$Told", "objects", "I", false)
  | 6 => ("SectionGarden$Told", "rootCount", "I", false)
  | _ => ("SectionGarden$Told", "sizes", "I", false)
def tyX7 : Nat → FieldType := fun k => match k with
  | 0 => .object "java/util/ArrayList"
  | 1 => .object "java/util/ArrayList"
  | 2 => .object "java/util/ArrayList"
  | 3 => .array .int
  | 4 => .array .int
  | 5 => .int
  | 6 => .int
  | _ => .int
theorem nmX7 : ∀ a, a < 8 → ∀ b, b < 8 → a ≠ b → (TX7 a).2.1 ≠ (TX7 b).2.1 := by decide +kernel
theorem tyX7_ok : ∀ k, k < 8 → parseFieldDescriptor (TX7 k).2.2.1 = some (tyX7 k) := by decide +kernel
def RX9 : String := "SectionGarden"
def TX9 : u_T := fun k => match k with
  | 0 => ("SectionGarden", "told", "LSectionGarden$Told;", true)
  | 1 => ("SectionGarden", "names", "LSectionGarden$Names;", true)
  | 2 => ("SectionGarden", "keeping", "LSectionGarden$Keeping;", true)
  | 3 => ("SectionGarden", "folding", "LSectionGarden$Folding;", true)
  | 4 => ("SectionGarden", "placing", "LSectionGarden$Placing;", true)
  | 5 => ("SectionGarden", "sectionsKnown", "Z", false)
  | 6 => ("SectionGarden", "image", "Z", false)
  | _ => ("SectionGarden", "faultNumber", "I", false)
def tyX9 : Nat → FieldType := fun k => match k with
  | 0 => .object "SectionGarden$Told"
  | 1 => .object "SectionGarden$Names"
  | 2 => .object "SectionGarden$Keeping"
  | 3 => .object "SectionGarden$Folding"
  | 4 => .object "SectionGarden$Placing"
  | 5 => .boolean
  | 6 => .boolean
  | _ => .int
theorem nmX9 : ∀ a, a < 8 → ∀ b, b < 8 → a ≠ b → (TX9 a).2.1 ≠ (TX9 b).2.1 := by decide +kernel
theorem tyX9_ok : ∀ k, k < 8 → parseFieldDescriptor (TX9 k).2.2.1 = some (tyX9 k) := by decide +kernel
def RX10 : String := "SectionGardenModel"
def TX10 : u_T := fun k => match k with
  | 0 => ("SectionGardenModel", "thrown", "I", false)
  | 1 => ("SectionGardenModel", "objects", "I", false)
  | 2 => ("SectionGardenModel", "sections", "I", false)
  | 3 => ("SectionGardenModel", "owner", "[I", true)
  | 4 => ("SectionGardenModel", "kind", "[I", true)
  | 5 => ("SectionGardenModel", "size", "[I", true)
  | 6 => ("SectionGardenModel", "align", "[I", true)
  | 7 => ("SectionGardenModel", "from", "[I", true)
  | 8 => ("SectionGardenModel", "keep", "[Z", true)
  | 9 => ("SectionGardenModel", "set", "[I", true)
  | 10 => ("SectionGardenModel", "group", "[I", true)
  | 11 => ("SectionGardenModel", "bytes", "[I", true)
  | 12 => ("SectionGardenModel", "filled", "I", false)
  | 13 => ("SectionGardenModel", "sizes", "I", false)
  | 14 => ("SectionGardenModel", "symbols", "I", false)
  | 15 => ("SectionGardenModel", "symbolOwner", "[I", true)
  | 16 => ("SectionGardenModel", "name", "[I", true)
  | 17 => ("SectionGardenModel", "symbolSection", "[I", true)
  | 18 => ("SectionGardenModel", "symbolOffset", "[I", true)
  | 19 => ("SectionGardenModel", "sort", "[I", true)
  | 20 => ("SectionGardenModel", "relocations", "I", false)
  | 21 => ("SectionGardenModel", "relocated", "[I", true)
  | 22 => ("SectionGardenModel", "relocationOffset", "[I", true)
  | 23 => ("SectionGardenModel", "type", "[I", true)
  | 24 => ("SectionGardenModel", "symbolOf", "[I", true)
  | 25 => ("SectionGardenModel", "addend", "[I", true)
  | 26 => ("SectionGardenModel", "rootCount", "I", false)
  | 27 => ("SectionGardenModel", "roots", "[I", true)
  | 28 => ("SectionGardenModel", "bases", "[J", true)
  | 29 => ("SectionGardenModel", "linked", "Z", false)
  | 30 => ("SectionGardenModel", "hasImage", "Z", false)
  | 31 => ("SectionGardenModel", "wrong", "I", false)
  | 32 => ("SectionGardenModel", "wrongNumber", "I", false)
  | 33 => ("SectionGardenModel", "lost", "[Z", true)
  | 34 => ("SectionGardenModel", "definition", "[I", true)
  | 35 => ("SectionGardenModel", "aim", "[I", true)
  | 36 => ("SectionGardenModel", "aimAt", "[I", true)
  | 37 => ("SectionGardenModel", "aimOffset", "[I", true)
  | 38 => ("SectionGardenModel", "queue", "[I", true)
  | 39 => ("SectionGardenModel", "queued", "I", false)
  | 40 => ("SectionGardenModel", "isKept", "[Z", true)
  | 41 => ("SectionGardenModel", "by", "[I", true)
  | 42 => ("SectionGardenModel", "rank", "[I", true)
  | 43 => ("SectionGardenModel", "into", "[I", true)
  | 44 => ("SectionGardenModel", "may", "[Z", true)
  | 45 => ("SectionGardenModel", "alike", "[Z", true)
  | 46 => ("SectionGardenModel", "places", "[J", true)
  | 47 => ("SectionGardenModel", "begins", "[J", true)
  | 48 => ("SectionGardenModel", "ends", "[J", true)
  | 49 => ("SectionGardenModel", "times", "I", false)
  | 50 => ("SectionGardenModel", "veneerCount", "I", false)
  | 51 => ("SectionGardenModel", "veneerSection", "[I", true)
  | 52 => ("SectionGardenModel", "veneerRelocation", "[I", true)
  | _ => ("SectionGardenModel", "veneerOf", "[I", true)
def tyX10 : Nat → FieldType := fun k => match k with
  | 0 => .int
  | 1 => .int
  | 2 => .int
  | 3 => .array .int
  | 4 => .array .int
  | 5 => .array .int
  | 6 => .array .int
  | 7 => .array .int
  | 8 => .array .boolean
  | 9 => .array .int
  | 10 => .array .int
  | 11 => .array .int
  | 12 => .int
  | 13 => .int
  | 14 => .int
  | 15 => .array .int
  | 16 => .array .int
  | 17 => .array .int
  | 18 => .array .int
  | 19 => .array .int
  | 20 => .int
  | 21 => .array .int
  | 22 => .array .int
  | 23 => .array .int
  | 24 => .array .int
  | 25 => .array .int
  | 26 => .int
  | 27 => .array .int
  | 28 => .array .long
  | 29 => .boolean
  | 30 => .boolean
  | 31 => .int
  | 32 => .int
  | 33 => .array .boolean
  | 34 => .array .int
  | 35 => .array .int
  | 36 => .array .int
  | 37 => .array .int
  | 38 => .array .int
  | 39 => .int
  | 40 => .array .boolean
  | 41 => .array .int
  | 42 => .array .int
  | 43 => .array .int
  | 44 => .array .boolean
  | 45 => .array .boolean
  | 46 => .array .long
  | 47 => .array .long
  | 48 => .array .long
  | 49 => .int
  | 50 => .int
  | 51 => .array .int
  | 52 => .array .int
  | _ => .array .int
theorem nmX10 : ∀ a, a < 54 → ∀ b, b < 54 → a ≠ b → (TX10 a).2.1 ≠ (TX10 b).2.1 := by decide +kernel
theorem tyX10_ok : ∀ k, k < 54 → parseFieldDescriptor (TX10 k).2.2.1 = some (tyX10 k) := by decide +kernel
def RJx4a65c : String := "java/util/ArrayList"
def TJx4a65c : u_T := fun k => match k with
  | 0 => ("java/util/AbstractList", "modCount", "I", false)
  | 1 => ("java/util/ArrayList", "elementData", "[Ljava/lang/Object;", false)
  | _ => ("java/util/ArrayList", "size", "I", false)
def tyJx4a65c : Nat → FieldType := fun k => match k with
  | 0 => .int
  | 1 => .array (.object "java/lang/Object")
  | _ => .int
theorem nmJx4a65c : ∀ a, a < 3 → ∀ b, b < 3 → a ≠ b → (TJx4a65c a).2.1 ≠ (TJx4a65c b).2.1 := by decide +kernel
theorem tyJx4a65c_ok : ∀ k, k < 3 → parseFieldDescriptor (TJx4a65c k).2.2.1 = some (tyJx4a65c k) := by decide +kernel
def RL : String := "SectionGardenLaw"
def RX8 : String := "SectionGarden$Type"
def RJ9 : String := "java/lang/Math"
def RJxa1e45 : String := "java/util/AbstractCollection"
def RJxc12de : String := "java/util/AbstractList"
def RJ7 : String := "java/util/Arrays"
def RJ15 : String := "java/util/Objects"
def RJ8 : String := "jdk/internal/util/ArraysSupport"
def RJ3 : String := "jdk/internal/util/Preconditions"
abbrev cX0_init : ByteArray := prog_2_method_1_code
def yX0_init : MethodName := ⟨RX0, "<init>", "()V"⟩
abbrev cX0_find : ByteArray := prog_2_method_2_code
def yX0_find : MethodName := ⟨RX0, "find", "(Ljava/util/ArrayList;Z)V"⟩
abbrev cX0_findWhatMayFold : ByteArray := prog_2_method_3_code
def yX0_findWhatMayFold : MethodName := ⟨RX0, "findWhatMayFold", "(Ljava/util/ArrayList;)V"⟩
abbrev cX0_forbidWhatItTakesPlacesOf : ByteArray := prog_2_method_4_code
def yX0_forbidWhatItTakesPlacesOf : MethodName := ⟨RX0, "forbidWhatItTakesPlacesOf", "(LSectionGarden$Section;)V"⟩
abbrev cX0_joinKin : ByteArray := prog_2_method_5_code
def yX0_joinKin : MethodName := ⟨RX0, "joinKin", "(Ljava/util/ArrayList;)V"⟩
abbrev cX0_looksLike : ByteArray := prog_2_method_6_code
def yX0_looksLike : MethodName := ⟨RX0, "looksLike", "(LSectionGarden$Section;LSectionGarden$Section;)Z"⟩
abbrev cX0_relocationsLookLike : ByteArray := prog_2_method_7_code
def yX0_relocationsLookLike : MethodName := ⟨RX0, "relocationsLookLike", "(Ljava/util/ArrayList;Ljava/util/ArrayList;)Z"⟩
abbrev cX0_partKin : ByteArray := prog_2_method_8_code
def yX0_partKin : MethodName := ⟨RX0, "partKin", "(Ljava/util/ArrayList;)Z"⟩
abbrev cX0_firstOfTheSameKin : ByteArray := prog_2_method_9_code
def yX0_firstOfTheSameKin : MethodName := ⟨RX0, "firstOfTheSameKin", "(Ljava/util/ArrayList;ILSectionGarden$Section;)LSectionGarden$Section;"⟩
abbrev cX0_targetsAreKin : ByteArray := prog_2_method_10_code
def yX0_targetsAreKin : MethodName := ⟨RX0, "targetsAreKin", "(LSectionGarden$Section;LSectionGarden$Section;)Z"⟩
abbrev cX0_foldKin : ByteArray := prog_2_method_11_code
def yX0_foldKin : MethodName := ⟨RX0, "foldKin", "(Ljava/util/ArrayList;)V"⟩
abbrev cX1_init : ByteArray := prog_3_method_1_code
def yX1_init : MethodName := ⟨RX1, "<init>", "()V"⟩
abbrev cX1_find : ByteArray := prog_3_method_2_code
def yX1_find : MethodName := ⟨RX1, "find", "(LSectionGarden$Told;LSectionGarden$Names;)V"⟩
abbrev cX1_firstNowhere : ByteArray := prog_3_method_3_code
def yX1_firstNowhere : MethodName := ⟨RX1, "firstNowhere", "(Ljava/util/ArrayList;)I"⟩
abbrev cX1_firstIntoLost : ByteArray := prog_3_method_4_code
def yX1_firstIntoLost : MethodName := ⟨RX1, "firstIntoLost", "(Ljava/util/ArrayList;)I"⟩
abbrev cX1_begin : ByteArray := prog_3_method_5_code
def yX1_begin : MethodName := ⟨RX1, "begin", "(Ljava/util/ArrayList;)V"⟩
abbrev cX1_admit : ByteArray := prog_3_method_6_code
def yX1_admit : MethodName := ⟨RX1, "admit", "(LSectionGarden$Section;LSectionGarden$Section;)V"⟩
abbrev cX1_follow : ByteArray := prog_3_method_7_code
def yX1_follow : MethodName := ⟨RX1, "follow", "(LSectionGarden$Section;Ljava/util/ArrayList;)V"⟩
abbrev cX1_admitSet : ByteArray := prog_3_method_8_code
def yX1_admitSet : MethodName := ⟨RX1, "admitSet", "(ILSectionGarden$Section;Ljava/util/ArrayList;)V"⟩
abbrev cX1_admitGroup : ByteArray := prog_3_method_9_code
def yX1_admitGroup : MethodName := ⟨RX1, "admitGroup", "(LSectionGarden$Section;Ljava/util/ArrayList;)V"⟩
abbrev cX2_init : ByteArray := prog_4_method_1_code
def yX2_init : MethodName := ⟨RX2, "<init>", "()V"⟩
abbrev cX2_resolve : ByteArray := prog_4_method_2_code
def yX2_resolve : MethodName := ⟨RX2, "resolve", "(LSectionGarden$Told;)I"⟩
abbrev cX2_definitionOf : ByteArray := prog_4_method_3_code
def yX2_definitionOf : MethodName := ⟨RX2, "definitionOf", "(I)LSectionGarden$Symbol;"⟩
abbrev cX2_firstRootNowhere : ByteArray := prog_4_method_4_code
def yX2_firstRootNowhere : MethodName := ⟨RX2, "firstRootNowhere", "(LSectionGarden$Told;)I"⟩
abbrev cX2_findLost : ByteArray := prog_4_method_5_code
def yX2_findLost : MethodName := ⟨RX2, "findLost", "(Ljava/util/ArrayList;)V"⟩
abbrev cX2_hasGroup : ByteArray := prog_4_method_6_code
def yX2_hasGroup : MethodName := ⟨RX2, "hasGroup", "(LSectionGarden$Section;)Z"⟩
abbrev cX2_findDefinitions : ByteArray := prog_4_method_7_code
def yX2_findDefinitions : MethodName := ⟨RX2, "findDefinitions", "(Ljava/util/ArrayList;)I"⟩
abbrev cX2_takeDefinition : ByteArray := prog_4_method_8_code
def yX2_takeDefinition : MethodName := ⟨RX2, "takeDefinition", "(LSectionGarden$Symbol;)Z"⟩
abbrev cX2_findTargets : ByteArray := prog_4_method_9_code
def yX2_findTargets : MethodName := ⟨RX2, "findTargets", "(Ljava/util/ArrayList;)V"⟩
abbrev cX3_init : ByteArray := prog_5_method_1_code
def yX3_init : MethodName := ⟨RX3, "<init>", "()V"⟩
abbrev cX3_run : ByteArray := prog_5_method_2_code
def yX3_run : MethodName := ⟨RX3, "run", "(LSectionGarden$Told;)V"⟩
abbrev cX3_firstKindOverAnother : ByteArray := prog_5_method_3_code
def yX3_firstKindOverAnother : MethodName := ⟨RX3, "firstKindOverAnother", "()I"⟩
abbrev cX3_firstMisfit : ByteArray := prog_5_method_4_code
def yX3_firstMisfit : MethodName := ⟨RX3, "firstMisfit", "(Ljava/util/ArrayList;)I"⟩
abbrev cX3_targetValue : ByteArray := prog_5_method_5_code
def yX3_targetValue : MethodName := ⟨RX3, "targetValue", "(LSectionGarden$Symbol;)J"⟩
abbrev cX3_imageByte : ByteArray := prog_5_method_6_code
def yX3_imageByte : MethodName := ⟨RX3, "imageByte", "(LSectionGarden$Section;J)I"⟩
abbrev cX3_dropVeneers : ByteArray := prog_5_method_7_code
def yX3_dropVeneers : MethodName := ⟨RX3, "dropVeneers", "(LSectionGarden$Told;)V"⟩
abbrev cX3_layOut : ByteArray := prog_5_method_8_code
def yX3_layOut : MethodName := ⟨RX3, "layOut", "(LSectionGarden$Told;)V"⟩
abbrev cX3_layOutKind : ByteArray := prog_5_method_9_code
def yX3_layOutKind : MethodName := ⟨RX3, "layOutKind", "(IJLjava/util/ArrayList;)J"⟩
abbrev cX3_findSetEdges : ByteArray := prog_5_method_10_code
def yX3_findSetEdges : MethodName := ⟨RX3, "findSetEdges", "(Ljava/util/ArrayList;)V"⟩
abbrev cX3_widenSet : ByteArray := prog_5_method_11_code
def yX3_widenSet : MethodName := ⟨RX3, "widenSet", "(IJJ)V"⟩
abbrev cX3_addVeneers : ByteArray := prog_5_method_12_code
def yX3_addVeneers : MethodName := ⟨RX3, "addVeneers", "(Ljava/util/ArrayList;)Z"⟩
abbrev cX3_addVeneersOf : ByteArray := prog_5_method_13_code
def yX3_addVeneersOf : MethodName := ⟨RX3, "addVeneersOf", "(LSectionGarden$Section;)V"⟩
abbrev cX3_veneerFor : ByteArray := prog_5_method_14_code
def yX3_veneerFor : MethodName := ⟨RX3, "veneerFor", "(LSectionGarden$Section;LSectionGarden$Relocation;)I"⟩
abbrev cX3_amountWritten : ByteArray := prog_5_method_15_code
def yX3_amountWritten : MethodName := ⟨RX3, "amountWritten", "(LSectionGarden$Relocation;)J"⟩
abbrev cX3_sectionByte : ByteArray := prog_5_method_16_code
def yX3_sectionByte : MethodName := ⟨RX3, "sectionByte", "(LSectionGarden$Section;I)I"⟩
abbrev cX3_veneerByte : ByteArray := prog_5_method_17_code
def yX3_veneerByte : MethodName := ⟨RX3, "veneerByte", "(LSectionGarden$Section;II)I"⟩
abbrev cX3_byteOf : ByteArray := prog_5_method_18_code
def yX3_byteOf : MethodName := ⟨RX3, "byteOf", "(JI)I"⟩
abbrev cX4_init : ByteArray := prog_6_method_1_code
def yX4_init : MethodName := ⟨RX4, "<init>", "(LSectionGarden$Section;ILSectionGarden$Type;LSectionGarden$Symbol;I)V"⟩
abbrev cX4_ownPlace : ByteArray := prog_6_method_2_code
def yX4_ownPlace : MethodName := ⟨RX4, "ownPlace", "()J"⟩
abbrev cX4_covers : ByteArray := prog_6_method_3_code
def yX4_covers : MethodName := ⟨RX4, "covers", "(I)Z"⟩
abbrev cX4_isWrittenLike : ByteArray := prog_6_method_4_code
def yX4_isWrittenLike : MethodName := ⟨RX4, "isWrittenLike", "(LSectionGarden$Relocation;)Z"⟩
abbrev cX5_init : ByteArray := prog_7_method_1_code
def yX5_init : MethodName := ⟨RX5, "<init>", "(IIIIII)V"⟩
abbrev cX5_byteAt : ByteArray := prog_7_method_2_code
def yX5_byteAt : MethodName := ⟨RX5, "byteAt", "(I)I"⟩
abbrev cX5_setByte : ByteArray := prog_7_method_3_code
def yX5_setByte : MethodName := ⟨RX5, "setByte", "(II)V"⟩
abbrev cX5_seededBytes : ByteArray := prog_7_method_4_code
def yX5_seededBytes : MethodName := ⟨RX5, "seededBytes", "()[B"⟩
abbrev cX5_hasBytesOf : ByteArray := prog_7_method_5_code
def yX5_hasBytesOf : MethodName := ⟨RX5, "hasBytesOf", "(LSectionGarden$Section;)Z"⟩
abbrev cX5_exchangeMark : ByteArray := prog_7_method_6_code
def yX5_exchangeMark : MethodName := ⟨RX5, "exchangeMark", "(II)I"⟩
abbrev cX5_isKept : ByteArray := prog_7_method_7_code
def yX5_isKept : MethodName := ⟨RX5, "isKept", "()Z"⟩
abbrev cX5_isPlaced : ByteArray := prog_7_method_8_code
def yX5_isPlaced : MethodName := ⟨RX5, "isPlaced", "()Z"⟩
abbrev cX5_finalPlace : ByteArray := prog_7_method_9_code
def yX5_finalPlace : MethodName := ⟨RX5, "finalPlace", "()J"⟩
abbrev cX5_endWithoutVeneers : ByteArray := prog_7_method_10_code
def yX5_endWithoutVeneers : MethodName := ⟨RX5, "endWithoutVeneers", "()J"⟩
abbrev cX5_placeOfVeneer : ByteArray := prog_7_method_11_code
def yX5_placeOfVeneer : MethodName := ⟨RX5, "placeOfVeneer", "(I)J"⟩
abbrev cX5_endWithVeneers : ByteArray := prog_7_method_12_code
def yX5_endWithVeneers : MethodName := ⟨RX5, "endWithVeneers", "()J"⟩
abbrev cX5_alignedUp : ByteArray := prog_7_method_13_code
def yX5_alignedUp : MethodName := ⟨RX5, "alignedUp", "(JI)J"⟩
abbrev cX6_init : ByteArray := prog_8_method_1_code
def yX6_init : MethodName := ⟨RX6, "<init>", "(IILSectionGarden$Section;III)V"⟩
abbrev cX6_isDefinition : ByteArray := prog_8_method_2_code
def yX6_isDefinition : MethodName := ⟨RX6, "isDefinition", "()Z"⟩
abbrev cX6_targetSet : ByteArray := prog_8_method_3_code
def yX6_targetSet : MethodName := ⟨RX6, "targetSet", "()I"⟩
abbrev cX6_isNowhere : ByteArray := prog_8_method_4_code
def yX6_isNowhere : MethodName := ⟨RX6, "isNowhere", "()Z"⟩
abbrev cX6_aimAt : ByteArray := prog_8_method_5_code
def yX6_aimAt : MethodName := ⟨RX6, "aimAt", "(LSectionGarden$Symbol;)V"⟩
abbrev cX6_hasSetAndOffsetOf : ByteArray := prog_8_method_6_code
def yX6_hasSetAndOffsetOf : MethodName := ⟨RX6, "hasSetAndOffsetOf", "(LSectionGarden$Symbol;)Z"⟩
abbrev cX6_hasTargetOf : ByteArray := prog_8_method_7_code
def yX6_hasTargetOf : MethodName := ⟨RX6, "hasTargetOf", "(LSectionGarden$Symbol;)Z"⟩
abbrev cX7_init : ByteArray := prog_9_method_1_code
def yX7_init : MethodName := ⟨RX7, "<init>", "()V"⟩
abbrev cX7_hasObject : ByteArray := prog_9_method_2_code
def yX7_hasObject : MethodName := ⟨RX7, "hasObject", "(I)Z"⟩
abbrev cX7_sectionAt : ByteArray := prog_9_method_3_code
def yX7_sectionAt : MethodName := ⟨RX7, "sectionAt", "(I)LSectionGarden$Section;"⟩
abbrev cX7_symbolAt : ByteArray := prog_9_method_4_code
def yX7_symbolAt : MethodName := ⟨RX7, "symbolAt", "(I)LSectionGarden$Symbol;"⟩
abbrev cX7_addRoot : ByteArray := prog_9_method_5_code
def yX7_addRoot : MethodName := ⟨RX7, "addRoot", "(I)Z"⟩
abbrev cX8_fits : ByteArray := prog_10_method_4_code
def yX8_fits : MethodName := ⟨RX8, "fits", "(J)Z"⟩
abbrev cX9_init : ByteArray := prog_1_method_1_code
def yX9_init : MethodName := ⟨RX9, "<init>", "()V"⟩
abbrev cX9_object : ByteArray := prog_1_method_2_code
def yX9_object : MethodName := ⟨RX9, "object", "()I"⟩
abbrev cX9_section : ByteArray := prog_1_method_3_code
def yX9_section : MethodName := ⟨RX9, "section", "(IIIII)I"⟩
abbrev cX9_patch : ByteArray := prog_1_method_4_code
def yX9_patch : MethodName := ⟨RX9, "patch", "(III)I"⟩
abbrev cX9_mark : ByteArray := prog_1_method_5_code
def yX9_mark : MethodName := ⟨RX9, "mark", "(III)I"⟩
abbrev cX9_symbol : ByteArray := prog_1_method_6_code
def yX9_symbol : MethodName := ⟨RX9, "symbol", "(IIIII)I"⟩
abbrev cX9_relocation : ByteArray := prog_1_method_7_code
def yX9_relocation : MethodName := ⟨RX9, "relocation", "(IIIII)I"⟩
abbrev cX9_root : ByteArray := prog_1_method_8_code
def yX9_root : MethodName := ⟨RX9, "root", "(I)I"⟩
abbrev cX9_base : ByteArray := prog_1_method_9_code
def yX9_base : MethodName := ⟨RX9, "base", "(II)I"⟩
abbrev cX9_link : ByteArray := prog_1_method_10_code
def yX9_link : MethodName := ⟨RX9, "link", "(Z)I"⟩
abbrev cX9_fault : ByteArray := prog_1_method_11_code
def yX9_fault : MethodName := ⟨RX9, "fault", "()I"⟩
abbrev cX9_kept : ByteArray := prog_1_method_12_code
def yX9_kept : MethodName := ⟨RX9, "kept", "(II)I"⟩
abbrev cX9_place : ByteArray := prog_1_method_13_code
def yX9_place : MethodName := ⟨RX9, "place", "(I)J"⟩
abbrev cX9_value : ByteArray := prog_1_method_14_code
def yX9_value : MethodName := ⟨RX9, "value", "(I)J"⟩
abbrev cX9_octet : ByteArray := prog_1_method_15_code
def yX9_octet : MethodName := ⟨RX9, "octet", "(J)I"⟩
abbrev cX9_range : ByteArray := prog_1_method_16_code
def yX9_range : MethodName := ⟨RX9, "range", "(IZ)J"⟩
abbrev cX9_veneers : ByteArray := prog_1_method_17_code
def yX9_veneers : MethodName := ⟨RX9, "veneers", "(I)I"⟩
abbrev cX9_count : ByteArray := prog_1_method_18_code
def yX9_count : MethodName := ⟨RX9, "count", "(I)I"⟩
abbrev cX9_forgetLink : ByteArray := prog_1_method_19_code
def yX9_forgetLink : MethodName := ⟨RX9, "forgetLink", "()V"⟩
abbrev cX9_faultBeforePlacing : ByteArray := prog_1_method_20_code
def yX9_faultBeforePlacing : MethodName := ⟨RX9, "faultBeforePlacing", "()I"⟩
abbrev cX9_faultOfPlaces : ByteArray := prog_1_method_21_code
def yX9_faultOfPlaces : MethodName := ⟨RX9, "faultOfPlaces", "()I"⟩
abbrev cX9_isWithin : ByteArray := prog_1_method_22_code
def yX9_isWithin : MethodName := ⟨RX9, "isWithin", "(III)Z"⟩
abbrev cX9_isMark : ByteArray := prog_1_method_23_code
def yX9_isMark : MethodName := ⟨RX9, "isMark", "(II)Z"⟩
abbrev cX9_isSortFor : ByteArray := prog_1_method_24_code
def yX9_isSortFor : MethodName := ⟨RX9, "isSortFor", "(II)Z"⟩
abbrev cX9_typeAt : ByteArray := prog_1_method_25_code
def yX9_typeAt : MethodName := ⟨RX9, "typeAt", "(I)LSectionGarden$Type;"⟩
abbrev cX9_numberOf : ByteArray := prog_1_method_26_code
def yX9_numberOf : MethodName := ⟨RX9, "numberOf", "(LSectionGarden$Section;)I"⟩
abbrev cX10_thrown : ByteArray := prog_12_method_1_code
def yX10_thrown : MethodName := ⟨RX10, "thrown", "()I"⟩
abbrev cX10_init : ByteArray := prog_12_method_2_code
def yX10_init : MethodName := ⟨RX10, "<init>", "()V"⟩
abbrev cX10_in : ByteArray := prog_12_method_3_code
def yX10_in : MethodName := ⟨RX10, "in", "(JJJ)Z"⟩
abbrev cX10_told : ByteArray := prog_12_method_4_code
def yX10_told : MethodName := ⟨RX10, "told", "()V"⟩
abbrev cX10_object : ByteArray := prog_12_method_5_code
def yX10_object : MethodName := ⟨RX10, "object", "()I"⟩
abbrev cX10_section : ByteArray := prog_12_method_6_code
def yX10_section : MethodName := ⟨RX10, "section", "(IIIII)I"⟩
abbrev cX10_hasBytes : ByteArray := prog_12_method_7_code
def yX10_hasBytes : MethodName := ⟨RX10, "hasBytes", "(I)Z"⟩
abbrev cX10_patch : ByteArray := prog_12_method_8_code
def yX10_patch : MethodName := ⟨RX10, "patch", "(III)I"⟩
abbrev cX10_mark : ByteArray := prog_12_method_9_code
def yX10_mark : MethodName := ⟨RX10, "mark", "(III)I"⟩
abbrev cX10_symbol : ByteArray := prog_12_method_10_code
def yX10_symbol : MethodName := ⟨RX10, "symbol", "(IIIII)I"⟩
abbrev cX10_wide : ByteArray := prog_12_method_11_code
def yX10_wide : MethodName := ⟨RX10, "wide", "(I)I"⟩
abbrev cX10_relocation : ByteArray := prog_12_method_12_code
def yX10_relocation : MethodName := ⟨RX10, "relocation", "(IIIII)I"⟩
abbrev cX10_root : ByteArray := prog_12_method_13_code
def yX10_root : MethodName := ⟨RX10, "root", "(I)I"⟩
abbrev cX10_base : ByteArray := prog_12_method_14_code
def yX10_base : MethodName := ⟨RX10, "base", "(II)I"⟩
abbrev cX10_names : ByteArray := prog_12_method_15_code
def yX10_names : MethodName := ⟨RX10, "names", "()I"⟩
abbrev cX10_keeps : ByteArray := prog_12_method_16_code
def yX10_keeps : MethodName := ⟨RX10, "keeps", "(II)V"⟩
abbrev cX10_keepAll : ByteArray := prog_12_method_17_code
def yX10_keepAll : MethodName := ⟨RX10, "keepAll", "()V"⟩
abbrev cX10_comesBy : ByteArray := prog_12_method_18_code
def yX10_comesBy : MethodName := ⟨RX10, "comesBy", "(II)V"⟩
abbrev cX10_relocationsOf : ByteArray := prog_12_method_19_code
def yX10_relocationsOf : MethodName := ⟨RX10, "relocationsOf", "(I)I"⟩
abbrev cX10_nth : ByteArray := prog_12_method_20_code
def yX10_nth : MethodName := ⟨RX10, "nth", "(II)I"⟩
abbrev cX10_startsAlike : ByteArray := prog_12_method_21_code
def yX10_startsAlike : MethodName := ⟨RX10, "startsAlike", "(II)Z"⟩
abbrev cX10_staysAlike : ByteArray := prog_12_method_22_code
def yX10_staysAlike : MethodName := ⟨RX10, "staysAlike", "(II)Z"⟩
abbrev cX10_foldAll : ByteArray := prog_12_method_23_code
def yX10_foldAll : MethodName := ⟨RX10, "foldAll", "(Z)V"⟩
abbrev cX10_isPlaced : ByteArray := prog_12_method_24_code
def yX10_isPlaced : MethodName := ⟨RX10, "isPlaced", "(I)Z"⟩
abbrev cX10_veneersOf : ByteArray := prog_12_method_25_code
def yX10_veneersOf : MethodName := ⟨RX10, "veneersOf", "(I)I"⟩
abbrev cX10_up : ByteArray := prog_12_method_26_code
def yX10_up : MethodName := ⟨RX10, "up", "(JJ)J"⟩
abbrev cX10_placeAll : ByteArray := prog_12_method_27_code
def yX10_placeAll : MethodName := ⟨RX10, "placeAll", "()V"⟩
abbrev cX10_veneerPlace : ByteArray := prog_12_method_28_code
def yX10_veneerPlace : MethodName := ⟨RX10, "veneerPlace", "(I)J"⟩
abbrev cX10_placeOf : ByteArray := prog_12_method_29_code
def yX10_placeOf : MethodName := ⟨RX10, "placeOf", "(I)J"⟩
abbrev cX10_valueOf : ByteArray := prog_12_method_30_code
def yX10_valueOf : MethodName := ⟨RX10, "valueOf", "(I)J"⟩
abbrev cX10_v : ByteArray := prog_12_method_31_code
def yX10_v : MethodName := ⟨RX10, "v", "(I)J"⟩
abbrev cX10_isBranchNear : ByteArray := prog_12_method_32_code
def yX10_isBranchNear : MethodName := ⟨RX10, "isBranchNear", "(J)Z"⟩
abbrev cX10_sameAim : ByteArray := prog_12_method_33_code
def yX10_sameAim : MethodName := ⟨RX10, "sameAim", "(II)Z"⟩
abbrev cX10_veneerAll : ByteArray := prog_12_method_34_code
def yX10_veneerAll : MethodName := ⟨RX10, "veneerAll", "()V"⟩
abbrev cX10_bad : ByteArray := prog_12_method_35_code
def yX10_bad : MethodName := ⟨RX10, "bad", "(II)V"⟩
abbrev cX10_link : ByteArray := prog_12_method_36_code
def yX10_link : MethodName := ⟨RX10, "link", "(Z)I"⟩
abbrev cX10_hasPlaced : ByteArray := prog_12_method_37_code
def yX10_hasPlaced : MethodName := ⟨RX10, "hasPlaced", "(I)Z"⟩
abbrev cX10_written : ByteArray := prog_12_method_38_code
def yX10_written : MethodName := ⟨RX10, "written", "(I)J"⟩
abbrev cX10_fits : ByteArray := prog_12_method_39_code
def yX10_fits : MethodName := ⟨RX10, "fits", "(I)Z"⟩
abbrev cX10_fault : ByteArray := prog_12_method_40_code
def yX10_fault : MethodName := ⟨RX10, "fault", "()I"⟩
abbrev cX10_kept : ByteArray := prog_12_method_41_code
def yX10_kept : MethodName := ⟨RX10, "kept", "(II)I"⟩
abbrev cX10_place : ByteArray := prog_12_method_42_code
def yX10_place : MethodName := ⟨RX10, "place", "(I)J"⟩
abbrev cX10_value : ByteArray := prog_12_method_43_code
def yX10_value : MethodName := ⟨RX10, "value", "(I)J"⟩
abbrev cX10_octet : ByteArray := prog_12_method_44_code
def yX10_octet : MethodName := ⟨RX10, "octet", "(J)I"⟩
abbrev cX10_byteOf : ByteArray := prog_12_method_45_code
def yX10_byteOf : MethodName := ⟨RX10, "byteOf", "(II)I"⟩
abbrev cX10_range : ByteArray := prog_12_method_46_code
def yX10_range : MethodName := ⟨RX10, "range", "(IZ)J"⟩
abbrev cX10_veneers : ByteArray := prog_12_method_47_code
def yX10_veneers : MethodName := ⟨RX10, "veneers", "(I)I"⟩
abbrev cX10_found : ByteArray := prog_12_method_48_code
def yX10_found : MethodName := ⟨RX10, "found", "(Z)I"⟩
abbrev cX10_count : ByteArray := prog_12_method_49_code
def yX10_count : MethodName := ⟨RX10, "count", "(I)I"⟩
abbrev cJ9_max_7cf53 : ByteArray := prog_20_method_65_code
def yJ9_max_7cf53 : MethodName := ⟨RJ9, "max", "(II)I"⟩
abbrev cJ9_max_f86c9 : ByteArray := prog_20_method_66_code
def yJ9_max_f86c9 : MethodName := ⟨RJ9, "max", "(JJ)J"⟩
abbrev cJ9_min_7cf53 : ByteArray := prog_20_method_69_code
def yJ9_min_7cf53 : MethodName := ⟨RJ9, "min", "(II)I"⟩
abbrev cJ9_min_f86c9 : ByteArray := prog_20_method_70_code
def yJ9_min_f86c9 : MethodName := ⟨RJ9, "min", "(JJ)J"⟩
abbrev cJxa1e45_init_da8c8 : ByteArray := prog_25_method_1_code
def yJxa1e45_init_da8c8 : MethodName := ⟨RJxa1e45, "<init>", "()V"⟩
abbrev cJxc12de_init_da8c8 : ByteArray := prog_26_method_1_code
def yJxc12de_init_da8c8 : MethodName := ⟨RJxc12de, "<init>", "()V"⟩
abbrev cJx4a65c_init_da8c8 : ByteArray := prog_27_method_2_code
def yJx4a65c_init_da8c8 : MethodName := ⟨RJx4a65c, "<init>", "()V"⟩
abbrev cJx4a65c_grow_92f84 : ByteArray := prog_27_method_6_code
def yJx4a65c_grow_92f84 : MethodName := ⟨RJx4a65c, "grow", "(I)[Ljava/lang/Object;"⟩
abbrev cJx4a65c_grow_d5877 : ByteArray := prog_27_method_7_code
def yJx4a65c_grow_d5877 : MethodName := ⟨RJx4a65c, "grow", "()[Ljava/lang/Object;"⟩
abbrev cJx4a65c_size_8abf5 : ByteArray := prog_27_method_8_code
def yJx4a65c_size_8abf5 : MethodName := ⟨RJx4a65c, "size", "()I"⟩
abbrev cJx4a65c_elementData_915e3 : ByteArray := prog_27_method_18_code
def yJx4a65c_elementData_915e3 : MethodName := ⟨RJx4a65c, "elementData", "(I)Ljava/lang/Object;"⟩
abbrev cJx4a65c_get_915e3 : ByteArray := prog_27_method_20_code
def yJx4a65c_get_915e3 : MethodName := ⟨RJx4a65c, "get", "(I)Ljava/lang/Object;"⟩
abbrev cJx4a65c_add_72be8 : ByteArray := prog_27_method_24_code
def yJx4a65c_add_72be8 : MethodName := ⟨RJx4a65c, "add", "(Ljava/lang/Object;[Ljava/lang/Object;I)V"⟩
abbrev cJx4a65c_add_9ea2d : ByteArray := prog_27_method_25_code
def yJx4a65c_add_9ea2d : MethodName := ⟨RJx4a65c, "add", "(Ljava/lang/Object;)Z"⟩
abbrev cJx4a65c_clear_da8c8 : ByteArray := prog_27_method_40_code
def yJx4a65c_clear_da8c8 : MethodName := ⟨RJx4a65c, "clear", "()V"⟩
abbrev cJ7_fill_d0a16 : ByteArray := prog_28_method_101_code
def yJ7_fill_d0a16 : MethodName := ⟨RJ7, "fill", "([JJ)V"⟩
abbrev cJ7_fill_53178 : ByteArray := prog_28_method_103_code
def yJ7_fill_53178 : MethodName := ⟨RJ7, "fill", "([II)V"⟩
abbrev cJ7_copyOf_1904c : ByteArray := prog_28_method_119_code
def yJ7_copyOf_1904c : MethodName := ⟨RJ7, "copyOf", "([Ljava/lang/Object;I)[Ljava/lang/Object;"⟩
abbrev cJ7_copyOf_6403c : ByteArray := prog_28_method_120_code
def yJ7_copyOf_6403c : MethodName := ⟨RJ7, "copyOf", "([Ljava/lang/Object;ILjava/lang/Class;)[Ljava/lang/Object;"⟩
abbrev cJ15_checkIndex_7cf53 : ByteArray := prog_31_method_17_code
def yJ15_checkIndex_7cf53 : MethodName := ⟨RJ15, "checkIndex", "(II)I"⟩
abbrev cJ8_newLength_cabcc : ByteArray := prog_34_method_27_code
def yJ8_newLength_cabcc : MethodName := ⟨RJ8, "newLength", "(III)I"⟩
abbrev cJ8_hugeLength_7cf53 : ByteArray := prog_34_method_28_code
def yJ8_hugeLength_7cf53 : MethodName := ⟨RJ8, "hugeLength", "(II)I"⟩
abbrev cJ3_checkIndex_8e157 : ByteArray := prog_35_method_11_code
def yJ3_checkIndex_8e157 : MethodName := ⟨RJ3, "checkIndex", "(IILjava/util/function/BiFunction;)I"⟩
abbrev cL_place : ByteArray := method_3_code
def yL_place : MethodName := ⟨RL, "place", "(LSectionGarden;I[J)I"⟩
abbrev cL_value : ByteArray := method_4_code
def yL_value : MethodName := ⟨RL, "value", "(LSectionGarden;I[J)I"⟩
abbrev cL_range : ByteArray := method_5_code
def yL_range : MethodName := ⟨RL, "range", "(LSectionGarden;IZ[J)I"⟩
abbrev cL_law : ByteArray := code
def yL_law : MethodName := ⟨RL, "law", "([I)Z"⟩
end
section
theorem dX0_init_0 : decode cX0_init 0 = .ok (.aload_n 0, 1) := by decide +kernel
theorem dX0_init_1 : decode cX0_init 1 = .ok (.invokespecial 3, 3) := by decide +kernel
theorem dX0_init_4 : decode cX0_init 4 = .ok (.return_, 1) := by decide +kernel
theorem dX0_find_0 : decode cX0_find 0 = .ok (.aload_n 0, 1) := by decide +kernel
theorem dX0_find_1 : decode cX0_find 1 = .ok (.iconst 0, 1) := by decide +kernel
theorem dX0_find_2 : decode cX0_find 2 = .ok (.putfield 9, 3) := by decide +kernel
theorem dX0_find_5 : decode cX0_find 5 = .ok (.iconst 0, 1) := by decide +kernel
theorem dX0_find_6 : decode cX0_find 6 = .ok (.istore_n 3, 1) := by decide +kernel
theorem dX0_find_7 : decode cX0_find 7 = .ok (.iload_n 3, 1) := by decide +kernel
theorem dX0_find_8 : decode cX0_find 8 = .ok (.aload_n 1, 1) := by decide +kernel
theorem dX0_find_9 : decode cX0_find 9 = .ok (.invokevirtual 15, 3) := by decide +kernel
theorem dX0_find_12 : decode cX0_find 12 = .ok (.if_icmp .ge 21, 3) := by decide +kernel
theorem dX0_find_15 : decode cX0_find 15 = .ok (.aload_n 1, 1) := by decide +kernel
theorem dX0_find_16 : decode cX0_find 16 = .ok (.iload_n 3, 1) := by decide +kernel
theorem dX0_find_17 : decode cX0_find 17 = .ok (.invokevirtual 21, 3) := by decide +kernel
theorem dX0_find_20 : decode cX0_find 20 = .ok (.checkcast 25, 3) := by decide +kernel
theorem dX0_find_23 : decode cX0_find 23 = .ok (.aconst_null, 1) := by decide +kernel
theorem dX0_find_24 : decode cX0_find 24 = .ok (.putfield 27, 3) := by decide +kernel
theorem dX0_find_27 : decode cX0_find 27 = .ok (.iinc 3 1, 3) := by decide +kernel
theorem dX0_find_30 : decode cX0_find 30 = .ok (.goto (-23), 3) := by decide +kernel
theorem dX0_find_33 : decode cX0_find 33 = .ok (.iload_n 2, 1) := by decide +kernel
theorem dX0_find_34 : decode cX0_find 34 = .ok (.ifCond .ne 4, 3) := by decide +kernel
theorem dX0_find_37 : decode cX0_find 37 = .ok (.return_, 1) := by decide +kernel
theorem dX0_find_38 : decode cX0_find 38 = .ok (.aload_n 0, 1) := by decide +kernel
theorem dX0_find_39 : decode cX0_find 39 = .ok (.aload_n 1, 1) := by decide +kernel
theorem dX0_find_40 : decode cX0_find 40 = .ok (.invokevirtual 31, 3) := by decide +kernel
theorem dX0_find_43 : decode cX0_find 43 = .ok (.aload_n 0, 1) := by decide +kernel
theorem dX0_find_44 : decode cX0_find 44 = .ok (.aload_n 1, 1) := by decide +kernel
theorem dX0_find_45 : decode cX0_find 45 = .ok (.invokevirtual 35, 3) := by decide +kernel
theorem dX0_find_48 : decode cX0_find 48 = .ok (.iconst 1, 1) := by decide +kernel
theorem dX0_find_49 : decode cX0_find 49 = .ok (.istore_n 3, 1) := by decide +kernel
theorem dX0_find_50 : decode cX0_find 50 = .ok (.iconst 0, 1) := by decide +kernel
theorem dX0_find_51 : decode cX0_find 51 = .ok (.istore 4, 2) := by decide +kernel
theorem dX0_find_53 : decode cX0_find 53 = .ok (.iload_n 3, 1) := by decide +kernel
theorem dX0_find_54 : decode cX0_find 54 = .ok (.ifCond .eq 22, 3) := by decide +kernel
theorem dX0_find_57 : decode cX0_find 57 = .ok (.iload 4, 2) := by decide +kernel
theorem dX0_find_59 : decode cX0_find 59 = .ok (.bipush 60, 2) := by decide +kernel
theorem dX0_find_61 : decode cX0_find 61 = .ok (.if_icmp .gt 15, 3) := by decide +kernel
theorem dX0_find_64 : decode cX0_find 64 = .ok (.aload_n 0, 1) := by decide +kernel
theorem dX0_find_65 : decode cX0_find 65 = .ok (.aload_n 1, 1) := by decide +kernel
theorem dX0_find_66 : decode cX0_find 66 = .ok (.invokevirtual 38, 3) := by decide +kernel
theorem dX0_find_69 : decode cX0_find 69 = .ok (.istore_n 3, 1) := by decide +kernel
theorem dX0_find_70 : decode cX0_find 70 = .ok (.iinc 4 1, 3) := by decide +kernel
theorem dX0_find_73 : decode cX0_find 73 = .ok (.goto (-20), 3) := by decide +kernel
theorem dX0_find_76 : decode cX0_find 76 = .ok (.aload_n 0, 1) := by decide +kernel
theorem dX0_find_77 : decode cX0_find 77 = .ok (.aload_n 1, 1) := by decide +kernel
theorem dX0_find_78 : decode cX0_find 78 = .ok (.invokevirtual 42, 3) := by decide +kernel
theorem dX0_find_81 : decode cX0_find 81 = .ok (.return_, 1) := by decide +kernel
theorem dX0_findWhatMayFold_0 : decode cX0_findWhatMayFold 0 = .ok (.iconst 0, 1) := by decide +kernel
theorem dX0_findWhatMayFold_1 : decode cX0_findWhatMayFold 1 = .ok (.istore_n 2, 1) := by decide +kernel
theorem dX0_findWhatMayFold_2 : decode cX0_findWhatMayFold 2 = .ok (.iload_n 2, 1) := by decide +kernel
theorem dX0_findWhatMayFold_3 : decode cX0_findWhatMayFold 3 = .ok (.aload_n 1, 1) := by decide +kernel
theorem dX0_findWhatMayFold_4 : decode cX0_findWhatMayFold 4 = .ok (.invokevirtual 15, 3) := by decide +kernel
theorem dX0_findWhatMayFold_7 : decode cX0_findWhatMayFold 7 = .ok (.if_icmp .ge 76, 3) := by decide +kernel
theorem dX0_findWhatMayFold_10 : decode cX0_findWhatMayFold 10 = .ok (.aload_n 1, 1) := by decide +kernel
theorem dX0_findWhatMayFold_11 : decode cX0_findWhatMayFold 11 = .ok (.iload_n 2, 1) := by decide +kernel
theorem dX0_findWhatMayFold_12 : decode cX0_findWhatMayFold 12 = .ok (.invokevirtual 21, 3) := by decide +kernel
theorem dX0_findWhatMayFold_15 : decode cX0_findWhatMayFold 15 = .ok (.checkcast 25, 3) := by decide +kernel
theorem dX0_findWhatMayFold_18 : decode cX0_findWhatMayFold 18 = .ok (.astore_n 3, 1) := by decide +kernel
theorem dX0_findWhatMayFold_19 : decode cX0_findWhatMayFold 19 = .ok (.aload_n 3, 1) := by decide +kernel
theorem dX0_findWhatMayFold_20 : decode cX0_findWhatMayFold 20 = .ok (.getfield 45, 3) := by decide +kernel
theorem dX0_findWhatMayFold_23 : decode cX0_findWhatMayFold 23 = .ok (.ifCond .eq 11, 3) := by decide +kernel
theorem dX0_findWhatMayFold_26 : decode cX0_findWhatMayFold 26 = .ok (.aload_n 3, 1) := by decide +kernel
theorem dX0_findWhatMayFold_27 : decode cX0_findWhatMayFold 27 = .ok (.getfield 45, 3) := by decide +kernel
theorem dX0_findWhatMayFold_30 : decode cX0_findWhatMayFold 30 = .ok (.iconst 1, 1) := by decide +kernel
theorem dX0_findWhatMayFold_31 : decode cX0_findWhatMayFold 31 = .ok (.if_icmp .ne 7, 3) := by decide +kernel
theorem dX0_findWhatMayFold_34 : decode cX0_findWhatMayFold 34 = .ok (.iconst 1, 1) := by decide +kernel
theorem dX0_findWhatMayFold_35 : decode cX0_findWhatMayFold 35 = .ok (.goto 4, 3) := by decide +kernel
theorem dX0_findWhatMayFold_38 : decode cX0_findWhatMayFold 38 = .ok (.iconst 0, 1) := by decide +kernel
theorem dX0_findWhatMayFold_39 : decode cX0_findWhatMayFold 39 = .ok (.istore 4, 2) := by decide +kernel
theorem dX0_findWhatMayFold_41 : decode cX0_findWhatMayFold 41 = .ok (.aload_n 3, 1) := by decide +kernel
theorem dX0_findWhatMayFold_42 : decode cX0_findWhatMayFold 42 = .ok (.aload_n 3, 1) := by decide +kernel
theorem dX0_findWhatMayFold_43 : decode cX0_findWhatMayFold 43 = .ok (.invokevirtual 48, 3) := by decide +kernel
theorem dX0_findWhatMayFold_46 : decode cX0_findWhatMayFold 46 = .ok (.ifCond .eq 27, 3) := by decide +kernel
theorem dX0_findWhatMayFold_49 : decode cX0_findWhatMayFold 49 = .ok (.iload 4, 2) := by decide +kernel
theorem dX0_findWhatMayFold_51 : decode cX0_findWhatMayFold 51 = .ok (.ifCond .eq 22, 3) := by decide +kernel
theorem dX0_findWhatMayFold_54 : decode cX0_findWhatMayFold 54 = .ok (.aload_n 3, 1) := by decide +kernel
theorem dX0_findWhatMayFold_55 : decode cX0_findWhatMayFold 55 = .ok (.getfield 52, 3) := by decide +kernel
theorem dX0_findWhatMayFold_58 : decode cX0_findWhatMayFold 58 = .ok (.ifCond .ne 15, 3) := by decide +kernel
theorem dX0_findWhatMayFold_61 : decode cX0_findWhatMayFold 61 = .ok (.aload_n 3, 1) := by decide +kernel
theorem dX0_findWhatMayFold_62 : decode cX0_findWhatMayFold 62 = .ok (.getfield 56, 3) := by decide +kernel
theorem dX0_findWhatMayFold_65 : decode cX0_findWhatMayFold 65 = .ok (.iconst (-1), 1) := by decide +kernel
theorem dX0_findWhatMayFold_66 : decode cX0_findWhatMayFold 66 = .ok (.if_icmp .ne 7, 3) := by decide +kernel
theorem dX0_findWhatMayFold_69 : decode cX0_findWhatMayFold 69 = .ok (.iconst 1, 1) := by decide +kernel
theorem dX0_findWhatMayFold_70 : decode cX0_findWhatMayFold 70 = .ok (.goto 4, 3) := by decide +kernel
theorem dX0_findWhatMayFold_73 : decode cX0_findWhatMayFold 73 = .ok (.iconst 0, 1) := by decide +kernel
theorem dX0_findWhatMayFold_74 : decode cX0_findWhatMayFold 74 = .ok (.putfield 59, 3) := by decide +kernel
theorem dX0_findWhatMayFold_77 : decode cX0_findWhatMayFold 77 = .ok (.iinc 2 1, 3) := by decide +kernel
theorem dX0_findWhatMayFold_80 : decode cX0_findWhatMayFold 80 = .ok (.goto (-78), 3) := by decide +kernel
theorem dX0_findWhatMayFold_83 : decode cX0_findWhatMayFold 83 = .ok (.iconst 0, 1) := by decide +kernel
theorem dX0_findWhatMayFold_84 : decode cX0_findWhatMayFold 84 = .ok (.istore_n 2, 1) := by decide +kernel
theorem dX0_findWhatMayFold_85 : decode cX0_findWhatMayFold 85 = .ok (.iload_n 2, 1) := by decide +kernel
theorem dX0_findWhatMayFold_86 : decode cX0_findWhatMayFold 86 = .ok (.aload_n 1, 1) := by decide +kernel
theorem dX0_findWhatMayFold_87 : decode cX0_findWhatMayFold 87 = .ok (.invokevirtual 15, 3) := by decide +kernel
theorem dX0_findWhatMayFold_90 : decode cX0_findWhatMayFold 90 = .ok (.if_icmp .ge 35, 3) := by decide +kernel
theorem dX0_findWhatMayFold_93 : decode cX0_findWhatMayFold 93 = .ok (.aload_n 1, 1) := by decide +kernel
theorem dX0_findWhatMayFold_94 : decode cX0_findWhatMayFold 94 = .ok (.iload_n 2, 1) := by decide +kernel
theorem dX0_findWhatMayFold_95 : decode cX0_findWhatMayFold 95 = .ok (.invokevirtual 21, 3) := by decide +kernel
theorem dX0_findWhatMayFold_98 : decode cX0_findWhatMayFold 98 = .ok (.checkcast 25, 3) := by decide +kernel
theorem dX0_findWhatMayFold_101 : decode cX0_findWhatMayFold 101 = .ok (.invokevirtual 48, 3) := by decide +kernel
theorem dX0_findWhatMayFold_104 : decode cX0_findWhatMayFold 104 = .ok (.ifCond .eq 15, 3) := by decide +kernel
theorem dX0_findWhatMayFold_107 : decode cX0_findWhatMayFold 107 = .ok (.aload_n 0, 1) := by decide +kernel
theorem dX0_findWhatMayFold_108 : decode cX0_findWhatMayFold 108 = .ok (.aload_n 1, 1) := by decide +kernel
theorem dX0_findWhatMayFold_109 : decode cX0_findWhatMayFold 109 = .ok (.iload_n 2, 1) := by decide +kernel
theorem dX0_findWhatMayFold_110 : decode cX0_findWhatMayFold 110 = .ok (.invokevirtual 21, 3) := by decide +kernel
theorem dX0_findWhatMayFold_113 : decode cX0_findWhatMayFold 113 = .ok (.checkcast 25, 3) := by decide +kernel
theorem dX0_findWhatMayFold_116 : decode cX0_findWhatMayFold 116 = .ok (.invokevirtual 62, 3) := by decide +kernel
theorem dX0_findWhatMayFold_119 : decode cX0_findWhatMayFold 119 = .ok (.iinc 2 1, 3) := by decide +kernel
theorem dX0_findWhatMayFold_122 : decode cX0_findWhatMayFold 122 = .ok (.goto (-37), 3) := by decide +kernel
theorem dX0_findWhatMayFold_125 : decode cX0_findWhatMayFold 125 = .ok (.return_, 1) := by decide +kernel
theorem dX0_forbidWhatItTakesPlacesOf_0 : decode cX0_forbidWhatItTakesPlacesOf 0 = .ok (.iconst 0, 1) := by decide +kernel
theorem dX0_forbidWhatItTakesPlacesOf_1 : decode cX0_forbidWhatItTakesPlacesOf 1 = .ok (.istore_n 2, 1) := by decide +kernel
theorem dX0_forbidWhatItTakesPlacesOf_2 : decode cX0_forbidWhatItTakesPlacesOf 2 = .ok (.iload_n 2, 1) := by decide +kernel
theorem dX0_forbidWhatItTakesPlacesOf_3 : decode cX0_forbidWhatItTakesPlacesOf 3 = .ok (.aload_n 1, 1) := by decide +kernel
theorem dX0_forbidWhatItTakesPlacesOf_4 : decode cX0_forbidWhatItTakesPlacesOf 4 = .ok (.getfield 66, 3) := by decide +kernel
theorem dX0_forbidWhatItTakesPlacesOf_7 : decode cX0_forbidWhatItTakesPlacesOf 7 = .ok (.invokevirtual 15, 3) := by decide +kernel
theorem dX0_forbidWhatItTakesPlacesOf_10 : decode cX0_forbidWhatItTakesPlacesOf 10 = .ok (.if_icmp .ge 52, 3) := by decide +kernel
theorem dX0_forbidWhatItTakesPlacesOf_13 : decode cX0_forbidWhatItTakesPlacesOf 13 = .ok (.aload_n 1, 1) := by decide +kernel
theorem dX0_forbidWhatItTakesPlacesOf_14 : decode cX0_forbidWhatItTakesPlacesOf 14 = .ok (.getfield 66, 3) := by decide +kernel
theorem dX0_forbidWhatItTakesPlacesOf_17 : decode cX0_forbidWhatItTakesPlacesOf 17 = .ok (.iload_n 2, 1) := by decide +kernel
theorem dX0_forbidWhatItTakesPlacesOf_18 : decode cX0_forbidWhatItTakesPlacesOf 18 = .ok (.invokevirtual 21, 3) := by decide +kernel
theorem dX0_forbidWhatItTakesPlacesOf_21 : decode cX0_forbidWhatItTakesPlacesOf 21 = .ok (.checkcast 70, 3) := by decide +kernel
theorem dX0_forbidWhatItTakesPlacesOf_24 : decode cX0_forbidWhatItTakesPlacesOf 24 = .ok (.astore_n 3, 1) := by decide +kernel
theorem dX0_forbidWhatItTakesPlacesOf_25 : decode cX0_forbidWhatItTakesPlacesOf 25 = .ok (.aload_n 3, 1) := by decide +kernel
theorem dX0_forbidWhatItTakesPlacesOf_26 : decode cX0_forbidWhatItTakesPlacesOf 26 = .ok (.getfield 72, 3) := by decide +kernel
theorem dX0_forbidWhatItTakesPlacesOf_29 : decode cX0_forbidWhatItTakesPlacesOf 29 = .ok (.getstatic 76, 3) := by decide +kernel
theorem dX0_forbidWhatItTakesPlacesOf_32 : decode cX0_forbidWhatItTakesPlacesOf 32 = .ok (.if_acmp .eq 24, 3) := by decide +kernel
theorem dX0_forbidWhatItTakesPlacesOf_35 : decode cX0_forbidWhatItTakesPlacesOf 35 = .ok (.aload_n 3, 1) := by decide +kernel
theorem dX0_forbidWhatItTakesPlacesOf_36 : decode cX0_forbidWhatItTakesPlacesOf 36 = .ok (.getfield 81, 3) := by decide +kernel
theorem dX0_forbidWhatItTakesPlacesOf_39 : decode cX0_forbidWhatItTakesPlacesOf 39 = .ok (.getfield 85, 3) := by decide +kernel
theorem dX0_forbidWhatItTakesPlacesOf_42 : decode cX0_forbidWhatItTakesPlacesOf 42 = .ok (.ifnull 14, 3) := by decide +kernel
theorem dX0_forbidWhatItTakesPlacesOf_45 : decode cX0_forbidWhatItTakesPlacesOf 45 = .ok (.aload_n 3, 1) := by decide +kernel
theorem dX0_forbidWhatItTakesPlacesOf_46 : decode cX0_forbidWhatItTakesPlacesOf 46 = .ok (.getfield 81, 3) := by decide +kernel
theorem dX0_forbidWhatItTakesPlacesOf_49 : decode cX0_forbidWhatItTakesPlacesOf 49 = .ok (.getfield 85, 3) := by decide +kernel
theorem dX0_forbidWhatItTakesPlacesOf_52 : decode cX0_forbidWhatItTakesPlacesOf 52 = .ok (.iconst 0, 1) := by decide +kernel
theorem dX0_forbidWhatItTakesPlacesOf_53 : decode cX0_forbidWhatItTakesPlacesOf 53 = .ok (.putfield 59, 3) := by decide +kernel
theorem dX0_forbidWhatItTakesPlacesOf_56 : decode cX0_forbidWhatItTakesPlacesOf 56 = .ok (.iinc 2 1, 3) := by decide +kernel
theorem dX0_forbidWhatItTakesPlacesOf_59 : decode cX0_forbidWhatItTakesPlacesOf 59 = .ok (.goto (-57), 3) := by decide +kernel
theorem dX0_forbidWhatItTakesPlacesOf_62 : decode cX0_forbidWhatItTakesPlacesOf 62 = .ok (.return_, 1) := by decide +kernel
theorem dX0_joinKin_0 : decode cX0_joinKin 0 = .ok (.iconst 0, 1) := by decide +kernel
theorem dX0_joinKin_1 : decode cX0_joinKin 1 = .ok (.istore_n 2, 1) := by decide +kernel
theorem dX0_joinKin_2 : decode cX0_joinKin 2 = .ok (.iload_n 2, 1) := by decide +kernel
theorem dX0_joinKin_3 : decode cX0_joinKin 3 = .ok (.aload_n 1, 1) := by decide +kernel
theorem dX0_joinKin_4 : decode cX0_joinKin 4 = .ok (.invokevirtual 15, 3) := by decide +kernel
theorem dX0_joinKin_7 : decode cX0_joinKin 7 = .ok (.if_icmp .ge 98, 3) := by decide +kernel
theorem dX0_joinKin_10 : decode cX0_joinKin 10 = .ok (.aload_n 1, 1) := by decide +kernel
theorem dX0_joinKin_11 : decode cX0_joinKin 11 = .ok (.iload_n 2, 1) := by decide +kernel
theorem dX0_joinKin_12 : decode cX0_joinKin 12 = .ok (.invokevirtual 21, 3) := by decide +kernel
theorem dX0_joinKin_15 : decode cX0_joinKin 15 = .ok (.checkcast 25, 3) := by decide +kernel
theorem dX0_joinKin_18 : decode cX0_joinKin 18 = .ok (.astore_n 3, 1) := by decide +kernel
theorem dX0_joinKin_19 : decode cX0_joinKin 19 = .ok (.aload_n 3, 1) := by decide +kernel
theorem dX0_joinKin_20 : decode cX0_joinKin 20 = .ok (.aload_n 3, 1) := by decide +kernel
theorem dX0_joinKin_21 : decode cX0_joinKin 21 = .ok (.putfield 90, 3) := by decide +kernel
theorem dX0_joinKin_24 : decode cX0_joinKin 24 = .ok (.iconst 0, 1) := by decide +kernel
theorem dX0_joinKin_25 : decode cX0_joinKin 25 = .ok (.istore 4, 2) := by decide +kernel
theorem dX0_joinKin_27 : decode cX0_joinKin 27 = .ok (.iload 4, 2) := by decide +kernel
theorem dX0_joinKin_29 : decode cX0_joinKin 29 = .ok (.iload_n 2, 1) := by decide +kernel
theorem dX0_joinKin_30 : decode cX0_joinKin 30 = .ok (.if_icmp .ge 69, 3) := by decide +kernel
theorem dX0_joinKin_33 : decode cX0_joinKin 33 = .ok (.aload_n 3, 1) := by decide +kernel
theorem dX0_joinKin_34 : decode cX0_joinKin 34 = .ok (.getfield 90, 3) := by decide +kernel
theorem dX0_joinKin_37 : decode cX0_joinKin 37 = .ok (.aload_n 3, 1) := by decide +kernel
theorem dX0_joinKin_38 : decode cX0_joinKin 38 = .ok (.if_acmp .ne 61, 3) := by decide +kernel
theorem dX0_joinKin_41 : decode cX0_joinKin 41 = .ok (.aload_n 3, 1) := by decide +kernel
theorem dX0_joinKin_42 : decode cX0_joinKin 42 = .ok (.getfield 59, 3) := by decide +kernel
theorem dX0_joinKin_45 : decode cX0_joinKin 45 = .ok (.ifCond .eq 54, 3) := by decide +kernel
theorem dX0_joinKin_48 : decode cX0_joinKin 48 = .ok (.aload_n 1, 1) := by decide +kernel
theorem dX0_joinKin_49 : decode cX0_joinKin 49 = .ok (.iload 4, 2) := by decide +kernel
theorem dX0_joinKin_51 : decode cX0_joinKin 51 = .ok (.invokevirtual 21, 3) := by decide +kernel
theorem dX0_joinKin_54 : decode cX0_joinKin 54 = .ok (.checkcast 25, 3) := by decide +kernel
theorem dX0_joinKin_57 : decode cX0_joinKin 57 = .ok (.astore 5, 2) := by decide +kernel
theorem dX0_joinKin_59 : decode cX0_joinKin 59 = .ok (.aload 5, 2) := by decide +kernel
theorem dX0_joinKin_61 : decode cX0_joinKin 61 = .ok (.getfield 90, 3) := by decide +kernel
theorem dX0_joinKin_64 : decode cX0_joinKin 64 = .ok (.aload 5, 2) := by decide +kernel
theorem dX0_joinKin_66 : decode cX0_joinKin 66 = .ok (.if_acmp .ne 27, 3) := by decide +kernel
theorem dX0_joinKin_69 : decode cX0_joinKin 69 = .ok (.aload 5, 2) := by decide +kernel
theorem dX0_joinKin_71 : decode cX0_joinKin 71 = .ok (.getfield 59, 3) := by decide +kernel
theorem dX0_joinKin_74 : decode cX0_joinKin 74 = .ok (.ifCond .eq 19, 3) := by decide +kernel
theorem dX0_joinKin_77 : decode cX0_joinKin 77 = .ok (.aload_n 0, 1) := by decide +kernel
theorem dX0_joinKin_78 : decode cX0_joinKin 78 = .ok (.aload 5, 2) := by decide +kernel
theorem dX0_joinKin_80 : decode cX0_joinKin 80 = .ok (.aload_n 3, 1) := by decide +kernel
theorem dX0_joinKin_81 : decode cX0_joinKin 81 = .ok (.invokevirtual 93, 3) := by decide +kernel
theorem dX0_joinKin_84 : decode cX0_joinKin 84 = .ok (.ifCond .eq 9, 3) := by decide +kernel
theorem dX0_joinKin_87 : decode cX0_joinKin 87 = .ok (.aload_n 3, 1) := by decide +kernel
theorem dX0_joinKin_88 : decode cX0_joinKin 88 = .ok (.aload 5, 2) := by decide +kernel
theorem dX0_joinKin_90 : decode cX0_joinKin 90 = .ok (.putfield 90, 3) := by decide +kernel
theorem dX0_joinKin_93 : decode cX0_joinKin 93 = .ok (.iinc 4 1, 3) := by decide +kernel
theorem dX0_joinKin_96 : decode cX0_joinKin 96 = .ok (.goto (-69), 3) := by decide +kernel
theorem dX0_joinKin_99 : decode cX0_joinKin 99 = .ok (.iinc 2 1, 3) := by decide +kernel
theorem dX0_joinKin_102 : decode cX0_joinKin 102 = .ok (.goto (-100), 3) := by decide +kernel
theorem dX0_joinKin_105 : decode cX0_joinKin 105 = .ok (.return_, 1) := by decide +kernel
theorem dX0_looksLike_0 : decode cX0_looksLike 0 = .ok (.aload_n 1, 1) := by decide +kernel
theorem dX0_looksLike_1 : decode cX0_looksLike 1 = .ok (.getfield 45, 3) := by decide +kernel
theorem dX0_looksLike_4 : decode cX0_looksLike 4 = .ok (.aload_n 2, 1) := by decide +kernel
theorem dX0_looksLike_5 : decode cX0_looksLike 5 = .ok (.getfield 45, 3) := by decide +kernel
theorem dX0_looksLike_8 : decode cX0_looksLike 8 = .ok (.if_icmp .ne 52, 3) := by decide +kernel
theorem dX0_looksLike_11 : decode cX0_looksLike 11 = .ok (.aload_n 1, 1) := by decide +kernel
theorem dX0_looksLike_12 : decode cX0_looksLike 12 = .ok (.getfield 97, 3) := by decide +kernel
theorem dX0_looksLike_15 : decode cX0_looksLike 15 = .ok (.aload_n 2, 1) := by decide +kernel
theorem dX0_looksLike_16 : decode cX0_looksLike 16 = .ok (.getfield 97, 3) := by decide +kernel
theorem dX0_looksLike_19 : decode cX0_looksLike 19 = .ok (.if_icmp .ne 41, 3) := by decide +kernel
theorem dX0_looksLike_22 : decode cX0_looksLike 22 = .ok (.aload_n 1, 1) := by decide +kernel
theorem dX0_looksLike_23 : decode cX0_looksLike 23 = .ok (.getfield 99, 3) := by decide +kernel
theorem dX0_looksLike_26 : decode cX0_looksLike 26 = .ok (.aload_n 2, 1) := by decide +kernel
theorem dX0_looksLike_27 : decode cX0_looksLike 27 = .ok (.getfield 99, 3) := by decide +kernel
theorem dX0_looksLike_30 : decode cX0_looksLike 30 = .ok (.if_icmp .ne 30, 3) := by decide +kernel
theorem dX0_looksLike_33 : decode cX0_looksLike 33 = .ok (.aload_n 0, 1) := by decide +kernel
theorem dX0_looksLike_34 : decode cX0_looksLike 34 = .ok (.aload_n 1, 1) := by decide +kernel
theorem dX0_looksLike_35 : decode cX0_looksLike 35 = .ok (.getfield 66, 3) := by decide +kernel
theorem dX0_looksLike_38 : decode cX0_looksLike 38 = .ok (.aload_n 2, 1) := by decide +kernel
theorem dX0_looksLike_39 : decode cX0_looksLike 39 = .ok (.getfield 66, 3) := by decide +kernel
theorem dX0_looksLike_42 : decode cX0_looksLike 42 = .ok (.invokevirtual 102, 3) := by decide +kernel
theorem dX0_looksLike_45 : decode cX0_looksLike 45 = .ok (.ifCond .eq 15, 3) := by decide +kernel
theorem dX0_looksLike_48 : decode cX0_looksLike 48 = .ok (.aload_n 1, 1) := by decide +kernel
theorem dX0_looksLike_49 : decode cX0_looksLike 49 = .ok (.aload_n 2, 1) := by decide +kernel
theorem dX0_looksLike_50 : decode cX0_looksLike 50 = .ok (.invokevirtual 106, 3) := by decide +kernel
theorem dX0_looksLike_53 : decode cX0_looksLike 53 = .ok (.ifCond .eq 7, 3) := by decide +kernel
theorem dX0_looksLike_56 : decode cX0_looksLike 56 = .ok (.iconst 1, 1) := by decide +kernel
theorem dX0_looksLike_57 : decode cX0_looksLike 57 = .ok (.goto 4, 3) := by decide +kernel
theorem dX0_looksLike_60 : decode cX0_looksLike 60 = .ok (.iconst 0, 1) := by decide +kernel
theorem dX0_looksLike_61 : decode cX0_looksLike 61 = .ok (.ireturn, 1) := by decide +kernel
theorem dX0_relocationsLookLike_0 : decode cX0_relocationsLookLike 0 = .ok (.aload_n 1, 1) := by decide +kernel
theorem dX0_relocationsLookLike_1 : decode cX0_relocationsLookLike 1 = .ok (.invokevirtual 15, 3) := by decide +kernel
theorem dX0_relocationsLookLike_4 : decode cX0_relocationsLookLike 4 = .ok (.aload_n 2, 1) := by decide +kernel
theorem dX0_relocationsLookLike_5 : decode cX0_relocationsLookLike 5 = .ok (.invokevirtual 15, 3) := by decide +kernel
theorem dX0_relocationsLookLike_8 : decode cX0_relocationsLookLike 8 = .ok (.if_icmp .eq 5, 3) := by decide +kernel
theorem dX0_relocationsLookLike_11 : decode cX0_relocationsLookLike 11 = .ok (.iconst 0, 1) := by decide +kernel
theorem dX0_relocationsLookLike_12 : decode cX0_relocationsLookLike 12 = .ok (.ireturn, 1) := by decide +kernel
theorem dX0_relocationsLookLike_13 : decode cX0_relocationsLookLike 13 = .ok (.iconst 0, 1) := by decide +kernel
theorem dX0_relocationsLookLike_14 : decode cX0_relocationsLookLike 14 = .ok (.istore_n 3, 1) := by decide +kernel
theorem dX0_relocationsLookLike_15 : decode cX0_relocationsLookLike 15 = .ok (.iload_n 3, 1) := by decide +kernel
theorem dX0_relocationsLookLike_16 : decode cX0_relocationsLookLike 16 = .ok (.aload_n 1, 1) := by decide +kernel
theorem dX0_relocationsLookLike_17 : decode cX0_relocationsLookLike 17 = .ok (.invokevirtual 15, 3) := by decide +kernel
theorem dX0_relocationsLookLike_20 : decode cX0_relocationsLookLike 20 = .ok (.if_icmp .ge 112, 3) := by decide +kernel
theorem dX0_relocationsLookLike_23 : decode cX0_relocationsLookLike 23 = .ok (.iload_n 3, 1) := by decide +kernel
theorem dX0_relocationsLookLike_24 : decode cX0_relocationsLookLike 24 = .ok (.aload_n 2, 1) := by decide +kernel
theorem dX0_relocationsLookLike_25 : decode cX0_relocationsLookLike 25 = .ok (.invokevirtual 15, 3) := by decide +kernel
theorem dX0_relocationsLookLike_28 : decode cX0_relocationsLookLike 28 = .ok (.if_icmp .ge 104, 3) := by decide +kernel
theorem dX0_relocationsLookLike_31 : decode cX0_relocationsLookLike 31 = .ok (.aload_n 1, 1) := by decide +kernel
theorem dX0_relocationsLookLike_32 : decode cX0_relocationsLookLike 32 = .ok (.iload_n 3, 1) := by decide +kernel
theorem dX0_relocationsLookLike_33 : decode cX0_relocationsLookLike 33 = .ok (.invokevirtual 21, 3) := by decide +kernel
theorem dX0_relocationsLookLike_36 : decode cX0_relocationsLookLike 36 = .ok (.checkcast 70, 3) := by decide +kernel
theorem dX0_relocationsLookLike_39 : decode cX0_relocationsLookLike 39 = .ok (.astore 4, 2) := by decide +kernel
theorem dX0_relocationsLookLike_41 : decode cX0_relocationsLookLike 41 = .ok (.aload_n 2, 1) := by decide +kernel
theorem dX0_relocationsLookLike_42 : decode cX0_relocationsLookLike 42 = .ok (.iload_n 3, 1) := by decide +kernel
theorem dX0_relocationsLookLike_43 : decode cX0_relocationsLookLike 43 = .ok (.invokevirtual 21, 3) := by decide +kernel
theorem dX0_relocationsLookLike_46 : decode cX0_relocationsLookLike 46 = .ok (.checkcast 70, 3) := by decide +kernel
theorem dX0_relocationsLookLike_49 : decode cX0_relocationsLookLike 49 = .ok (.astore 5, 2) := by decide +kernel
theorem dX0_relocationsLookLike_51 : decode cX0_relocationsLookLike 51 = .ok (.aload 4, 2) := by decide +kernel
theorem dX0_relocationsLookLike_53 : decode cX0_relocationsLookLike 53 = .ok (.getfield 81, 3) := by decide +kernel
theorem dX0_relocationsLookLike_56 : decode cX0_relocationsLookLike 56 = .ok (.getfield 85, 3) := by decide +kernel
theorem dX0_relocationsLookLike_59 : decode cX0_relocationsLookLike 59 = .ok (.ifnonnull 7, 3) := by decide +kernel
theorem dX0_relocationsLookLike_62 : decode cX0_relocationsLookLike 62 = .ok (.iconst 1, 1) := by decide +kernel
theorem dX0_relocationsLookLike_63 : decode cX0_relocationsLookLike 63 = .ok (.goto 4, 3) := by decide +kernel
theorem dX0_relocationsLookLike_66 : decode cX0_relocationsLookLike 66 = .ok (.iconst 0, 1) := by decide +kernel
theorem dX0_relocationsLookLike_67 : decode cX0_relocationsLookLike 67 = .ok (.aload 5, 2) := by decide +kernel
theorem dX0_relocationsLookLike_69 : decode cX0_relocationsLookLike 69 = .ok (.getfield 81, 3) := by decide +kernel
theorem dX0_relocationsLookLike_72 : decode cX0_relocationsLookLike 72 = .ok (.getfield 85, 3) := by decide +kernel
theorem dX0_relocationsLookLike_75 : decode cX0_relocationsLookLike 75 = .ok (.ifnonnull 7, 3) := by decide +kernel
theorem dX0_relocationsLookLike_78 : decode cX0_relocationsLookLike 78 = .ok (.iconst 1, 1) := by decide +kernel
theorem dX0_relocationsLookLike_79 : decode cX0_relocationsLookLike 79 = .ok (.goto 4, 3) := by decide +kernel
theorem dX0_relocationsLookLike_82 : decode cX0_relocationsLookLike 82 = .ok (.iconst 0, 1) := by decide +kernel
theorem dX0_relocationsLookLike_83 : decode cX0_relocationsLookLike 83 = .ok (.if_icmp .ne 7, 3) := by decide +kernel
theorem dX0_relocationsLookLike_86 : decode cX0_relocationsLookLike 86 = .ok (.iconst 1, 1) := by decide +kernel
theorem dX0_relocationsLookLike_87 : decode cX0_relocationsLookLike 87 = .ok (.goto 4, 3) := by decide +kernel
theorem dX0_relocationsLookLike_90 : decode cX0_relocationsLookLike 90 = .ok (.iconst 0, 1) := by decide +kernel
theorem dX0_relocationsLookLike_91 : decode cX0_relocationsLookLike 91 = .ok (.istore 6, 2) := by decide +kernel
theorem dX0_relocationsLookLike_93 : decode cX0_relocationsLookLike 93 = .ok (.iload 6, 2) := by decide +kernel
theorem dX0_relocationsLookLike_95 : decode cX0_relocationsLookLike 95 = .ok (.ifCond .eq 29, 3) := by decide +kernel
theorem dX0_relocationsLookLike_98 : decode cX0_relocationsLookLike 98 = .ok (.aload 4, 2) := by decide +kernel
theorem dX0_relocationsLookLike_100 : decode cX0_relocationsLookLike 100 = .ok (.aload 5, 2) := by decide +kernel
theorem dX0_relocationsLookLike_102 : decode cX0_relocationsLookLike 102 = .ok (.invokevirtual 110, 3) := by decide +kernel
theorem dX0_relocationsLookLike_105 : decode cX0_relocationsLookLike 105 = .ok (.ifCond .eq 19, 3) := by decide +kernel
theorem dX0_relocationsLookLike_108 : decode cX0_relocationsLookLike 108 = .ok (.aload 4, 2) := by decide +kernel
theorem dX0_relocationsLookLike_110 : decode cX0_relocationsLookLike 110 = .ok (.getfield 81, 3) := by decide +kernel
theorem dX0_relocationsLookLike_113 : decode cX0_relocationsLookLike 113 = .ok (.aload 5, 2) := by decide +kernel
theorem dX0_relocationsLookLike_115 : decode cX0_relocationsLookLike 115 = .ok (.getfield 81, 3) := by decide +kernel
theorem dX0_relocationsLookLike_118 : decode cX0_relocationsLookLike 118 = .ok (.invokevirtual 114, 3) := by decide +kernel
theorem dX0_relocationsLookLike_121 : decode cX0_relocationsLookLike 121 = .ok (.ifCond .ne 5, 3) := by decide +kernel
theorem dX0_relocationsLookLike_124 : decode cX0_relocationsLookLike 124 = .ok (.iconst 0, 1) := by decide +kernel
theorem dX0_relocationsLookLike_125 : decode cX0_relocationsLookLike 125 = .ok (.ireturn, 1) := by decide +kernel
theorem dX0_relocationsLookLike_126 : decode cX0_relocationsLookLike 126 = .ok (.iinc 3 1, 3) := by decide +kernel
theorem dX0_relocationsLookLike_129 : decode cX0_relocationsLookLike 129 = .ok (.goto (-114), 3) := by decide +kernel
theorem dX0_relocationsLookLike_132 : decode cX0_relocationsLookLike 132 = .ok (.iconst 1, 1) := by decide +kernel
theorem dX0_relocationsLookLike_133 : decode cX0_relocationsLookLike 133 = .ok (.ireturn, 1) := by decide +kernel
theorem dX0_partKin_0 : decode cX0_partKin 0 = .ok (.iconst 0, 1) := by decide +kernel
theorem dX0_partKin_1 : decode cX0_partKin 1 = .ok (.istore_n 2, 1) := by decide +kernel
theorem dX0_partKin_2 : decode cX0_partKin 2 = .ok (.iconst 0, 1) := by decide +kernel
theorem dX0_partKin_3 : decode cX0_partKin 3 = .ok (.istore_n 3, 1) := by decide +kernel
theorem dX0_partKin_4 : decode cX0_partKin 4 = .ok (.iload_n 3, 1) := by decide +kernel
theorem dX0_partKin_5 : decode cX0_partKin 5 = .ok (.aload_n 1, 1) := by decide +kernel
theorem dX0_partKin_6 : decode cX0_partKin 6 = .ok (.invokevirtual 15, 3) := by decide +kernel
theorem dX0_partKin_9 : decode cX0_partKin 9 = .ok (.if_icmp .ge 55, 3) := by decide +kernel
theorem dX0_partKin_12 : decode cX0_partKin 12 = .ok (.aload_n 1, 1) := by decide +kernel
theorem dX0_partKin_13 : decode cX0_partKin 13 = .ok (.iload_n 3, 1) := by decide +kernel
theorem dX0_partKin_14 : decode cX0_partKin 14 = .ok (.invokevirtual 21, 3) := by decide +kernel
theorem dX0_partKin_17 : decode cX0_partKin 17 = .ok (.checkcast 25, 3) := by decide +kernel
theorem dX0_partKin_20 : decode cX0_partKin 20 = .ok (.astore 4, 2) := by decide +kernel
theorem dX0_partKin_22 : decode cX0_partKin 22 = .ok (.aload 4, 2) := by decide +kernel
theorem dX0_partKin_24 : decode cX0_partKin 24 = .ok (.aload_n 0, 1) := by decide +kernel
theorem dX0_partKin_25 : decode cX0_partKin 25 = .ok (.aload_n 1, 1) := by decide +kernel
theorem dX0_partKin_26 : decode cX0_partKin 26 = .ok (.iload_n 3, 1) := by decide +kernel
theorem dX0_partKin_27 : decode cX0_partKin 27 = .ok (.aload 4, 2) := by decide +kernel
theorem dX0_partKin_29 : decode cX0_partKin 29 = .ok (.invokevirtual 118, 3) := by decide +kernel
theorem dX0_partKin_32 : decode cX0_partKin 32 = .ok (.putfield 122, 3) := by decide +kernel
theorem dX0_partKin_35 : decode cX0_partKin 35 = .ok (.iload_n 2, 1) := by decide +kernel
theorem dX0_partKin_36 : decode cX0_partKin 36 = .ok (.ifCond .ne 16, 3) := by decide +kernel
theorem dX0_partKin_39 : decode cX0_partKin 39 = .ok (.aload 4, 2) := by decide +kernel
theorem dX0_partKin_41 : decode cX0_partKin 41 = .ok (.getfield 122, 3) := by decide +kernel
theorem dX0_partKin_44 : decode cX0_partKin 44 = .ok (.aload 4, 2) := by decide +kernel
theorem dX0_partKin_46 : decode cX0_partKin 46 = .ok (.getfield 90, 3) := by decide +kernel
theorem dX0_partKin_49 : decode cX0_partKin 49 = .ok (.if_acmp .eq 7, 3) := by decide +kernel
theorem dX0_partKin_52 : decode cX0_partKin 52 = .ok (.iconst 1, 1) := by decide +kernel
theorem dX0_partKin_53 : decode cX0_partKin 53 = .ok (.goto 4, 3) := by decide +kernel
theorem dX0_partKin_56 : decode cX0_partKin 56 = .ok (.iconst 0, 1) := by decide +kernel
theorem dX0_partKin_57 : decode cX0_partKin 57 = .ok (.istore_n 2, 1) := by decide +kernel
theorem dX0_partKin_58 : decode cX0_partKin 58 = .ok (.iinc 3 1, 3) := by decide +kernel
theorem dX0_partKin_61 : decode cX0_partKin 61 = .ok (.goto (-57), 3) := by decide +kernel
theorem dX0_partKin_64 : decode cX0_partKin 64 = .ok (.iconst 0, 1) := by decide +kernel
theorem dX0_partKin_65 : decode cX0_partKin 65 = .ok (.istore_n 3, 1) := by decide +kernel
theorem dX0_partKin_66 : decode cX0_partKin 66 = .ok (.iload_n 3, 1) := by decide +kernel
theorem dX0_partKin_67 : decode cX0_partKin 67 = .ok (.aload_n 1, 1) := by decide +kernel
theorem dX0_partKin_68 : decode cX0_partKin 68 = .ok (.invokevirtual 15, 3) := by decide +kernel
theorem dX0_partKin_71 : decode cX0_partKin 71 = .ok (.if_icmp .ge 31, 3) := by decide +kernel
theorem dX0_partKin_74 : decode cX0_partKin 74 = .ok (.aload_n 1, 1) := by decide +kernel
theorem dX0_partKin_75 : decode cX0_partKin 75 = .ok (.iload_n 3, 1) := by decide +kernel
theorem dX0_partKin_76 : decode cX0_partKin 76 = .ok (.invokevirtual 21, 3) := by decide +kernel
theorem dX0_partKin_79 : decode cX0_partKin 79 = .ok (.checkcast 25, 3) := by decide +kernel
theorem dX0_partKin_82 : decode cX0_partKin 82 = .ok (.aload_n 1, 1) := by decide +kernel
theorem dX0_partKin_83 : decode cX0_partKin 83 = .ok (.iload_n 3, 1) := by decide +kernel
theorem dX0_partKin_84 : decode cX0_partKin 84 = .ok (.invokevirtual 21, 3) := by decide +kernel
theorem dX0_partKin_87 : decode cX0_partKin 87 = .ok (.checkcast 25, 3) := by decide +kernel
theorem dX0_partKin_90 : decode cX0_partKin 90 = .ok (.getfield 122, 3) := by decide +kernel
theorem dX0_partKin_93 : decode cX0_partKin 93 = .ok (.putfield 90, 3) := by decide +kernel
theorem dX0_partKin_96 : decode cX0_partKin 96 = .ok (.iinc 3 1, 3) := by decide +kernel
theorem dX0_partKin_99 : decode cX0_partKin 99 = .ok (.goto (-33), 3) := by decide +kernel
theorem dX0_partKin_102 : decode cX0_partKin 102 = .ok (.iload_n 2, 1) := by decide +kernel
theorem dX0_partKin_103 : decode cX0_partKin 103 = .ok (.ireturn, 1) := by decide +kernel
theorem dX0_firstOfTheSameKin_0 : decode cX0_firstOfTheSameKin 0 = .ok (.iconst 0, 1) := by decide +kernel
theorem dX0_firstOfTheSameKin_1 : decode cX0_firstOfTheSameKin 1 = .ok (.istore 4, 2) := by decide +kernel
theorem dX0_firstOfTheSameKin_3 : decode cX0_firstOfTheSameKin 3 = .ok (.iload 4, 2) := by decide +kernel
theorem dX0_firstOfTheSameKin_5 : decode cX0_firstOfTheSameKin 5 = .ok (.iload_n 2, 1) := by decide +kernel
theorem dX0_firstOfTheSameKin_6 : decode cX0_firstOfTheSameKin 6 = .ok (.if_icmp .ge 64, 3) := by decide +kernel
theorem dX0_firstOfTheSameKin_9 : decode cX0_firstOfTheSameKin 9 = .ok (.iload 4, 2) := by decide +kernel
theorem dX0_firstOfTheSameKin_11 : decode cX0_firstOfTheSameKin 11 = .ok (.aload_n 1, 1) := by decide +kernel
theorem dX0_firstOfTheSameKin_12 : decode cX0_firstOfTheSameKin 12 = .ok (.invokevirtual 15, 3) := by decide +kernel
theorem dX0_firstOfTheSameKin_15 : decode cX0_firstOfTheSameKin 15 = .ok (.if_icmp .ge 55, 3) := by decide +kernel
theorem dX0_firstOfTheSameKin_18 : decode cX0_firstOfTheSameKin 18 = .ok (.aload_n 1, 1) := by decide +kernel
theorem dX0_firstOfTheSameKin_19 : decode cX0_firstOfTheSameKin 19 = .ok (.iload 4, 2) := by decide +kernel
theorem dX0_firstOfTheSameKin_21 : decode cX0_firstOfTheSameKin 21 = .ok (.invokevirtual 21, 3) := by decide +kernel
theorem dX0_firstOfTheSameKin_24 : decode cX0_firstOfTheSameKin 24 = .ok (.checkcast 25, 3) := by decide +kernel
theorem dX0_firstOfTheSameKin_27 : decode cX0_firstOfTheSameKin 27 = .ok (.astore 5, 2) := by decide +kernel
theorem dX0_firstOfTheSameKin_29 : decode cX0_firstOfTheSameKin 29 = .ok (.aload 5, 2) := by decide +kernel
theorem dX0_firstOfTheSameKin_31 : decode cX0_firstOfTheSameKin 31 = .ok (.getfield 122, 3) := by decide +kernel
theorem dX0_firstOfTheSameKin_34 : decode cX0_firstOfTheSameKin 34 = .ok (.aload 5, 2) := by decide +kernel
theorem dX0_firstOfTheSameKin_36 : decode cX0_firstOfTheSameKin 36 = .ok (.if_acmp .ne 28, 3) := by decide +kernel
theorem dX0_firstOfTheSameKin_39 : decode cX0_firstOfTheSameKin 39 = .ok (.aload 5, 2) := by decide +kernel
theorem dX0_firstOfTheSameKin_41 : decode cX0_firstOfTheSameKin 41 = .ok (.getfield 90, 3) := by decide +kernel
theorem dX0_firstOfTheSameKin_44 : decode cX0_firstOfTheSameKin 44 = .ok (.aload_n 3, 1) := by decide +kernel
theorem dX0_firstOfTheSameKin_45 : decode cX0_firstOfTheSameKin 45 = .ok (.getfield 90, 3) := by decide +kernel
theorem dX0_firstOfTheSameKin_48 : decode cX0_firstOfTheSameKin 48 = .ok (.if_acmp .ne 16, 3) := by decide +kernel
theorem dX0_firstOfTheSameKin_51 : decode cX0_firstOfTheSameKin 51 = .ok (.aload_n 0, 1) := by decide +kernel
theorem dX0_firstOfTheSameKin_52 : decode cX0_firstOfTheSameKin 52 = .ok (.aload 5, 2) := by decide +kernel
theorem dX0_firstOfTheSameKin_54 : decode cX0_firstOfTheSameKin 54 = .ok (.aload_n 3, 1) := by decide +kernel
theorem dX0_firstOfTheSameKin_55 : decode cX0_firstOfTheSameKin 55 = .ok (.invokevirtual 125, 3) := by decide +kernel
theorem dX0_firstOfTheSameKin_58 : decode cX0_firstOfTheSameKin 58 = .ok (.ifCond .eq 6, 3) := by decide +kernel
theorem dX0_firstOfTheSameKin_61 : decode cX0_firstOfTheSameKin 61 = .ok (.aload 5, 2) := by decide +kernel
theorem dX0_firstOfTheSameKin_63 : decode cX0_firstOfTheSameKin 63 = .ok (.areturn, 1) := by decide +kernel
theorem dX0_firstOfTheSameKin_64 : decode cX0_firstOfTheSameKin 64 = .ok (.iinc 4 1, 3) := by decide +kernel
theorem dX0_firstOfTheSameKin_67 : decode cX0_firstOfTheSameKin 67 = .ok (.goto (-64), 3) := by decide +kernel
theorem dX0_firstOfTheSameKin_70 : decode cX0_firstOfTheSameKin 70 = .ok (.aload_n 3, 1) := by decide +kernel
theorem dX0_firstOfTheSameKin_71 : decode cX0_firstOfTheSameKin 71 = .ok (.areturn, 1) := by decide +kernel
theorem dX0_targetsAreKin_0 : decode cX0_targetsAreKin 0 = .ok (.iconst 0, 1) := by decide +kernel
theorem dX0_targetsAreKin_1 : decode cX0_targetsAreKin 1 = .ok (.istore_n 3, 1) := by decide +kernel
theorem dX0_targetsAreKin_2 : decode cX0_targetsAreKin 2 = .ok (.iload_n 3, 1) := by decide +kernel
theorem dX0_targetsAreKin_3 : decode cX0_targetsAreKin 3 = .ok (.aload_n 1, 1) := by decide +kernel
theorem dX0_targetsAreKin_4 : decode cX0_targetsAreKin 4 = .ok (.getfield 66, 3) := by decide +kernel
theorem dX0_targetsAreKin_7 : decode cX0_targetsAreKin 7 = .ok (.invokevirtual 15, 3) := by decide +kernel
theorem dX0_targetsAreKin_10 : decode cX0_targetsAreKin 10 = .ok (.if_icmp .ge 83, 3) := by decide +kernel
theorem dX0_targetsAreKin_13 : decode cX0_targetsAreKin 13 = .ok (.iload_n 3, 1) := by decide +kernel
theorem dX0_targetsAreKin_14 : decode cX0_targetsAreKin 14 = .ok (.aload_n 2, 1) := by decide +kernel
theorem dX0_targetsAreKin_15 : decode cX0_targetsAreKin 15 = .ok (.getfield 66, 3) := by decide +kernel
theorem dX0_targetsAreKin_18 : decode cX0_targetsAreKin 18 = .ok (.invokevirtual 15, 3) := by decide +kernel
theorem dX0_targetsAreKin_21 : decode cX0_targetsAreKin 21 = .ok (.if_icmp .ge 72, 3) := by decide +kernel
theorem dX0_targetsAreKin_24 : decode cX0_targetsAreKin 24 = .ok (.aload_n 1, 1) := by decide +kernel
theorem dX0_targetsAreKin_25 : decode cX0_targetsAreKin 25 = .ok (.getfield 66, 3) := by decide +kernel
theorem dX0_targetsAreKin_28 : decode cX0_targetsAreKin 28 = .ok (.iload_n 3, 1) := by decide +kernel
theorem dX0_targetsAreKin_29 : decode cX0_targetsAreKin 29 = .ok (.invokevirtual 21, 3) := by decide +kernel
theorem dX0_targetsAreKin_32 : decode cX0_targetsAreKin 32 = .ok (.checkcast 70, 3) := by decide +kernel
theorem dX0_targetsAreKin_35 : decode cX0_targetsAreKin 35 = .ok (.getfield 81, 3) := by decide +kernel
theorem dX0_targetsAreKin_38 : decode cX0_targetsAreKin 38 = .ok (.getfield 85, 3) := by decide +kernel
theorem dX0_targetsAreKin_41 : decode cX0_targetsAreKin 41 = .ok (.astore 4, 2) := by decide +kernel
theorem dX0_targetsAreKin_43 : decode cX0_targetsAreKin 43 = .ok (.aload_n 2, 1) := by decide +kernel
theorem dX0_targetsAreKin_44 : decode cX0_targetsAreKin 44 = .ok (.getfield 66, 3) := by decide +kernel
theorem dX0_targetsAreKin_47 : decode cX0_targetsAreKin 47 = .ok (.iload_n 3, 1) := by decide +kernel
theorem dX0_targetsAreKin_48 : decode cX0_targetsAreKin 48 = .ok (.invokevirtual 21, 3) := by decide +kernel
theorem dX0_targetsAreKin_51 : decode cX0_targetsAreKin 51 = .ok (.checkcast 70, 3) := by decide +kernel
theorem dX0_targetsAreKin_54 : decode cX0_targetsAreKin 54 = .ok (.getfield 81, 3) := by decide +kernel
theorem dX0_targetsAreKin_57 : decode cX0_targetsAreKin 57 = .ok (.getfield 85, 3) := by decide +kernel
theorem dX0_targetsAreKin_60 : decode cX0_targetsAreKin 60 = .ok (.astore 5, 2) := by decide +kernel
theorem dX0_targetsAreKin_62 : decode cX0_targetsAreKin 62 = .ok (.aload 4, 2) := by decide +kernel
theorem dX0_targetsAreKin_64 : decode cX0_targetsAreKin 64 = .ok (.ifnull 23, 3) := by decide +kernel
theorem dX0_targetsAreKin_67 : decode cX0_targetsAreKin 67 = .ok (.aload 5, 2) := by decide +kernel
theorem dX0_targetsAreKin_69 : decode cX0_targetsAreKin 69 = .ok (.ifnull 18, 3) := by decide +kernel
theorem dX0_targetsAreKin_72 : decode cX0_targetsAreKin 72 = .ok (.aload 4, 2) := by decide +kernel
theorem dX0_targetsAreKin_74 : decode cX0_targetsAreKin 74 = .ok (.getfield 90, 3) := by decide +kernel
theorem dX0_targetsAreKin_77 : decode cX0_targetsAreKin 77 = .ok (.aload 5, 2) := by decide +kernel
theorem dX0_targetsAreKin_79 : decode cX0_targetsAreKin 79 = .ok (.getfield 90, 3) := by decide +kernel
theorem dX0_targetsAreKin_82 : decode cX0_targetsAreKin 82 = .ok (.if_acmp .eq 5, 3) := by decide +kernel
theorem dX0_targetsAreKin_85 : decode cX0_targetsAreKin 85 = .ok (.iconst 0, 1) := by decide +kernel
theorem dX0_targetsAreKin_86 : decode cX0_targetsAreKin 86 = .ok (.ireturn, 1) := by decide +kernel
theorem dX0_targetsAreKin_87 : decode cX0_targetsAreKin 87 = .ok (.iinc 3 1, 3) := by decide +kernel
theorem dX0_targetsAreKin_90 : decode cX0_targetsAreKin 90 = .ok (.goto (-88), 3) := by decide +kernel
theorem dX0_targetsAreKin_93 : decode cX0_targetsAreKin 93 = .ok (.iconst 1, 1) := by decide +kernel
theorem dX0_targetsAreKin_94 : decode cX0_targetsAreKin 94 = .ok (.ireturn, 1) := by decide +kernel
theorem dX0_foldKin_0 : decode cX0_foldKin 0 = .ok (.iconst 0, 1) := by decide +kernel
theorem dX0_foldKin_1 : decode cX0_foldKin 1 = .ok (.istore_n 2, 1) := by decide +kernel
theorem dX0_foldKin_2 : decode cX0_foldKin 2 = .ok (.iload_n 2, 1) := by decide +kernel
theorem dX0_foldKin_3 : decode cX0_foldKin 3 = .ok (.aload_n 1, 1) := by decide +kernel
theorem dX0_foldKin_4 : decode cX0_foldKin 4 = .ok (.invokevirtual 15, 3) := by decide +kernel
theorem dX0_foldKin_7 : decode cX0_foldKin 7 = .ok (.if_icmp .ge 44, 3) := by decide +kernel
theorem dX0_foldKin_10 : decode cX0_foldKin 10 = .ok (.aload_n 1, 1) := by decide +kernel
theorem dX0_foldKin_11 : decode cX0_foldKin 11 = .ok (.iload_n 2, 1) := by decide +kernel
theorem dX0_foldKin_12 : decode cX0_foldKin 12 = .ok (.invokevirtual 21, 3) := by decide +kernel
theorem dX0_foldKin_15 : decode cX0_foldKin 15 = .ok (.checkcast 25, 3) := by decide +kernel
theorem dX0_foldKin_18 : decode cX0_foldKin 18 = .ok (.astore_n 3, 1) := by decide +kernel
theorem dX0_foldKin_19 : decode cX0_foldKin 19 = .ok (.aload_n 3, 1) := by decide +kernel
theorem dX0_foldKin_20 : decode cX0_foldKin 20 = .ok (.getfield 90, 3) := by decide +kernel
theorem dX0_foldKin_23 : decode cX0_foldKin 23 = .ok (.aload_n 3, 1) := by decide +kernel
theorem dX0_foldKin_24 : decode cX0_foldKin 24 = .ok (.if_acmp .eq 21, 3) := by decide +kernel
theorem dX0_foldKin_27 : decode cX0_foldKin 27 = .ok (.aload_n 3, 1) := by decide +kernel
theorem dX0_foldKin_28 : decode cX0_foldKin 28 = .ok (.aload_n 3, 1) := by decide +kernel
theorem dX0_foldKin_29 : decode cX0_foldKin 29 = .ok (.getfield 90, 3) := by decide +kernel
theorem dX0_foldKin_32 : decode cX0_foldKin 32 = .ok (.putfield 27, 3) := by decide +kernel
theorem dX0_foldKin_35 : decode cX0_foldKin 35 = .ok (.aload_n 0, 1) := by decide +kernel
theorem dX0_foldKin_36 : decode cX0_foldKin 36 = .ok (.dup, 1) := by decide +kernel
theorem dX0_foldKin_37 : decode cX0_foldKin 37 = .ok (.getfield 9, 3) := by decide +kernel
theorem dX0_foldKin_40 : decode cX0_foldKin 40 = .ok (.iconst 1, 1) := by decide +kernel
theorem dX0_foldKin_41 : decode cX0_foldKin 41 = .ok (.iadd, 1) := by decide +kernel
theorem dX0_foldKin_42 : decode cX0_foldKin 42 = .ok (.putfield 9, 3) := by decide +kernel
theorem dX0_foldKin_45 : decode cX0_foldKin 45 = .ok (.iinc 2 1, 3) := by decide +kernel
theorem dX0_foldKin_48 : decode cX0_foldKin 48 = .ok (.goto (-46), 3) := by decide +kernel
theorem dX0_foldKin_51 : decode cX0_foldKin 51 = .ok (.return_, 1) := by decide +kernel
theorem dX1_init_0 : decode cX1_init 0 = .ok (.aload_n 0, 1) := by decide +kernel
theorem dX1_init_1 : decode cX1_init 1 = .ok (.invokespecial 3, 3) := by decide +kernel
theorem dX1_init_4 : decode cX1_init 4 = .ok (.aload_n 0, 1) := by decide +kernel
theorem dX1_init_5 : decode cX1_init 5 = .ok (.new 9, 3) := by decide +kernel
theorem dX1_init_8 : decode cX1_init 8 = .ok (.dup, 1) := by decide +kernel
theorem dX1_init_9 : decode cX1_init 9 = .ok (.invokespecial 11, 3) := by decide +kernel
theorem dX1_init_12 : decode cX1_init 12 = .ok (.putfield 12, 3) := by decide +kernel
theorem dX1_init_15 : decode cX1_init 15 = .ok (.return_, 1) := by decide +kernel
theorem dX1_find_0 : decode cX1_find 0 = .ok (.aload_n 0, 1) := by decide +kernel
theorem dX1_find_1 : decode cX1_find 1 = .ok (.aload_n 1, 1) := by decide +kernel
theorem dX1_find_2 : decode cX1_find 2 = .ok (.getfield 18, 3) := by decide +kernel
theorem dX1_find_5 : decode cX1_find 5 = .ok (.invokevirtual 23, 3) := by decide +kernel
theorem dX1_find_8 : decode cX1_find 8 = .ok (.iconst 0, 1) := by decide +kernel
theorem dX1_find_9 : decode cX1_find 9 = .ok (.istore_n 3, 1) := by decide +kernel
theorem dX1_find_10 : decode cX1_find 10 = .ok (.iload_n 3, 1) := by decide +kernel
theorem dX1_find_11 : decode cX1_find 11 = .ok (.aload_n 1, 1) := by decide +kernel
theorem dX1_find_12 : decode cX1_find 12 = .ok (.getfield 27, 3) := by decide +kernel
theorem dX1_find_15 : decode cX1_find 15 = .ok (.if_icmp .ge 45, 3) := by decide +kernel
theorem dX1_find_18 : decode cX1_find 18 = .ok (.iload_n 3, 1) := by decide +kernel
theorem dX1_find_19 : decode cX1_find 19 = .ok (.aload_n 1, 1) := by decide +kernel
theorem dX1_find_20 : decode cX1_find 20 = .ok (.getfield 31, 3) := by decide +kernel
theorem dX1_find_23 : decode cX1_find 23 = .ok (.arraylength, 1) := by decide +kernel
theorem dX1_find_24 : decode cX1_find 24 = .ok (.if_icmp .ge 36, 3) := by decide +kernel
theorem dX1_find_27 : decode cX1_find 27 = .ok (.aload_n 2, 1) := by decide +kernel
theorem dX1_find_28 : decode cX1_find 28 = .ok (.aload_n 1, 1) := by decide +kernel
theorem dX1_find_29 : decode cX1_find 29 = .ok (.getfield 31, 3) := by decide +kernel
theorem dX1_find_32 : decode cX1_find 32 = .ok (.iload_n 3, 1) := by decide +kernel
theorem dX1_find_33 : decode cX1_find 33 = .ok (.iaload, 1) := by decide +kernel
theorem dX1_find_34 : decode cX1_find 34 = .ok (.invokevirtual 35, 3) := by decide +kernel
theorem dX1_find_37 : decode cX1_find 37 = .ok (.astore 4, 2) := by decide +kernel
theorem dX1_find_39 : decode cX1_find 39 = .ok (.aload 4, 2) := by decide +kernel
theorem dX1_find_41 : decode cX1_find 41 = .ok (.ifnull 13, 3) := by decide +kernel
theorem dX1_find_44 : decode cX1_find 44 = .ok (.aload_n 0, 1) := by decide +kernel
theorem dX1_find_45 : decode cX1_find 45 = .ok (.aload 4, 2) := by decide +kernel
theorem dX1_find_47 : decode cX1_find 47 = .ok (.getfield 41, 3) := by decide +kernel
theorem dX1_find_50 : decode cX1_find 50 = .ok (.aconst_null, 1) := by decide +kernel
theorem dX1_find_51 : decode cX1_find 51 = .ok (.invokevirtual 47, 3) := by decide +kernel
theorem dX1_find_54 : decode cX1_find 54 = .ok (.iinc 3 1, 3) := by decide +kernel
theorem dX1_find_57 : decode cX1_find 57 = .ok (.goto (-47), 3) := by decide +kernel
theorem dX1_find_60 : decode cX1_find 60 = .ok (.iconst 0, 1) := by decide +kernel
theorem dX1_find_61 : decode cX1_find 61 = .ok (.istore_n 3, 1) := by decide +kernel
theorem dX1_find_62 : decode cX1_find 62 = .ok (.iload_n 3, 1) := by decide +kernel
theorem dX1_find_63 : decode cX1_find 63 = .ok (.aload_n 0, 1) := by decide +kernel
theorem dX1_find_64 : decode cX1_find 64 = .ok (.getfield 12, 3) := by decide +kernel
theorem dX1_find_67 : decode cX1_find 67 = .ok (.invokevirtual 51, 3) := by decide +kernel
theorem dX1_find_70 : decode cX1_find 70 = .ok (.if_icmp .ge 34, 3) := by decide +kernel
theorem dX1_find_73 : decode cX1_find 73 = .ok (.iload_n 3, 1) := by decide +kernel
theorem dX1_find_74 : decode cX1_find 74 = .ok (.bipush 60, 2) := by decide +kernel
theorem dX1_find_76 : decode cX1_find 76 = .ok (.if_icmp .ge 28, 3) := by decide +kernel
theorem dX1_find_79 : decode cX1_find 79 = .ok (.aload_n 0, 1) := by decide +kernel
theorem dX1_find_80 : decode cX1_find 80 = .ok (.aload_n 0, 1) := by decide +kernel
theorem dX1_find_81 : decode cX1_find 81 = .ok (.getfield 12, 3) := by decide +kernel
theorem dX1_find_84 : decode cX1_find 84 = .ok (.iload_n 3, 1) := by decide +kernel
theorem dX1_find_85 : decode cX1_find 85 = .ok (.invokevirtual 55, 3) := by decide +kernel
theorem dX1_find_88 : decode cX1_find 88 = .ok (.checkcast 59, 3) := by decide +kernel
theorem dX1_find_91 : decode cX1_find 91 = .ok (.aload_n 1, 1) := by decide +kernel
theorem dX1_find_92 : decode cX1_find 92 = .ok (.getfield 18, 3) := by decide +kernel
theorem dX1_find_95 : decode cX1_find 95 = .ok (.invokevirtual 61, 3) := by decide +kernel
theorem dX1_find_98 : decode cX1_find 98 = .ok (.iinc 3 1, 3) := by decide +kernel
theorem dX1_find_101 : decode cX1_find 101 = .ok (.goto (-39), 3) := by decide +kernel
theorem dX1_find_104 : decode cX1_find 104 = .ok (.return_, 1) := by decide +kernel
theorem dX1_firstNowhere_0 : decode cX1_firstNowhere 0 = .ok (.iconst 0, 1) := by decide +kernel
theorem dX1_firstNowhere_1 : decode cX1_firstNowhere 1 = .ok (.istore_n 2, 1) := by decide +kernel
theorem dX1_firstNowhere_2 : decode cX1_firstNowhere 2 = .ok (.iload_n 2, 1) := by decide +kernel
theorem dX1_firstNowhere_3 : decode cX1_firstNowhere 3 = .ok (.aload_n 1, 1) := by decide +kernel
theorem dX1_firstNowhere_4 : decode cX1_firstNowhere 4 = .ok (.invokevirtual 51, 3) := by decide +kernel
theorem dX1_firstNowhere_7 : decode cX1_firstNowhere 7 = .ok (.if_icmp .ge 53, 3) := by decide +kernel
theorem dX1_firstNowhere_10 : decode cX1_firstNowhere 10 = .ok (.aload_n 1, 1) := by decide +kernel
theorem dX1_firstNowhere_11 : decode cX1_firstNowhere 11 = .ok (.iload_n 2, 1) := by decide +kernel
theorem dX1_firstNowhere_12 : decode cX1_firstNowhere 12 = .ok (.invokevirtual 55, 3) := by decide +kernel
theorem dX1_firstNowhere_15 : decode cX1_firstNowhere 15 = .ok (.checkcast 65, 3) := by decide +kernel
theorem dX1_firstNowhere_18 : decode cX1_firstNowhere 18 = .ok (.astore_n 3, 1) := by decide +kernel
theorem dX1_firstNowhere_19 : decode cX1_firstNowhere 19 = .ok (.aload_n 3, 1) := by decide +kernel
theorem dX1_firstNowhere_20 : decode cX1_firstNowhere 20 = .ok (.getfield 67, 3) := by decide +kernel
theorem dX1_firstNowhere_23 : decode cX1_firstNowhere 23 = .ok (.astore 4, 2) := by decide +kernel
theorem dX1_firstNowhere_25 : decode cX1_firstNowhere 25 = .ok (.aload_n 3, 1) := by decide +kernel
theorem dX1_firstNowhere_26 : decode cX1_firstNowhere 26 = .ok (.getfield 71, 3) := by decide +kernel
theorem dX1_firstNowhere_29 : decode cX1_firstNowhere 29 = .ok (.invokevirtual 72, 3) := by decide +kernel
theorem dX1_firstNowhere_32 : decode cX1_firstNowhere 32 = .ok (.ifCond .eq 22, 3) := by decide +kernel
theorem dX1_firstNowhere_35 : decode cX1_firstNowhere 35 = .ok (.aload 4, 2) := by decide +kernel
theorem dX1_firstNowhere_37 : decode cX1_firstNowhere 37 = .ok (.getfield 76, 3) := by decide +kernel
theorem dX1_firstNowhere_40 : decode cX1_firstNowhere 40 = .ok (.iconst 2, 1) := by decide +kernel
theorem dX1_firstNowhere_41 : decode cX1_firstNowhere 41 = .ok (.if_icmp .eq 13, 3) := by decide +kernel
theorem dX1_firstNowhere_44 : decode cX1_firstNowhere 44 = .ok (.aload 4, 2) := by decide +kernel
theorem dX1_firstNowhere_46 : decode cX1_firstNowhere 46 = .ok (.invokevirtual 79, 3) := by decide +kernel
theorem dX1_firstNowhere_49 : decode cX1_firstNowhere 49 = .ok (.ifCond .eq 5, 3) := by decide +kernel
theorem dX1_firstNowhere_52 : decode cX1_firstNowhere 52 = .ok (.iload_n 2, 1) := by decide +kernel
theorem dX1_firstNowhere_53 : decode cX1_firstNowhere 53 = .ok (.ireturn, 1) := by decide +kernel
theorem dX1_firstNowhere_54 : decode cX1_firstNowhere 54 = .ok (.iinc 2 1, 3) := by decide +kernel
theorem dX1_firstNowhere_57 : decode cX1_firstNowhere 57 = .ok (.goto (-55), 3) := by decide +kernel
theorem dX1_firstNowhere_60 : decode cX1_firstNowhere 60 = .ok (.iconst (-1), 1) := by decide +kernel
theorem dX1_firstNowhere_61 : decode cX1_firstNowhere 61 = .ok (.ireturn, 1) := by decide +kernel
theorem dX1_firstIntoLost_0 : decode cX1_firstIntoLost 0 = .ok (.iconst 0, 1) := by decide +kernel
theorem dX1_firstIntoLost_1 : decode cX1_firstIntoLost 1 = .ok (.istore_n 2, 1) := by decide +kernel
theorem dX1_firstIntoLost_2 : decode cX1_firstIntoLost 2 = .ok (.iload_n 2, 1) := by decide +kernel
theorem dX1_firstIntoLost_3 : decode cX1_firstIntoLost 3 = .ok (.aload_n 1, 1) := by decide +kernel
theorem dX1_firstIntoLost_4 : decode cX1_firstIntoLost 4 = .ok (.invokevirtual 51, 3) := by decide +kernel
theorem dX1_firstIntoLost_7 : decode cX1_firstIntoLost 7 = .ok (.if_icmp .ge 52, 3) := by decide +kernel
theorem dX1_firstIntoLost_10 : decode cX1_firstIntoLost 10 = .ok (.aload_n 1, 1) := by decide +kernel
theorem dX1_firstIntoLost_11 : decode cX1_firstIntoLost 11 = .ok (.iload_n 2, 1) := by decide +kernel
theorem dX1_firstIntoLost_12 : decode cX1_firstIntoLost 12 = .ok (.invokevirtual 55, 3) := by decide +kernel
theorem dX1_firstIntoLost_15 : decode cX1_firstIntoLost 15 = .ok (.checkcast 65, 3) := by decide +kernel
theorem dX1_firstIntoLost_18 : decode cX1_firstIntoLost 18 = .ok (.astore_n 3, 1) := by decide +kernel
theorem dX1_firstIntoLost_19 : decode cX1_firstIntoLost 19 = .ok (.aload_n 3, 1) := by decide +kernel
theorem dX1_firstIntoLost_20 : decode cX1_firstIntoLost 20 = .ok (.getfield 67, 3) := by decide +kernel
theorem dX1_firstIntoLost_23 : decode cX1_firstIntoLost 23 = .ok (.getfield 82, 3) := by decide +kernel
theorem dX1_firstIntoLost_26 : decode cX1_firstIntoLost 26 = .ok (.astore 4, 2) := by decide +kernel
theorem dX1_firstIntoLost_28 : decode cX1_firstIntoLost 28 = .ok (.aload_n 3, 1) := by decide +kernel
theorem dX1_firstIntoLost_29 : decode cX1_firstIntoLost 29 = .ok (.getfield 71, 3) := by decide +kernel
theorem dX1_firstIntoLost_32 : decode cX1_firstIntoLost 32 = .ok (.invokevirtual 72, 3) := by decide +kernel
theorem dX1_firstIntoLost_35 : decode cX1_firstIntoLost 35 = .ok (.ifCond .eq 18, 3) := by decide +kernel
theorem dX1_firstIntoLost_38 : decode cX1_firstIntoLost 38 = .ok (.aload 4, 2) := by decide +kernel
theorem dX1_firstIntoLost_40 : decode cX1_firstIntoLost 40 = .ok (.ifnull 13, 3) := by decide +kernel
theorem dX1_firstIntoLost_43 : decode cX1_firstIntoLost 43 = .ok (.aload 4, 2) := by decide +kernel
theorem dX1_firstIntoLost_45 : decode cX1_firstIntoLost 45 = .ok (.getfield 85, 3) := by decide +kernel
theorem dX1_firstIntoLost_48 : decode cX1_firstIntoLost 48 = .ok (.ifCond .eq 5, 3) := by decide +kernel
theorem dX1_firstIntoLost_51 : decode cX1_firstIntoLost 51 = .ok (.iload_n 2, 1) := by decide +kernel
theorem dX1_firstIntoLost_52 : decode cX1_firstIntoLost 52 = .ok (.ireturn, 1) := by decide +kernel
theorem dX1_firstIntoLost_53 : decode cX1_firstIntoLost 53 = .ok (.iinc 2 1, 3) := by decide +kernel
theorem dX1_firstIntoLost_56 : decode cX1_firstIntoLost 56 = .ok (.goto (-54), 3) := by decide +kernel
theorem dX1_firstIntoLost_59 : decode cX1_firstIntoLost 59 = .ok (.iconst (-1), 1) := by decide +kernel
theorem dX1_firstIntoLost_60 : decode cX1_firstIntoLost 60 = .ok (.ireturn, 1) := by decide +kernel
theorem dX1_begin_0 : decode cX1_begin 0 = .ok (.aload_n 0, 1) := by decide +kernel
theorem dX1_begin_1 : decode cX1_begin 1 = .ok (.getfield 12, 3) := by decide +kernel
theorem dX1_begin_4 : decode cX1_begin 4 = .ok (.invokevirtual 89, 3) := by decide +kernel
theorem dX1_begin_7 : decode cX1_begin 7 = .ok (.iconst 0, 1) := by decide +kernel
theorem dX1_begin_8 : decode cX1_begin 8 = .ok (.istore_n 2, 1) := by decide +kernel
theorem dX1_begin_9 : decode cX1_begin 9 = .ok (.iload_n 2, 1) := by decide +kernel
theorem dX1_begin_10 : decode cX1_begin 10 = .ok (.aload_n 1, 1) := by decide +kernel
theorem dX1_begin_11 : decode cX1_begin 11 = .ok (.invokevirtual 51, 3) := by decide +kernel
theorem dX1_begin_14 : decode cX1_begin 14 = .ok (.if_icmp .ge 33, 3) := by decide +kernel
theorem dX1_begin_17 : decode cX1_begin 17 = .ok (.aload_n 1, 1) := by decide +kernel
theorem dX1_begin_18 : decode cX1_begin 18 = .ok (.iload_n 2, 1) := by decide +kernel
theorem dX1_begin_19 : decode cX1_begin 19 = .ok (.invokevirtual 55, 3) := by decide +kernel
theorem dX1_begin_22 : decode cX1_begin 22 = .ok (.checkcast 59, 3) := by decide +kernel
theorem dX1_begin_25 : decode cX1_begin 25 = .ok (.iconst (-1), 1) := by decide +kernel
theorem dX1_begin_26 : decode cX1_begin 26 = .ok (.putfield 92, 3) := by decide +kernel
theorem dX1_begin_29 : decode cX1_begin 29 = .ok (.aload_n 1, 1) := by decide +kernel
theorem dX1_begin_30 : decode cX1_begin 30 = .ok (.iload_n 2, 1) := by decide +kernel
theorem dX1_begin_31 : decode cX1_begin 31 = .ok (.invokevirtual 55, 3) := by decide +kernel
theorem dX1_begin_34 : decode cX1_begin 34 = .ok (.checkcast 59, 3) := by decide +kernel
theorem dX1_begin_37 : decode cX1_begin 37 = .ok (.aconst_null, 1) := by decide +kernel
theorem dX1_begin_38 : decode cX1_begin 38 = .ok (.putfield 95, 3) := by decide +kernel
theorem dX1_begin_41 : decode cX1_begin 41 = .ok (.iinc 2 1, 3) := by decide +kernel
theorem dX1_begin_44 : decode cX1_begin 44 = .ok (.goto (-35), 3) := by decide +kernel
theorem dX1_begin_47 : decode cX1_begin 47 = .ok (.iconst 0, 1) := by decide +kernel
theorem dX1_begin_48 : decode cX1_begin 48 = .ok (.istore_n 2, 1) := by decide +kernel
theorem dX1_begin_49 : decode cX1_begin 49 = .ok (.iload_n 2, 1) := by decide +kernel
theorem dX1_begin_50 : decode cX1_begin 50 = .ok (.aload_n 1, 1) := by decide +kernel
theorem dX1_begin_51 : decode cX1_begin 51 = .ok (.invokevirtual 51, 3) := by decide +kernel
theorem dX1_begin_54 : decode cX1_begin 54 = .ok (.if_icmp .ge 36, 3) := by decide +kernel
theorem dX1_begin_57 : decode cX1_begin 57 = .ok (.aload_n 1, 1) := by decide +kernel
theorem dX1_begin_58 : decode cX1_begin 58 = .ok (.iload_n 2, 1) := by decide +kernel
theorem dX1_begin_59 : decode cX1_begin 59 = .ok (.invokevirtual 55, 3) := by decide +kernel
theorem dX1_begin_62 : decode cX1_begin 62 = .ok (.checkcast 59, 3) := by decide +kernel
theorem dX1_begin_65 : decode cX1_begin 65 = .ok (.getfield 98, 3) := by decide +kernel
theorem dX1_begin_68 : decode cX1_begin 68 = .ok (.ifCond .eq 16, 3) := by decide +kernel
theorem dX1_begin_71 : decode cX1_begin 71 = .ok (.aload_n 0, 1) := by decide +kernel
theorem dX1_begin_72 : decode cX1_begin 72 = .ok (.aload_n 1, 1) := by decide +kernel
theorem dX1_begin_73 : decode cX1_begin 73 = .ok (.iload_n 2, 1) := by decide +kernel
theorem dX1_begin_74 : decode cX1_begin 74 = .ok (.invokevirtual 55, 3) := by decide +kernel
theorem dX1_begin_77 : decode cX1_begin 77 = .ok (.checkcast 59, 3) := by decide +kernel
theorem dX1_begin_80 : decode cX1_begin 80 = .ok (.aconst_null, 1) := by decide +kernel
theorem dX1_begin_81 : decode cX1_begin 81 = .ok (.invokevirtual 47, 3) := by decide +kernel
theorem dX1_begin_84 : decode cX1_begin 84 = .ok (.iinc 2 1, 3) := by decide +kernel
theorem dX1_begin_87 : decode cX1_begin 87 = .ok (.goto (-38), 3) := by decide +kernel
theorem dX1_begin_90 : decode cX1_begin 90 = .ok (.return_, 1) := by decide +kernel
theorem dX1_admit_0 : decode cX1_admit 0 = .ok (.aload_n 1, 1) := by decide +kernel
theorem dX1_admit_1 : decode cX1_admit 1 = .ok (.ifnull 42, 3) := by decide +kernel
theorem dX1_admit_4 : decode cX1_admit 4 = .ok (.aload_n 1, 1) := by decide +kernel
theorem dX1_admit_5 : decode cX1_admit 5 = .ok (.getfield 85, 3) := by decide +kernel
theorem dX1_admit_8 : decode cX1_admit 8 = .ok (.ifCond .ne 35, 3) := by decide +kernel
theorem dX1_admit_11 : decode cX1_admit 11 = .ok (.aload_n 1, 1) := by decide +kernel
theorem dX1_admit_12 : decode cX1_admit 12 = .ok (.invokevirtual 72, 3) := by decide +kernel
theorem dX1_admit_15 : decode cX1_admit 15 = .ok (.ifCond .ne 28, 3) := by decide +kernel
theorem dX1_admit_18 : decode cX1_admit 18 = .ok (.aload_n 1, 1) := by decide +kernel
theorem dX1_admit_19 : decode cX1_admit 19 = .ok (.aload_n 0, 1) := by decide +kernel
theorem dX1_admit_20 : decode cX1_admit 20 = .ok (.getfield 12, 3) := by decide +kernel
theorem dX1_admit_23 : decode cX1_admit 23 = .ok (.invokevirtual 51, 3) := by decide +kernel
theorem dX1_admit_26 : decode cX1_admit 26 = .ok (.putfield 92, 3) := by decide +kernel
theorem dX1_admit_29 : decode cX1_admit 29 = .ok (.aload_n 1, 1) := by decide +kernel
theorem dX1_admit_30 : decode cX1_admit 30 = .ok (.aload_n 2, 1) := by decide +kernel
theorem dX1_admit_31 : decode cX1_admit 31 = .ok (.putfield 95, 3) := by decide +kernel
theorem dX1_admit_34 : decode cX1_admit 34 = .ok (.aload_n 0, 1) := by decide +kernel
theorem dX1_admit_35 : decode cX1_admit 35 = .ok (.getfield 12, 3) := by decide +kernel
theorem dX1_admit_38 : decode cX1_admit 38 = .ok (.aload_n 1, 1) := by decide +kernel
theorem dX1_admit_39 : decode cX1_admit 39 = .ok (.invokevirtual 101, 3) := by decide +kernel
theorem dX1_admit_42 : decode cX1_admit 42 = .ok (.pop, 1) := by decide +kernel
theorem dX1_admit_43 : decode cX1_admit 43 = .ok (.return_, 1) := by decide +kernel
theorem dX1_follow_0 : decode cX1_follow 0 = .ok (.iconst 0, 1) := by decide +kernel
theorem dX1_follow_1 : decode cX1_follow 1 = .ok (.istore_n 3, 1) := by decide +kernel
theorem dX1_follow_2 : decode cX1_follow 2 = .ok (.iload_n 3, 1) := by decide +kernel
theorem dX1_follow_3 : decode cX1_follow 3 = .ok (.aload_n 1, 1) := by decide +kernel
theorem dX1_follow_4 : decode cX1_follow 4 = .ok (.getfield 105, 3) := by decide +kernel
theorem dX1_follow_7 : decode cX1_follow 7 = .ok (.invokevirtual 51, 3) := by decide +kernel
theorem dX1_follow_10 : decode cX1_follow 10 = .ok (.if_icmp .ge 55, 3) := by decide +kernel
theorem dX1_follow_13 : decode cX1_follow 13 = .ok (.aload_n 1, 1) := by decide +kernel
theorem dX1_follow_14 : decode cX1_follow 14 = .ok (.getfield 105, 3) := by decide +kernel
theorem dX1_follow_17 : decode cX1_follow 17 = .ok (.iload_n 3, 1) := by decide +kernel
theorem dX1_follow_18 : decode cX1_follow 18 = .ok (.invokevirtual 55, 3) := by decide +kernel
theorem dX1_follow_21 : decode cX1_follow 21 = .ok (.checkcast 65, 3) := by decide +kernel
theorem dX1_follow_24 : decode cX1_follow 24 = .ok (.getfield 67, 3) := by decide +kernel
theorem dX1_follow_27 : decode cX1_follow 27 = .ok (.astore 4, 2) := by decide +kernel
theorem dX1_follow_29 : decode cX1_follow 29 = .ok (.aload_n 0, 1) := by decide +kernel
theorem dX1_follow_30 : decode cX1_follow 30 = .ok (.aload 4, 2) := by decide +kernel
theorem dX1_follow_32 : decode cX1_follow 32 = .ok (.getfield 82, 3) := by decide +kernel
theorem dX1_follow_35 : decode cX1_follow 35 = .ok (.aload_n 1, 1) := by decide +kernel
theorem dX1_follow_36 : decode cX1_follow 36 = .ok (.invokevirtual 47, 3) := by decide +kernel
theorem dX1_follow_39 : decode cX1_follow 39 = .ok (.aload 4, 2) := by decide +kernel
theorem dX1_follow_41 : decode cX1_follow 41 = .ok (.invokevirtual 108, 3) := by decide +kernel
theorem dX1_follow_44 : decode cX1_follow 44 = .ok (.iconst (-1), 1) := by decide +kernel
theorem dX1_follow_45 : decode cX1_follow 45 = .ok (.if_icmp .eq 14, 3) := by decide +kernel
theorem dX1_follow_48 : decode cX1_follow 48 = .ok (.aload_n 0, 1) := by decide +kernel
theorem dX1_follow_49 : decode cX1_follow 49 = .ok (.aload 4, 2) := by decide +kernel
theorem dX1_follow_51 : decode cX1_follow 51 = .ok (.invokevirtual 108, 3) := by decide +kernel
theorem dX1_follow_54 : decode cX1_follow 54 = .ok (.aload_n 1, 1) := by decide +kernel
theorem dX1_follow_55 : decode cX1_follow 55 = .ok (.aload_n 2, 1) := by decide +kernel
theorem dX1_follow_56 : decode cX1_follow 56 = .ok (.invokevirtual 111, 3) := by decide +kernel
theorem dX1_follow_59 : decode cX1_follow 59 = .ok (.iinc 3 1, 3) := by decide +kernel
theorem dX1_follow_62 : decode cX1_follow 62 = .ok (.goto (-60), 3) := by decide +kernel
theorem dX1_follow_65 : decode cX1_follow 65 = .ok (.aload_n 1, 1) := by decide +kernel
theorem dX1_follow_66 : decode cX1_follow 66 = .ok (.getfield 115, 3) := by decide +kernel
theorem dX1_follow_69 : decode cX1_follow 69 = .ok (.iconst (-1), 1) := by decide +kernel
theorem dX1_follow_70 : decode cX1_follow 70 = .ok (.if_icmp .eq 9, 3) := by decide +kernel
theorem dX1_follow_73 : decode cX1_follow 73 = .ok (.aload_n 0, 1) := by decide +kernel
theorem dX1_follow_74 : decode cX1_follow 74 = .ok (.aload_n 1, 1) := by decide +kernel
theorem dX1_follow_75 : decode cX1_follow 75 = .ok (.aload_n 2, 1) := by decide +kernel
theorem dX1_follow_76 : decode cX1_follow 76 = .ok (.invokevirtual 118, 3) := by decide +kernel
theorem dX1_follow_79 : decode cX1_follow 79 = .ok (.return_, 1) := by decide +kernel
theorem dX1_admitSet_0 : decode cX1_admitSet 0 = .ok (.iconst 0, 1) := by decide +kernel
theorem dX1_admitSet_1 : decode cX1_admitSet 1 = .ok (.istore 4, 2) := by decide +kernel
theorem dX1_admitSet_3 : decode cX1_admitSet 3 = .ok (.iload 4, 2) := by decide +kernel
theorem dX1_admitSet_5 : decode cX1_admitSet 5 = .ok (.aload_n 3, 1) := by decide +kernel
theorem dX1_admitSet_6 : decode cX1_admitSet 6 = .ok (.invokevirtual 51, 3) := by decide +kernel
theorem dX1_admitSet_9 : decode cX1_admitSet 9 = .ok (.if_icmp .ge 39, 3) := by decide +kernel
theorem dX1_admitSet_12 : decode cX1_admitSet 12 = .ok (.aload_n 3, 1) := by decide +kernel
theorem dX1_admitSet_13 : decode cX1_admitSet 13 = .ok (.iload 4, 2) := by decide +kernel
theorem dX1_admitSet_15 : decode cX1_admitSet 15 = .ok (.invokevirtual 55, 3) := by decide +kernel
theorem dX1_admitSet_18 : decode cX1_admitSet 18 = .ok (.checkcast 59, 3) := by decide +kernel
theorem dX1_admitSet_21 : decode cX1_admitSet 21 = .ok (.getfield 121, 3) := by decide +kernel
theorem dX1_admitSet_24 : decode cX1_admitSet 24 = .ok (.iload_n 1, 1) := by decide +kernel
theorem dX1_admitSet_25 : decode cX1_admitSet 25 = .ok (.if_icmp .ne 17, 3) := by decide +kernel
theorem dX1_admitSet_28 : decode cX1_admitSet 28 = .ok (.aload_n 0, 1) := by decide +kernel
theorem dX1_admitSet_29 : decode cX1_admitSet 29 = .ok (.aload_n 3, 1) := by decide +kernel
theorem dX1_admitSet_30 : decode cX1_admitSet 30 = .ok (.iload 4, 2) := by decide +kernel
theorem dX1_admitSet_32 : decode cX1_admitSet 32 = .ok (.invokevirtual 55, 3) := by decide +kernel
theorem dX1_admitSet_35 : decode cX1_admitSet 35 = .ok (.checkcast 59, 3) := by decide +kernel
theorem dX1_admitSet_38 : decode cX1_admitSet 38 = .ok (.aload_n 2, 1) := by decide +kernel
theorem dX1_admitSet_39 : decode cX1_admitSet 39 = .ok (.invokevirtual 47, 3) := by decide +kernel
theorem dX1_admitSet_42 : decode cX1_admitSet 42 = .ok (.iinc 4 1, 3) := by decide +kernel
theorem dX1_admitSet_45 : decode cX1_admitSet 45 = .ok (.goto (-42), 3) := by decide +kernel
theorem dX1_admitSet_48 : decode cX1_admitSet 48 = .ok (.return_, 1) := by decide +kernel
theorem dX1_admitGroup_0 : decode cX1_admitGroup 0 = .ok (.iconst 0, 1) := by decide +kernel
theorem dX1_admitGroup_1 : decode cX1_admitGroup 1 = .ok (.istore_n 3, 1) := by decide +kernel
theorem dX1_admitGroup_2 : decode cX1_admitGroup 2 = .ok (.iload_n 3, 1) := by decide +kernel
theorem dX1_admitGroup_3 : decode cX1_admitGroup 3 = .ok (.aload_n 2, 1) := by decide +kernel
theorem dX1_admitGroup_4 : decode cX1_admitGroup 4 = .ok (.invokevirtual 51, 3) := by decide +kernel
theorem dX1_admitGroup_7 : decode cX1_admitGroup 7 = .ok (.if_icmp .ge 40, 3) := by decide +kernel
theorem dX1_admitGroup_10 : decode cX1_admitGroup 10 = .ok (.aload_n 2, 1) := by decide +kernel
theorem dX1_admitGroup_11 : decode cX1_admitGroup 11 = .ok (.iload_n 3, 1) := by decide +kernel
theorem dX1_admitGroup_12 : decode cX1_admitGroup 12 = .ok (.invokevirtual 55, 3) := by decide +kernel
theorem dX1_admitGroup_15 : decode cX1_admitGroup 15 = .ok (.checkcast 59, 3) := by decide +kernel
theorem dX1_admitGroup_18 : decode cX1_admitGroup 18 = .ok (.getfield 115, 3) := by decide +kernel
theorem dX1_admitGroup_21 : decode cX1_admitGroup 21 = .ok (.aload_n 1, 1) := by decide +kernel
theorem dX1_admitGroup_22 : decode cX1_admitGroup 22 = .ok (.getfield 115, 3) := by decide +kernel
theorem dX1_admitGroup_25 : decode cX1_admitGroup 25 = .ok (.if_icmp .ne 16, 3) := by decide +kernel
theorem dX1_admitGroup_28 : decode cX1_admitGroup 28 = .ok (.aload_n 0, 1) := by decide +kernel
theorem dX1_admitGroup_29 : decode cX1_admitGroup 29 = .ok (.aload_n 2, 1) := by decide +kernel
theorem dX1_admitGroup_30 : decode cX1_admitGroup 30 = .ok (.iload_n 3, 1) := by decide +kernel
theorem dX1_admitGroup_31 : decode cX1_admitGroup 31 = .ok (.invokevirtual 55, 3) := by decide +kernel
theorem dX1_admitGroup_34 : decode cX1_admitGroup 34 = .ok (.checkcast 59, 3) := by decide +kernel
theorem dX1_admitGroup_37 : decode cX1_admitGroup 37 = .ok (.aload_n 1, 1) := by decide +kernel
theorem dX1_admitGroup_38 : decode cX1_admitGroup 38 = .ok (.invokevirtual 47, 3) := by decide +kernel
theorem dX1_admitGroup_41 : decode cX1_admitGroup 41 = .ok (.iinc 3 1, 3) := by decide +kernel
theorem dX1_admitGroup_44 : decode cX1_admitGroup 44 = .ok (.goto (-42), 3) := by decide +kernel
theorem dX1_admitGroup_47 : decode cX1_admitGroup 47 = .ok (.return_, 1) := by decide +kernel
theorem dX2_init_0 : decode cX2_init 0 = .ok (.aload_n 0, 1) := by decide +kernel
theorem dX2_init_1 : decode cX2_init 1 = .ok (.invokespecial 3, 3) := by decide +kernel
theorem dX2_init_4 : decode cX2_init 4 = .ok (.aload_n 0, 1) := by decide +kernel
theorem dX2_init_5 : decode cX2_init 5 = .ok (.bipush 16, 2) := by decide +kernel
theorem dX2_init_7 : decode cX2_init 7 = .ok (.newarray .int, 2) := by decide +kernel
theorem dX2_init_9 : decode cX2_init 9 = .ok (.putfield 9, 3) := by decide +kernel
theorem dX2_init_12 : decode cX2_init 12 = .ok (.aload_n 0, 1) := by decide +kernel
theorem dX2_init_13 : decode cX2_init 13 = .ok (.bipush 64, 2) := by decide +kernel
theorem dX2_init_15 : decode cX2_init 15 = .ok (.anewarray 15, 3) := by decide +kernel
theorem dX2_init_18 : decode cX2_init 18 = .ok (.putfield 17, 3) := by decide +kernel
theorem dX2_init_21 : decode cX2_init 21 = .ok (.return_, 1) := by decide +kernel
theorem dX2_resolve_0 : decode cX2_resolve 0 = .ok (.aload_n 0, 1) := by decide +kernel
theorem dX2_resolve_1 : decode cX2_resolve 1 = .ok (.aload_n 1, 1) := by decide +kernel
theorem dX2_resolve_2 : decode cX2_resolve 2 = .ok (.getfield 21, 3) := by decide +kernel
theorem dX2_resolve_5 : decode cX2_resolve 5 = .ok (.invokevirtual 27, 3) := by decide +kernel
theorem dX2_resolve_8 : decode cX2_resolve 8 = .ok (.aload_n 0, 1) := by decide +kernel
theorem dX2_resolve_9 : decode cX2_resolve 9 = .ok (.aload_n 1, 1) := by decide +kernel
theorem dX2_resolve_10 : decode cX2_resolve 10 = .ok (.getfield 31, 3) := by decide +kernel
theorem dX2_resolve_13 : decode cX2_resolve 13 = .ok (.invokevirtual 34, 3) := by decide +kernel
theorem dX2_resolve_16 : decode cX2_resolve 16 = .ok (.istore_n 2, 1) := by decide +kernel
theorem dX2_resolve_17 : decode cX2_resolve 17 = .ok (.iload_n 2, 1) := by decide +kernel
theorem dX2_resolve_18 : decode cX2_resolve 18 = .ok (.iconst (-1), 1) := by decide +kernel
theorem dX2_resolve_19 : decode cX2_resolve 19 = .ok (.if_icmp .ne 11, 3) := by decide +kernel
theorem dX2_resolve_22 : decode cX2_resolve 22 = .ok (.aload_n 0, 1) := by decide +kernel
theorem dX2_resolve_23 : decode cX2_resolve 23 = .ok (.aload_n 1, 1) := by decide +kernel
theorem dX2_resolve_24 : decode cX2_resolve 24 = .ok (.getfield 31, 3) := by decide +kernel
theorem dX2_resolve_27 : decode cX2_resolve 27 = .ok (.invokevirtual 38, 3) := by decide +kernel
theorem dX2_resolve_30 : decode cX2_resolve 30 = .ok (.iload_n 2, 1) := by decide +kernel
theorem dX2_resolve_31 : decode cX2_resolve 31 = .ok (.ireturn, 1) := by decide +kernel
theorem dX2_definitionOf_0 : decode cX2_definitionOf 0 = .ok (.iload_n 1, 1) := by decide +kernel
theorem dX2_definitionOf_1 : decode cX2_definitionOf 1 = .ok (.ifCond .lt 21, 3) := by decide +kernel
theorem dX2_definitionOf_4 : decode cX2_definitionOf 4 = .ok (.iload_n 1, 1) := by decide +kernel
theorem dX2_definitionOf_5 : decode cX2_definitionOf 5 = .ok (.aload_n 0, 1) := by decide +kernel
theorem dX2_definitionOf_6 : decode cX2_definitionOf 6 = .ok (.getfield 17, 3) := by decide +kernel
theorem dX2_definitionOf_9 : decode cX2_definitionOf 9 = .ok (.arraylength, 1) := by decide +kernel
theorem dX2_definitionOf_10 : decode cX2_definitionOf 10 = .ok (.if_icmp .ge 12, 3) := by decide +kernel
theorem dX2_definitionOf_13 : decode cX2_definitionOf 13 = .ok (.aload_n 0, 1) := by decide +kernel
theorem dX2_definitionOf_14 : decode cX2_definitionOf 14 = .ok (.getfield 17, 3) := by decide +kernel
theorem dX2_definitionOf_17 : decode cX2_definitionOf 17 = .ok (.iload_n 1, 1) := by decide +kernel
theorem dX2_definitionOf_18 : decode cX2_definitionOf 18 = .ok (.aaload, 1) := by decide +kernel
theorem dX2_definitionOf_19 : decode cX2_definitionOf 19 = .ok (.goto 4, 3) := by decide +kernel
theorem dX2_definitionOf_22 : decode cX2_definitionOf 22 = .ok (.aconst_null, 1) := by decide +kernel
theorem dX2_definitionOf_23 : decode cX2_definitionOf 23 = .ok (.areturn, 1) := by decide +kernel
theorem dX2_firstRootNowhere_0 : decode cX2_firstRootNowhere 0 = .ok (.iconst 0, 1) := by decide +kernel
theorem dX2_firstRootNowhere_1 : decode cX2_firstRootNowhere 1 = .ok (.istore_n 2, 1) := by decide +kernel
theorem dX2_firstRootNowhere_2 : decode cX2_firstRootNowhere 2 = .ok (.iload_n 2, 1) := by decide +kernel
theorem dX2_firstRootNowhere_3 : decode cX2_firstRootNowhere 3 = .ok (.aload_n 1, 1) := by decide +kernel
theorem dX2_firstRootNowhere_4 : decode cX2_firstRootNowhere 4 = .ok (.getfield 41, 3) := by decide +kernel
theorem dX2_firstRootNowhere_7 : decode cX2_firstRootNowhere 7 = .ok (.if_icmp .ge 33, 3) := by decide +kernel
theorem dX2_firstRootNowhere_10 : decode cX2_firstRootNowhere 10 = .ok (.iload_n 2, 1) := by decide +kernel
theorem dX2_firstRootNowhere_11 : decode cX2_firstRootNowhere 11 = .ok (.aload_n 1, 1) := by decide +kernel
theorem dX2_firstRootNowhere_12 : decode cX2_firstRootNowhere 12 = .ok (.getfield 45, 3) := by decide +kernel
theorem dX2_firstRootNowhere_15 : decode cX2_firstRootNowhere 15 = .ok (.arraylength, 1) := by decide +kernel
theorem dX2_firstRootNowhere_16 : decode cX2_firstRootNowhere 16 = .ok (.if_icmp .ge 24, 3) := by decide +kernel
theorem dX2_firstRootNowhere_19 : decode cX2_firstRootNowhere 19 = .ok (.aload_n 0, 1) := by decide +kernel
theorem dX2_firstRootNowhere_20 : decode cX2_firstRootNowhere 20 = .ok (.aload_n 1, 1) := by decide +kernel
theorem dX2_firstRootNowhere_21 : decode cX2_firstRootNowhere 21 = .ok (.getfield 45, 3) := by decide +kernel
theorem dX2_firstRootNowhere_24 : decode cX2_firstRootNowhere 24 = .ok (.iload_n 2, 1) := by decide +kernel
theorem dX2_firstRootNowhere_25 : decode cX2_firstRootNowhere 25 = .ok (.iaload, 1) := by decide +kernel
theorem dX2_firstRootNowhere_26 : decode cX2_firstRootNowhere 26 = .ok (.invokevirtual 48, 3) := by decide +kernel
theorem dX2_firstRootNowhere_29 : decode cX2_firstRootNowhere 29 = .ok (.ifnonnull 5, 3) := by decide +kernel
theorem dX2_firstRootNowhere_32 : decode cX2_firstRootNowhere 32 = .ok (.iload_n 2, 1) := by decide +kernel
theorem dX2_firstRootNowhere_33 : decode cX2_firstRootNowhere 33 = .ok (.ireturn, 1) := by decide +kernel
theorem dX2_firstRootNowhere_34 : decode cX2_firstRootNowhere 34 = .ok (.iinc 2 1, 3) := by decide +kernel
theorem dX2_firstRootNowhere_37 : decode cX2_firstRootNowhere 37 = .ok (.goto (-35), 3) := by decide +kernel
theorem dX2_firstRootNowhere_40 : decode cX2_firstRootNowhere 40 = .ok (.iconst (-1), 1) := by decide +kernel
theorem dX2_firstRootNowhere_41 : decode cX2_firstRootNowhere 41 = .ok (.ireturn, 1) := by decide +kernel
theorem dX2_findLost_0 : decode cX2_findLost 0 = .ok (.aload_n 0, 1) := by decide +kernel
theorem dX2_findLost_1 : decode cX2_findLost 1 = .ok (.getfield 9, 3) := by decide +kernel
theorem dX2_findLost_4 : decode cX2_findLost 4 = .ok (.bipush 12, 2) := by decide +kernel
theorem dX2_findLost_6 : decode cX2_findLost 6 = .ok (.invokestatic 52, 3) := by decide +kernel
theorem dX2_findLost_9 : decode cX2_findLost 9 = .ok (.iconst 0, 1) := by decide +kernel
theorem dX2_findLost_10 : decode cX2_findLost 10 = .ok (.istore_n 2, 1) := by decide +kernel
theorem dX2_findLost_11 : decode cX2_findLost 11 = .ok (.iload_n 2, 1) := by decide +kernel
theorem dX2_findLost_12 : decode cX2_findLost 12 = .ok (.aload_n 1, 1) := by decide +kernel
theorem dX2_findLost_13 : decode cX2_findLost 13 = .ok (.invokevirtual 58, 3) := by decide +kernel
theorem dX2_findLost_16 : decode cX2_findLost 16 = .ok (.if_icmp .ge 51, 3) := by decide +kernel
theorem dX2_findLost_19 : decode cX2_findLost 19 = .ok (.aload_n 1, 1) := by decide +kernel
theorem dX2_findLost_20 : decode cX2_findLost 20 = .ok (.iload_n 2, 1) := by decide +kernel
theorem dX2_findLost_21 : decode cX2_findLost 21 = .ok (.invokevirtual 64, 3) := by decide +kernel
theorem dX2_findLost_24 : decode cX2_findLost 24 = .ok (.checkcast 68, 3) := by decide +kernel
theorem dX2_findLost_27 : decode cX2_findLost 27 = .ok (.astore_n 3, 1) := by decide +kernel
theorem dX2_findLost_28 : decode cX2_findLost 28 = .ok (.aload_n 0, 1) := by decide +kernel
theorem dX2_findLost_29 : decode cX2_findLost 29 = .ok (.aload_n 3, 1) := by decide +kernel
theorem dX2_findLost_30 : decode cX2_findLost 30 = .ok (.invokevirtual 70, 3) := by decide +kernel
theorem dX2_findLost_33 : decode cX2_findLost 33 = .ok (.ifCond .eq 28, 3) := by decide +kernel
theorem dX2_findLost_36 : decode cX2_findLost 36 = .ok (.aload_n 0, 1) := by decide +kernel
theorem dX2_findLost_37 : decode cX2_findLost 37 = .ok (.getfield 9, 3) := by decide +kernel
theorem dX2_findLost_40 : decode cX2_findLost 40 = .ok (.aload_n 3, 1) := by decide +kernel
theorem dX2_findLost_41 : decode cX2_findLost 41 = .ok (.getfield 74, 3) := by decide +kernel
theorem dX2_findLost_44 : decode cX2_findLost 44 = .ok (.aload_n 0, 1) := by decide +kernel
theorem dX2_findLost_45 : decode cX2_findLost 45 = .ok (.getfield 9, 3) := by decide +kernel
theorem dX2_findLost_48 : decode cX2_findLost 48 = .ok (.aload_n 3, 1) := by decide +kernel
theorem dX2_findLost_49 : decode cX2_findLost 49 = .ok (.getfield 74, 3) := by decide +kernel
theorem dX2_findLost_52 : decode cX2_findLost 52 = .ok (.iaload, 1) := by decide +kernel
theorem dX2_findLost_53 : decode cX2_findLost 53 = .ok (.aload_n 3, 1) := by decide +kernel
theorem dX2_findLost_54 : decode cX2_findLost 54 = .ok (.getfield 77, 3) := by decide +kernel
theorem dX2_findLost_57 : decode cX2_findLost 57 = .ok (.invokestatic 80, 3) := by decide +kernel
theorem dX2_findLost_60 : decode cX2_findLost 60 = .ok (.iastore, 1) := by decide +kernel
theorem dX2_findLost_61 : decode cX2_findLost 61 = .ok (.iinc 2 1, 3) := by decide +kernel
theorem dX2_findLost_64 : decode cX2_findLost 64 = .ok (.goto (-53), 3) := by decide +kernel
theorem dX2_findLost_67 : decode cX2_findLost 67 = .ok (.iconst 0, 1) := by decide +kernel
theorem dX2_findLost_68 : decode cX2_findLost 68 = .ok (.istore_n 2, 1) := by decide +kernel
theorem dX2_findLost_69 : decode cX2_findLost 69 = .ok (.iload_n 2, 1) := by decide +kernel
theorem dX2_findLost_70 : decode cX2_findLost 70 = .ok (.aload_n 1, 1) := by decide +kernel
theorem dX2_findLost_71 : decode cX2_findLost 71 = .ok (.invokevirtual 58, 3) := by decide +kernel
theorem dX2_findLost_74 : decode cX2_findLost 74 = .ok (.if_icmp .ge 51, 3) := by decide +kernel
theorem dX2_findLost_77 : decode cX2_findLost 77 = .ok (.aload_n 1, 1) := by decide +kernel
theorem dX2_findLost_78 : decode cX2_findLost 78 = .ok (.iload_n 2, 1) := by decide +kernel
theorem dX2_findLost_79 : decode cX2_findLost 79 = .ok (.invokevirtual 64, 3) := by decide +kernel
theorem dX2_findLost_82 : decode cX2_findLost 82 = .ok (.checkcast 68, 3) := by decide +kernel
theorem dX2_findLost_85 : decode cX2_findLost 85 = .ok (.astore_n 3, 1) := by decide +kernel
theorem dX2_findLost_86 : decode cX2_findLost 86 = .ok (.aload_n 3, 1) := by decide +kernel
theorem dX2_findLost_87 : decode cX2_findLost 87 = .ok (.aload_n 0, 1) := by decide +kernel
theorem dX2_findLost_88 : decode cX2_findLost 88 = .ok (.aload_n 3, 1) := by decide +kernel
theorem dX2_findLost_89 : decode cX2_findLost 89 = .ok (.invokevirtual 70, 3) := by decide +kernel
theorem dX2_findLost_92 : decode cX2_findLost 92 = .ok (.ifCond .eq 23, 3) := by decide +kernel
theorem dX2_findLost_95 : decode cX2_findLost 95 = .ok (.aload_n 0, 1) := by decide +kernel
theorem dX2_findLost_96 : decode cX2_findLost 96 = .ok (.getfield 9, 3) := by decide +kernel
theorem dX2_findLost_99 : decode cX2_findLost 99 = .ok (.aload_n 3, 1) := by decide +kernel
theorem dX2_findLost_100 : decode cX2_findLost 100 = .ok (.getfield 74, 3) := by decide +kernel
theorem dX2_findLost_103 : decode cX2_findLost 103 = .ok (.iaload, 1) := by decide +kernel
theorem dX2_findLost_104 : decode cX2_findLost 104 = .ok (.aload_n 3, 1) := by decide +kernel
theorem dX2_findLost_105 : decode cX2_findLost 105 = .ok (.getfield 77, 3) := by decide +kernel
theorem dX2_findLost_108 : decode cX2_findLost 108 = .ok (.if_icmp .ge 7, 3) := by decide +kernel
theorem dX2_findLost_111 : decode cX2_findLost 111 = .ok (.iconst 1, 1) := by decide +kernel
theorem dX2_findLost_112 : decode cX2_findLost 112 = .ok (.goto 4, 3) := by decide +kernel
theorem dX2_findLost_115 : decode cX2_findLost 115 = .ok (.iconst 0, 1) := by decide +kernel
theorem dX2_findLost_116 : decode cX2_findLost 116 = .ok (.putfield 86, 3) := by decide +kernel
theorem dX2_findLost_119 : decode cX2_findLost 119 = .ok (.iinc 2 1, 3) := by decide +kernel
theorem dX2_findLost_122 : decode cX2_findLost 122 = .ok (.goto (-53), 3) := by decide +kernel
theorem dX2_findLost_125 : decode cX2_findLost 125 = .ok (.return_, 1) := by decide +kernel
theorem dX2_hasGroup_0 : decode cX2_hasGroup 0 = .ok (.aload_n 1, 1) := by decide +kernel
theorem dX2_hasGroup_1 : decode cX2_hasGroup 1 = .ok (.getfield 74, 3) := by decide +kernel
theorem dX2_hasGroup_4 : decode cX2_hasGroup 4 = .ok (.ifCond .lt 19, 3) := by decide +kernel
theorem dX2_hasGroup_7 : decode cX2_hasGroup 7 = .ok (.aload_n 1, 1) := by decide +kernel
theorem dX2_hasGroup_8 : decode cX2_hasGroup 8 = .ok (.getfield 74, 3) := by decide +kernel
theorem dX2_hasGroup_11 : decode cX2_hasGroup 11 = .ok (.aload_n 0, 1) := by decide +kernel
theorem dX2_hasGroup_12 : decode cX2_hasGroup 12 = .ok (.getfield 9, 3) := by decide +kernel
theorem dX2_hasGroup_15 : decode cX2_hasGroup 15 = .ok (.arraylength, 1) := by decide +kernel
theorem dX2_hasGroup_16 : decode cX2_hasGroup 16 = .ok (.if_icmp .ge 7, 3) := by decide +kernel
theorem dX2_hasGroup_19 : decode cX2_hasGroup 19 = .ok (.iconst 1, 1) := by decide +kernel
theorem dX2_hasGroup_20 : decode cX2_hasGroup 20 = .ok (.goto 4, 3) := by decide +kernel
theorem dX2_hasGroup_23 : decode cX2_hasGroup 23 = .ok (.iconst 0, 1) := by decide +kernel
theorem dX2_hasGroup_24 : decode cX2_hasGroup 24 = .ok (.ireturn, 1) := by decide +kernel
theorem dX2_findDefinitions_0 : decode cX2_findDefinitions 0 = .ok (.iconst 0, 1) := by decide +kernel
theorem dX2_findDefinitions_1 : decode cX2_findDefinitions 1 = .ok (.istore_n 2, 1) := by decide +kernel
theorem dX2_findDefinitions_2 : decode cX2_findDefinitions 2 = .ok (.iload_n 2, 1) := by decide +kernel
theorem dX2_findDefinitions_3 : decode cX2_findDefinitions 3 = .ok (.aload_n 0, 1) := by decide +kernel
theorem dX2_findDefinitions_4 : decode cX2_findDefinitions 4 = .ok (.getfield 17, 3) := by decide +kernel
theorem dX2_findDefinitions_7 : decode cX2_findDefinitions 7 = .ok (.arraylength, 1) := by decide +kernel
theorem dX2_findDefinitions_8 : decode cX2_findDefinitions 8 = .ok (.if_icmp .ge 16, 3) := by decide +kernel
theorem dX2_findDefinitions_11 : decode cX2_findDefinitions 11 = .ok (.aload_n 0, 1) := by decide +kernel
theorem dX2_findDefinitions_12 : decode cX2_findDefinitions 12 = .ok (.getfield 17, 3) := by decide +kernel
theorem dX2_findDefinitions_15 : decode cX2_findDefinitions 15 = .ok (.iload_n 2, 1) := by decide +kernel
theorem dX2_findDefinitions_16 : decode cX2_findDefinitions 16 = .ok (.aconst_null, 1) := by decide +kernel
theorem dX2_findDefinitions_17 : decode cX2_findDefinitions 17 = .ok (.aastore, 1) := by decide +kernel
theorem dX2_findDefinitions_18 : decode cX2_findDefinitions 18 = .ok (.iinc 2 1, 3) := by decide +kernel
theorem dX2_findDefinitions_21 : decode cX2_findDefinitions 21 = .ok (.goto (-19), 3) := by decide +kernel
theorem dX2_findDefinitions_24 : decode cX2_findDefinitions 24 = .ok (.iconst 0, 1) := by decide +kernel
theorem dX2_findDefinitions_25 : decode cX2_findDefinitions 25 = .ok (.istore_n 2, 1) := by decide +kernel
theorem dX2_findDefinitions_26 : decode cX2_findDefinitions 26 = .ok (.iload_n 2, 1) := by decide +kernel
theorem dX2_findDefinitions_27 : decode cX2_findDefinitions 27 = .ok (.aload_n 1, 1) := by decide +kernel
theorem dX2_findDefinitions_28 : decode cX2_findDefinitions 28 = .ok (.invokevirtual 58, 3) := by decide +kernel
theorem dX2_findDefinitions_31 : decode cX2_findDefinitions 31 = .ok (.if_icmp .ge 35, 3) := by decide +kernel
theorem dX2_findDefinitions_34 : decode cX2_findDefinitions 34 = .ok (.aload_n 1, 1) := by decide +kernel
theorem dX2_findDefinitions_35 : decode cX2_findDefinitions 35 = .ok (.iload_n 2, 1) := by decide +kernel
theorem dX2_findDefinitions_36 : decode cX2_findDefinitions 36 = .ok (.invokevirtual 64, 3) := by decide +kernel
theorem dX2_findDefinitions_39 : decode cX2_findDefinitions 39 = .ok (.checkcast 15, 3) := by decide +kernel
theorem dX2_findDefinitions_42 : decode cX2_findDefinitions 42 = .ok (.astore_n 3, 1) := by decide +kernel
theorem dX2_findDefinitions_43 : decode cX2_findDefinitions 43 = .ok (.aload_n 3, 1) := by decide +kernel
theorem dX2_findDefinitions_44 : decode cX2_findDefinitions 44 = .ok (.invokevirtual 90, 3) := by decide +kernel
theorem dX2_findDefinitions_47 : decode cX2_findDefinitions 47 = .ok (.ifCond .eq 13, 3) := by decide +kernel
theorem dX2_findDefinitions_50 : decode cX2_findDefinitions 50 = .ok (.aload_n 0, 1) := by decide +kernel
theorem dX2_findDefinitions_51 : decode cX2_findDefinitions 51 = .ok (.aload_n 3, 1) := by decide +kernel
theorem dX2_findDefinitions_52 : decode cX2_findDefinitions 52 = .ok (.invokevirtual 94, 3) := by decide +kernel
theorem dX2_findDefinitions_55 : decode cX2_findDefinitions 55 = .ok (.ifCond .ne 5, 3) := by decide +kernel
theorem dX2_findDefinitions_58 : decode cX2_findDefinitions 58 = .ok (.iload_n 2, 1) := by decide +kernel
theorem dX2_findDefinitions_59 : decode cX2_findDefinitions 59 = .ok (.ireturn, 1) := by decide +kernel
theorem dX2_findDefinitions_60 : decode cX2_findDefinitions 60 = .ok (.iinc 2 1, 3) := by decide +kernel
theorem dX2_findDefinitions_63 : decode cX2_findDefinitions 63 = .ok (.goto (-37), 3) := by decide +kernel
theorem dX2_findDefinitions_66 : decode cX2_findDefinitions 66 = .ok (.iconst (-1), 1) := by decide +kernel
theorem dX2_findDefinitions_67 : decode cX2_findDefinitions 67 = .ok (.ireturn, 1) := by decide +kernel
theorem dX2_takeDefinition_0 : decode cX2_takeDefinition 0 = .ok (.aload_n 0, 1) := by decide +kernel
theorem dX2_takeDefinition_1 : decode cX2_takeDefinition 1 = .ok (.aload_n 1, 1) := by decide +kernel
theorem dX2_takeDefinition_2 : decode cX2_takeDefinition 2 = .ok (.getfield 98, 3) := by decide +kernel
theorem dX2_takeDefinition_5 : decode cX2_takeDefinition 5 = .ok (.invokevirtual 48, 3) := by decide +kernel
theorem dX2_takeDefinition_8 : decode cX2_takeDefinition 8 = .ok (.astore_n 2, 1) := by decide +kernel
theorem dX2_takeDefinition_9 : decode cX2_takeDefinition 9 = .ok (.aload_n 2, 1) := by decide +kernel
theorem dX2_takeDefinition_10 : decode cX2_takeDefinition 10 = .ok (.ifnull 19, 3) := by decide +kernel
theorem dX2_takeDefinition_13 : decode cX2_takeDefinition 13 = .ok (.aload_n 2, 1) := by decide +kernel
theorem dX2_takeDefinition_14 : decode cX2_takeDefinition 14 = .ok (.getfield 101, 3) := by decide +kernel
theorem dX2_takeDefinition_17 : decode cX2_takeDefinition 17 = .ok (.iconst 2, 1) := by decide +kernel
theorem dX2_takeDefinition_18 : decode cX2_takeDefinition 18 = .ok (.if_icmp .ne 15, 3) := by decide +kernel
theorem dX2_takeDefinition_21 : decode cX2_takeDefinition 21 = .ok (.aload_n 1, 1) := by decide +kernel
theorem dX2_takeDefinition_22 : decode cX2_takeDefinition 22 = .ok (.getfield 101, 3) := by decide +kernel
theorem dX2_takeDefinition_25 : decode cX2_takeDefinition 25 = .ok (.iconst 1, 1) := by decide +kernel
theorem dX2_takeDefinition_26 : decode cX2_takeDefinition 26 = .ok (.if_icmp .ne 7, 3) := by decide +kernel
theorem dX2_takeDefinition_29 : decode cX2_takeDefinition 29 = .ok (.iconst 1, 1) := by decide +kernel
theorem dX2_takeDefinition_30 : decode cX2_takeDefinition 30 = .ok (.goto 4, 3) := by decide +kernel
theorem dX2_takeDefinition_33 : decode cX2_takeDefinition 33 = .ok (.iconst 0, 1) := by decide +kernel
theorem dX2_takeDefinition_34 : decode cX2_takeDefinition 34 = .ok (.istore_n 3, 1) := by decide +kernel
theorem dX2_takeDefinition_35 : decode cX2_takeDefinition 35 = .ok (.iload_n 3, 1) := by decide +kernel
theorem dX2_takeDefinition_36 : decode cX2_takeDefinition 36 = .ok (.ifCond .eq 32, 3) := by decide +kernel
theorem dX2_takeDefinition_39 : decode cX2_takeDefinition 39 = .ok (.aload_n 1, 1) := by decide +kernel
theorem dX2_takeDefinition_40 : decode cX2_takeDefinition 40 = .ok (.getfield 98, 3) := by decide +kernel
theorem dX2_takeDefinition_43 : decode cX2_takeDefinition 43 = .ok (.ifCond .lt 25, 3) := by decide +kernel
theorem dX2_takeDefinition_46 : decode cX2_takeDefinition 46 = .ok (.aload_n 1, 1) := by decide +kernel
theorem dX2_takeDefinition_47 : decode cX2_takeDefinition 47 = .ok (.getfield 98, 3) := by decide +kernel
theorem dX2_takeDefinition_50 : decode cX2_takeDefinition 50 = .ok (.aload_n 0, 1) := by decide +kernel
theorem dX2_takeDefinition_51 : decode cX2_takeDefinition 51 = .ok (.getfield 17, 3) := by decide +kernel
theorem dX2_takeDefinition_54 : decode cX2_takeDefinition 54 = .ok (.arraylength, 1) := by decide +kernel
theorem dX2_takeDefinition_55 : decode cX2_takeDefinition 55 = .ok (.if_icmp .ge 13, 3) := by decide +kernel
theorem dX2_takeDefinition_58 : decode cX2_takeDefinition 58 = .ok (.aload_n 0, 1) := by decide +kernel
theorem dX2_takeDefinition_59 : decode cX2_takeDefinition 59 = .ok (.getfield 17, 3) := by decide +kernel
theorem dX2_takeDefinition_62 : decode cX2_takeDefinition 62 = .ok (.aload_n 1, 1) := by decide +kernel
theorem dX2_takeDefinition_63 : decode cX2_takeDefinition 63 = .ok (.getfield 98, 3) := by decide +kernel
theorem dX2_takeDefinition_66 : decode cX2_takeDefinition 66 = .ok (.aload_n 1, 1) := by decide +kernel
theorem dX2_takeDefinition_67 : decode cX2_takeDefinition 67 = .ok (.aastore, 1) := by decide +kernel
theorem dX2_takeDefinition_68 : decode cX2_takeDefinition 68 = .ok (.iload_n 3, 1) := by decide +kernel
theorem dX2_takeDefinition_69 : decode cX2_takeDefinition 69 = .ok (.ifCond .ne 11, 3) := by decide +kernel
theorem dX2_takeDefinition_72 : decode cX2_takeDefinition 72 = .ok (.aload_n 1, 1) := by decide +kernel
theorem dX2_takeDefinition_73 : decode cX2_takeDefinition 73 = .ok (.getfield 101, 3) := by decide +kernel
theorem dX2_takeDefinition_76 : decode cX2_takeDefinition 76 = .ok (.iconst 2, 1) := by decide +kernel
theorem dX2_takeDefinition_77 : decode cX2_takeDefinition 77 = .ok (.if_icmp .ne 7, 3) := by decide +kernel
theorem dX2_takeDefinition_80 : decode cX2_takeDefinition 80 = .ok (.iconst 1, 1) := by decide +kernel
theorem dX2_takeDefinition_81 : decode cX2_takeDefinition 81 = .ok (.goto 4, 3) := by decide +kernel
theorem dX2_takeDefinition_84 : decode cX2_takeDefinition 84 = .ok (.iconst 0, 1) := by decide +kernel
theorem dX2_takeDefinition_85 : decode cX2_takeDefinition 85 = .ok (.ireturn, 1) := by decide +kernel
theorem dX2_findTargets_0 : decode cX2_findTargets 0 = .ok (.iconst 0, 1) := by decide +kernel
theorem dX2_findTargets_1 : decode cX2_findTargets 1 = .ok (.istore_n 2, 1) := by decide +kernel
theorem dX2_findTargets_2 : decode cX2_findTargets 2 = .ok (.iload_n 2, 1) := by decide +kernel
theorem dX2_findTargets_3 : decode cX2_findTargets 3 = .ok (.aload_n 1, 1) := by decide +kernel
theorem dX2_findTargets_4 : decode cX2_findTargets 4 = .ok (.invokevirtual 58, 3) := by decide +kernel
theorem dX2_findTargets_7 : decode cX2_findTargets 7 = .ok (.if_icmp .ge 57, 3) := by decide +kernel
theorem dX2_findTargets_10 : decode cX2_findTargets 10 = .ok (.aload_n 1, 1) := by decide +kernel
theorem dX2_findTargets_11 : decode cX2_findTargets 11 = .ok (.iload_n 2, 1) := by decide +kernel
theorem dX2_findTargets_12 : decode cX2_findTargets 12 = .ok (.invokevirtual 64, 3) := by decide +kernel
theorem dX2_findTargets_15 : decode cX2_findTargets 15 = .ok (.checkcast 15, 3) := by decide +kernel
theorem dX2_findTargets_18 : decode cX2_findTargets 18 = .ok (.astore_n 3, 1) := by decide +kernel
theorem dX2_findTargets_19 : decode cX2_findTargets 19 = .ok (.aload_n 3, 1) := by decide +kernel
theorem dX2_findTargets_20 : decode cX2_findTargets 20 = .ok (.invokevirtual 104, 3) := by decide +kernel
theorem dX2_findTargets_23 : decode cX2_findTargets 23 = .ok (.iconst (-1), 1) := by decide +kernel
theorem dX2_findTargets_24 : decode cX2_findTargets 24 = .ok (.if_icmp .eq 11, 3) := by decide +kernel
theorem dX2_findTargets_27 : decode cX2_findTargets 27 = .ok (.aload_n 3, 1) := by decide +kernel
theorem dX2_findTargets_28 : decode cX2_findTargets 28 = .ok (.aconst_null, 1) := by decide +kernel
theorem dX2_findTargets_29 : decode cX2_findTargets 29 = .ok (.invokevirtual 107, 3) := by decide +kernel
theorem dX2_findTargets_32 : decode cX2_findTargets 32 = .ok (.goto 26, 3) := by decide +kernel
theorem dX2_findTargets_35 : decode cX2_findTargets 35 = .ok (.aload_n 3, 1) := by decide +kernel
theorem dX2_findTargets_36 : decode cX2_findTargets 36 = .ok (.aload_n 3, 1) := by decide +kernel
theorem dX2_findTargets_37 : decode cX2_findTargets 37 = .ok (.getfield 101, 3) := by decide +kernel
theorem dX2_findTargets_40 : decode cX2_findTargets 40 = .ok (.ifCond .ne 7, 3) := by decide +kernel
theorem dX2_findTargets_43 : decode cX2_findTargets 43 = .ok (.aload_n 3, 1) := by decide +kernel
theorem dX2_findTargets_44 : decode cX2_findTargets 44 = .ok (.goto 11, 3) := by decide +kernel
theorem dX2_findTargets_47 : decode cX2_findTargets 47 = .ok (.aload_n 0, 1) := by decide +kernel
theorem dX2_findTargets_48 : decode cX2_findTargets 48 = .ok (.aload_n 3, 1) := by decide +kernel
theorem dX2_findTargets_49 : decode cX2_findTargets 49 = .ok (.getfield 98, 3) := by decide +kernel
theorem dX2_findTargets_52 : decode cX2_findTargets 52 = .ok (.invokevirtual 48, 3) := by decide +kernel
theorem dX2_findTargets_55 : decode cX2_findTargets 55 = .ok (.invokevirtual 107, 3) := by decide +kernel
theorem dX2_findTargets_58 : decode cX2_findTargets 58 = .ok (.iinc 2 1, 3) := by decide +kernel
theorem dX2_findTargets_61 : decode cX2_findTargets 61 = .ok (.goto (-59), 3) := by decide +kernel
theorem dX2_findTargets_64 : decode cX2_findTargets 64 = .ok (.return_, 1) := by decide +kernel
theorem dX3_init_0 : decode cX3_init 0 = .ok (.aload_n 0, 1) := by decide +kernel
theorem dX3_init_1 : decode cX3_init 1 = .ok (.invokespecial 3, 3) := by decide +kernel
theorem dX3_init_4 : decode cX3_init 4 = .ok (.aload_n 0, 1) := by decide +kernel
theorem dX3_init_5 : decode cX3_init 5 = .ok (.iconst 4, 1) := by decide +kernel
theorem dX3_init_6 : decode cX3_init 6 = .ok (.newarray .long, 2) := by decide +kernel
theorem dX3_init_8 : decode cX3_init 8 = .ok (.putfield 9, 3) := by decide +kernel
theorem dX3_init_11 : decode cX3_init 11 = .ok (.aload_n 0, 1) := by decide +kernel
theorem dX3_init_12 : decode cX3_init 12 = .ok (.iconst 4, 1) := by decide +kernel
theorem dX3_init_13 : decode cX3_init 13 = .ok (.newarray .long, 2) := by decide +kernel
theorem dX3_init_15 : decode cX3_init 15 = .ok (.putfield 15, 3) := by decide +kernel
theorem dX3_init_18 : decode cX3_init 18 = .ok (.aload_n 0, 1) := by decide +kernel
theorem dX3_init_19 : decode cX3_init 19 = .ok (.iconst 4, 1) := by decide +kernel
theorem dX3_init_20 : decode cX3_init 20 = .ok (.newarray .boolean, 2) := by decide +kernel
theorem dX3_init_22 : decode cX3_init 22 = .ok (.putfield 18, 3) := by decide +kernel
theorem dX3_init_25 : decode cX3_init 25 = .ok (.aload_n 0, 1) := by decide +kernel
theorem dX3_init_26 : decode cX3_init 26 = .ok (.bipush 8, 2) := by decide +kernel
theorem dX3_init_28 : decode cX3_init 28 = .ok (.newarray .long, 2) := by decide +kernel
theorem dX3_init_30 : decode cX3_init 30 = .ok (.putfield 22, 3) := by decide +kernel
theorem dX3_init_33 : decode cX3_init 33 = .ok (.aload_n 0, 1) := by decide +kernel
theorem dX3_init_34 : decode cX3_init 34 = .ok (.bipush 8, 2) := by decide +kernel
theorem dX3_init_36 : decode cX3_init 36 = .ok (.newarray .long, 2) := by decide +kernel
theorem dX3_init_38 : decode cX3_init 38 = .ok (.putfield 25, 3) := by decide +kernel
theorem dX3_init_41 : decode cX3_init 41 = .ok (.return_, 1) := by decide +kernel
theorem dX3_run_0 : decode cX3_run 0 = .ok (.aload_n 0, 1) := by decide +kernel
theorem dX3_run_1 : decode cX3_run 1 = .ok (.iconst 0, 1) := by decide +kernel
theorem dX3_run_2 : decode cX3_run 2 = .ok (.putfield 28, 3) := by decide +kernel
theorem dX3_run_5 : decode cX3_run 5 = .ok (.aload_n 0, 1) := by decide +kernel
theorem dX3_run_6 : decode cX3_run 6 = .ok (.iconst 0, 1) := by decide +kernel
theorem dX3_run_7 : decode cX3_run 7 = .ok (.putfield 32, 3) := by decide +kernel
theorem dX3_run_10 : decode cX3_run 10 = .ok (.aload_n 0, 1) := by decide +kernel
theorem dX3_run_11 : decode cX3_run 11 = .ok (.aload_n 1, 1) := by decide +kernel
theorem dX3_run_12 : decode cX3_run 12 = .ok (.invokevirtual 35, 3) := by decide +kernel
theorem dX3_run_15 : decode cX3_run 15 = .ok (.iconst 1, 1) := by decide +kernel
theorem dX3_run_16 : decode cX3_run 16 = .ok (.istore_n 2, 1) := by decide +kernel
theorem dX3_run_17 : decode cX3_run 17 = .ok (.iconst 0, 1) := by decide +kernel
theorem dX3_run_18 : decode cX3_run 18 = .ok (.istore_n 3, 1) := by decide +kernel
theorem dX3_run_19 : decode cX3_run 19 = .ok (.iload_n 2, 1) := by decide +kernel
theorem dX3_run_20 : decode cX3_run 20 = .ok (.ifCond .eq 30, 3) := by decide +kernel
theorem dX3_run_23 : decode cX3_run 23 = .ok (.iload_n 3, 1) := by decide +kernel
theorem dX3_run_24 : decode cX3_run 24 = .ok (.sipush 200, 3) := by decide +kernel
theorem dX3_run_27 : decode cX3_run 27 = .ok (.if_icmp .gt 23, 3) := by decide +kernel
theorem dX3_run_30 : decode cX3_run 30 = .ok (.aload_n 0, 1) := by decide +kernel
theorem dX3_run_31 : decode cX3_run 31 = .ok (.aload_n 1, 1) := by decide +kernel
theorem dX3_run_32 : decode cX3_run 32 = .ok (.invokevirtual 39, 3) := by decide +kernel
theorem dX3_run_35 : decode cX3_run 35 = .ok (.aload_n 0, 1) := by decide +kernel
theorem dX3_run_36 : decode cX3_run 36 = .ok (.aload_n 1, 1) := by decide +kernel
theorem dX3_run_37 : decode cX3_run 37 = .ok (.getfield 42, 3) := by decide +kernel
theorem dX3_run_40 : decode cX3_run 40 = .ok (.invokevirtual 48, 3) := by decide +kernel
theorem dX3_run_43 : decode cX3_run 43 = .ok (.istore_n 2, 1) := by decide +kernel
theorem dX3_run_44 : decode cX3_run 44 = .ok (.iinc 3 1, 3) := by decide +kernel
theorem dX3_run_47 : decode cX3_run 47 = .ok (.goto (-28), 3) := by decide +kernel
theorem dX3_run_50 : decode cX3_run 50 = .ok (.return_, 1) := by decide +kernel
theorem dX3_firstKindOverAnother_0 : decode cX3_firstKindOverAnother 0 = .ok (.iconst 1, 1) := by decide +kernel
theorem dX3_firstKindOverAnother_1 : decode cX3_firstKindOverAnother 1 = .ok (.istore_n 1, 1) := by decide +kernel
theorem dX3_firstKindOverAnother_2 : decode cX3_firstKindOverAnother 2 = .ok (.iload_n 1, 1) := by decide +kernel
theorem dX3_firstKindOverAnother_3 : decode cX3_firstKindOverAnother 3 = .ok (.iconst 4, 1) := by decide +kernel
theorem dX3_firstKindOverAnother_4 : decode cX3_firstKindOverAnother 4 = .ok (.if_icmp .ge 84, 3) := by decide +kernel
theorem dX3_firstKindOverAnother_7 : decode cX3_firstKindOverAnother 7 = .ok (.iconst 0, 1) := by decide +kernel
theorem dX3_firstKindOverAnother_8 : decode cX3_firstKindOverAnother 8 = .ok (.istore_n 2, 1) := by decide +kernel
theorem dX3_firstKindOverAnother_9 : decode cX3_firstKindOverAnother 9 = .ok (.iload_n 2, 1) := by decide +kernel
theorem dX3_firstKindOverAnother_10 : decode cX3_firstKindOverAnother 10 = .ok (.iload_n 1, 1) := by decide +kernel
theorem dX3_firstKindOverAnother_11 : decode cX3_firstKindOverAnother 11 = .ok (.if_icmp .ge 71, 3) := by decide +kernel
theorem dX3_firstKindOverAnother_14 : decode cX3_firstKindOverAnother 14 = .ok (.aload_n 0, 1) := by decide +kernel
theorem dX3_firstKindOverAnother_15 : decode cX3_firstKindOverAnother 15 = .ok (.getfield 18, 3) := by decide +kernel
theorem dX3_firstKindOverAnother_18 : decode cX3_firstKindOverAnother 18 = .ok (.iload_n 1, 1) := by decide +kernel
theorem dX3_firstKindOverAnother_19 : decode cX3_firstKindOverAnother 19 = .ok (.baload, 1) := by decide +kernel
theorem dX3_firstKindOverAnother_20 : decode cX3_firstKindOverAnother 20 = .ok (.ifCond .eq 16, 3) := by decide +kernel
theorem dX3_firstKindOverAnother_23 : decode cX3_firstKindOverAnother 23 = .ok (.aload_n 0, 1) := by decide +kernel
theorem dX3_firstKindOverAnother_24 : decode cX3_firstKindOverAnother 24 = .ok (.getfield 18, 3) := by decide +kernel
theorem dX3_firstKindOverAnother_27 : decode cX3_firstKindOverAnother 27 = .ok (.iload_n 2, 1) := by decide +kernel
theorem dX3_firstKindOverAnother_28 : decode cX3_firstKindOverAnother 28 = .ok (.baload, 1) := by decide +kernel
theorem dX3_firstKindOverAnother_29 : decode cX3_firstKindOverAnother 29 = .ok (.ifCond .eq 7, 3) := by decide +kernel
theorem dX3_firstKindOverAnother_32 : decode cX3_firstKindOverAnother 32 = .ok (.iconst 1, 1) := by decide +kernel
theorem dX3_firstKindOverAnother_33 : decode cX3_firstKindOverAnother 33 = .ok (.goto 4, 3) := by decide +kernel
theorem dX3_firstKindOverAnother_36 : decode cX3_firstKindOverAnother 36 = .ok (.iconst 0, 1) := by decide +kernel
theorem dX3_firstKindOverAnother_37 : decode cX3_firstKindOverAnother 37 = .ok (.istore_n 3, 1) := by decide +kernel
theorem dX3_firstKindOverAnother_38 : decode cX3_firstKindOverAnother 38 = .ok (.iload_n 3, 1) := by decide +kernel
theorem dX3_firstKindOverAnother_39 : decode cX3_firstKindOverAnother 39 = .ok (.ifCond .eq 37, 3) := by decide +kernel
theorem dX3_firstKindOverAnother_42 : decode cX3_firstKindOverAnother 42 = .ok (.aload_n 0, 1) := by decide +kernel
theorem dX3_firstKindOverAnother_43 : decode cX3_firstKindOverAnother 43 = .ok (.getfield 9, 3) := by decide +kernel
theorem dX3_firstKindOverAnother_46 : decode cX3_firstKindOverAnother 46 = .ok (.iload_n 1, 1) := by decide +kernel
theorem dX3_firstKindOverAnother_47 : decode cX3_firstKindOverAnother 47 = .ok (.laload, 1) := by decide +kernel
theorem dX3_firstKindOverAnother_48 : decode cX3_firstKindOverAnother 48 = .ok (.aload_n 0, 1) := by decide +kernel
theorem dX3_firstKindOverAnother_49 : decode cX3_firstKindOverAnother 49 = .ok (.getfield 15, 3) := by decide +kernel
theorem dX3_firstKindOverAnother_52 : decode cX3_firstKindOverAnother 52 = .ok (.iload_n 2, 1) := by decide +kernel
theorem dX3_firstKindOverAnother_53 : decode cX3_firstKindOverAnother 53 = .ok (.laload, 1) := by decide +kernel
theorem dX3_firstKindOverAnother_54 : decode cX3_firstKindOverAnother 54 = .ok (.lcmp, 1) := by decide +kernel
theorem dX3_firstKindOverAnother_55 : decode cX3_firstKindOverAnother 55 = .ok (.ifCond .ge 21, 3) := by decide +kernel
theorem dX3_firstKindOverAnother_58 : decode cX3_firstKindOverAnother 58 = .ok (.aload_n 0, 1) := by decide +kernel
theorem dX3_firstKindOverAnother_59 : decode cX3_firstKindOverAnother 59 = .ok (.getfield 9, 3) := by decide +kernel
theorem dX3_firstKindOverAnother_62 : decode cX3_firstKindOverAnother 62 = .ok (.iload_n 2, 1) := by decide +kernel
theorem dX3_firstKindOverAnother_63 : decode cX3_firstKindOverAnother 63 = .ok (.laload, 1) := by decide +kernel
theorem dX3_firstKindOverAnother_64 : decode cX3_firstKindOverAnother 64 = .ok (.aload_n 0, 1) := by decide +kernel
theorem dX3_firstKindOverAnother_65 : decode cX3_firstKindOverAnother 65 = .ok (.getfield 15, 3) := by decide +kernel
theorem dX3_firstKindOverAnother_68 : decode cX3_firstKindOverAnother 68 = .ok (.iload_n 1, 1) := by decide +kernel
theorem dX3_firstKindOverAnother_69 : decode cX3_firstKindOverAnother 69 = .ok (.laload, 1) := by decide +kernel
theorem dX3_firstKindOverAnother_70 : decode cX3_firstKindOverAnother 70 = .ok (.lcmp, 1) := by decide +kernel
theorem dX3_firstKindOverAnother_71 : decode cX3_firstKindOverAnother 71 = .ok (.ifCond .ge 5, 3) := by decide +kernel
theorem dX3_firstKindOverAnother_74 : decode cX3_firstKindOverAnother 74 = .ok (.iload_n 1, 1) := by decide +kernel
theorem dX3_firstKindOverAnother_75 : decode cX3_firstKindOverAnother 75 = .ok (.ireturn, 1) := by decide +kernel
theorem dX3_firstKindOverAnother_76 : decode cX3_firstKindOverAnother 76 = .ok (.iinc 2 1, 3) := by decide +kernel
theorem dX3_firstKindOverAnother_79 : decode cX3_firstKindOverAnother 79 = .ok (.goto (-70), 3) := by decide +kernel
theorem dX3_firstKindOverAnother_82 : decode cX3_firstKindOverAnother 82 = .ok (.iinc 1 1, 3) := by decide +kernel
theorem dX3_firstKindOverAnother_85 : decode cX3_firstKindOverAnother 85 = .ok (.goto (-83), 3) := by decide +kernel
theorem dX3_firstKindOverAnother_88 : decode cX3_firstKindOverAnother 88 = .ok (.iconst (-1), 1) := by decide +kernel
theorem dX3_firstKindOverAnother_89 : decode cX3_firstKindOverAnother 89 = .ok (.ireturn, 1) := by decide +kernel
theorem dX3_firstMisfit_0 : decode cX3_firstMisfit 0 = .ok (.iconst 0, 1) := by decide +kernel
theorem dX3_firstMisfit_1 : decode cX3_firstMisfit 1 = .ok (.istore_n 2, 1) := by decide +kernel
theorem dX3_firstMisfit_2 : decode cX3_firstMisfit 2 = .ok (.iload_n 2, 1) := by decide +kernel
theorem dX3_firstMisfit_3 : decode cX3_firstMisfit 3 = .ok (.aload_n 1, 1) := by decide +kernel
theorem dX3_firstMisfit_4 : decode cX3_firstMisfit 4 = .ok (.invokevirtual 52, 3) := by decide +kernel
theorem dX3_firstMisfit_7 : decode cX3_firstMisfit 7 = .ok (.if_icmp .ge 45, 3) := by decide +kernel
theorem dX3_firstMisfit_10 : decode cX3_firstMisfit 10 = .ok (.aload_n 1, 1) := by decide +kernel
theorem dX3_firstMisfit_11 : decode cX3_firstMisfit 11 = .ok (.iload_n 2, 1) := by decide +kernel
theorem dX3_firstMisfit_12 : decode cX3_firstMisfit 12 = .ok (.invokevirtual 58, 3) := by decide +kernel
theorem dX3_firstMisfit_15 : decode cX3_firstMisfit 15 = .ok (.checkcast 62, 3) := by decide +kernel
theorem dX3_firstMisfit_18 : decode cX3_firstMisfit 18 = .ok (.astore_n 3, 1) := by decide +kernel
theorem dX3_firstMisfit_19 : decode cX3_firstMisfit 19 = .ok (.aload_n 3, 1) := by decide +kernel
theorem dX3_firstMisfit_20 : decode cX3_firstMisfit 20 = .ok (.getfield 64, 3) := by decide +kernel
theorem dX3_firstMisfit_23 : decode cX3_firstMisfit 23 = .ok (.invokevirtual 68, 3) := by decide +kernel
theorem dX3_firstMisfit_26 : decode cX3_firstMisfit 26 = .ok (.ifCond .eq 20, 3) := by decide +kernel
theorem dX3_firstMisfit_29 : decode cX3_firstMisfit 29 = .ok (.aload_n 3, 1) := by decide +kernel
theorem dX3_firstMisfit_30 : decode cX3_firstMisfit 30 = .ok (.getfield 74, 3) := by decide +kernel
theorem dX3_firstMisfit_33 : decode cX3_firstMisfit 33 = .ok (.aload_n 0, 1) := by decide +kernel
theorem dX3_firstMisfit_34 : decode cX3_firstMisfit 34 = .ok (.aload_n 3, 1) := by decide +kernel
theorem dX3_firstMisfit_35 : decode cX3_firstMisfit 35 = .ok (.invokevirtual 78, 3) := by decide +kernel
theorem dX3_firstMisfit_38 : decode cX3_firstMisfit 38 = .ok (.invokevirtual 82, 3) := by decide +kernel
theorem dX3_firstMisfit_41 : decode cX3_firstMisfit 41 = .ok (.ifCond .ne 5, 3) := by decide +kernel
theorem dX3_firstMisfit_44 : decode cX3_firstMisfit 44 = .ok (.iload_n 2, 1) := by decide +kernel
theorem dX3_firstMisfit_45 : decode cX3_firstMisfit 45 = .ok (.ireturn, 1) := by decide +kernel
theorem dX3_firstMisfit_46 : decode cX3_firstMisfit 46 = .ok (.iinc 2 1, 3) := by decide +kernel
theorem dX3_firstMisfit_49 : decode cX3_firstMisfit 49 = .ok (.goto (-47), 3) := by decide +kernel
theorem dX3_firstMisfit_52 : decode cX3_firstMisfit 52 = .ok (.iconst (-1), 1) := by decide +kernel
theorem dX3_firstMisfit_53 : decode cX3_firstMisfit 53 = .ok (.ireturn, 1) := by decide +kernel
theorem dX3_targetValue_0 : decode cX3_targetValue 0 = .ok (.aload_n 1, 1) := by decide +kernel
theorem dX3_targetValue_1 : decode cX3_targetValue 1 = .ok (.getfield 88, 3) := by decide +kernel
theorem dX3_targetValue_4 : decode cX3_targetValue 4 = .ok (.ifCond .lt 25, 3) := by decide +kernel
theorem dX3_targetValue_7 : decode cX3_targetValue 7 = .ok (.aload_n 1, 1) := by decide +kernel
theorem dX3_targetValue_8 : decode cX3_targetValue 8 = .ok (.getfield 88, 3) := by decide +kernel
theorem dX3_targetValue_11 : decode cX3_targetValue 11 = .ok (.aload_n 0, 1) := by decide +kernel
theorem dX3_targetValue_12 : decode cX3_targetValue 12 = .ok (.getfield 22, 3) := by decide +kernel
theorem dX3_targetValue_15 : decode cX3_targetValue 15 = .ok (.arraylength, 1) := by decide +kernel
theorem dX3_targetValue_16 : decode cX3_targetValue 16 = .ok (.if_icmp .ge 13, 3) := by decide +kernel
theorem dX3_targetValue_19 : decode cX3_targetValue 19 = .ok (.aload_n 0, 1) := by decide +kernel
theorem dX3_targetValue_20 : decode cX3_targetValue 20 = .ok (.getfield 22, 3) := by decide +kernel
theorem dX3_targetValue_23 : decode cX3_targetValue 23 = .ok (.aload_n 1, 1) := by decide +kernel
theorem dX3_targetValue_24 : decode cX3_targetValue 24 = .ok (.getfield 88, 3) := by decide +kernel
theorem dX3_targetValue_27 : decode cX3_targetValue 27 = .ok (.laload, 1) := by decide +kernel
theorem dX3_targetValue_28 : decode cX3_targetValue 28 = .ok (.lreturn, 1) := by decide +kernel
theorem dX3_targetValue_29 : decode cX3_targetValue 29 = .ok (.aload_n 1, 1) := by decide +kernel
theorem dX3_targetValue_30 : decode cX3_targetValue 30 = .ok (.getfield 93, 3) := by decide +kernel
theorem dX3_targetValue_33 : decode cX3_targetValue 33 = .ok (.ifCond .lt 25, 3) := by decide +kernel
theorem dX3_targetValue_36 : decode cX3_targetValue 36 = .ok (.aload_n 1, 1) := by decide +kernel
theorem dX3_targetValue_37 : decode cX3_targetValue 37 = .ok (.getfield 93, 3) := by decide +kernel
theorem dX3_targetValue_40 : decode cX3_targetValue 40 = .ok (.aload_n 0, 1) := by decide +kernel
theorem dX3_targetValue_41 : decode cX3_targetValue 41 = .ok (.getfield 25, 3) := by decide +kernel
theorem dX3_targetValue_44 : decode cX3_targetValue 44 = .ok (.arraylength, 1) := by decide +kernel
theorem dX3_targetValue_45 : decode cX3_targetValue 45 = .ok (.if_icmp .ge 13, 3) := by decide +kernel
theorem dX3_targetValue_48 : decode cX3_targetValue 48 = .ok (.aload_n 0, 1) := by decide +kernel
theorem dX3_targetValue_49 : decode cX3_targetValue 49 = .ok (.getfield 25, 3) := by decide +kernel
theorem dX3_targetValue_52 : decode cX3_targetValue 52 = .ok (.aload_n 1, 1) := by decide +kernel
theorem dX3_targetValue_53 : decode cX3_targetValue 53 = .ok (.getfield 93, 3) := by decide +kernel
theorem dX3_targetValue_56 : decode cX3_targetValue 56 = .ok (.laload, 1) := by decide +kernel
theorem dX3_targetValue_57 : decode cX3_targetValue 57 = .ok (.lreturn, 1) := by decide +kernel
theorem dX3_targetValue_58 : decode cX3_targetValue 58 = .ok (.aload_n 1, 1) := by decide +kernel
theorem dX3_targetValue_59 : decode cX3_targetValue 59 = .ok (.getfield 96, 3) := by decide +kernel
theorem dX3_targetValue_62 : decode cX3_targetValue 62 = .ok (.ifnonnull 7, 3) := by decide +kernel
theorem dX3_targetValue_65 : decode cX3_targetValue 65 = .ok (.lconst 0, 1) := by decide +kernel
theorem dX3_targetValue_66 : decode cX3_targetValue 66 = .ok (.goto 16, 3) := by decide +kernel
theorem dX3_targetValue_69 : decode cX3_targetValue 69 = .ok (.aload_n 1, 1) := by decide +kernel
theorem dX3_targetValue_70 : decode cX3_targetValue 70 = .ok (.getfield 96, 3) := by decide +kernel
theorem dX3_targetValue_73 : decode cX3_targetValue 73 = .ok (.invokevirtual 99, 3) := by decide +kernel
theorem dX3_targetValue_76 : decode cX3_targetValue 76 = .ok (.aload_n 1, 1) := by decide +kernel
theorem dX3_targetValue_77 : decode cX3_targetValue 77 = .ok (.getfield 103, 3) := by decide +kernel
theorem dX3_targetValue_80 : decode cX3_targetValue 80 = .ok (.i2l, 1) := by decide +kernel
theorem dX3_targetValue_81 : decode cX3_targetValue 81 = .ok (.ladd, 1) := by decide +kernel
theorem dX3_targetValue_82 : decode cX3_targetValue 82 = .ok (.lreturn, 1) := by decide +kernel
theorem dX3_imageByte_0 : decode cX3_imageByte 0 = .ok (.lload_n 2, 1) := by decide +kernel
theorem dX3_imageByte_1 : decode cX3_imageByte 1 = .ok (.aload_n 1, 1) := by decide +kernel
theorem dX3_imageByte_2 : decode cX3_imageByte 2 = .ok (.invokevirtual 106, 3) := by decide +kernel
theorem dX3_imageByte_5 : decode cX3_imageByte 5 = .ok (.lcmp, 1) := by decide +kernel
theorem dX3_imageByte_6 : decode cX3_imageByte 6 = .ok (.ifCond .ge 16, 3) := by decide +kernel
theorem dX3_imageByte_9 : decode cX3_imageByte 9 = .ok (.aload_n 0, 1) := by decide +kernel
theorem dX3_imageByte_10 : decode cX3_imageByte 10 = .ok (.aload_n 1, 1) := by decide +kernel
theorem dX3_imageByte_11 : decode cX3_imageByte 11 = .ok (.lload_n 2, 1) := by decide +kernel
theorem dX3_imageByte_12 : decode cX3_imageByte 12 = .ok (.aload_n 1, 1) := by decide +kernel
theorem dX3_imageByte_13 : decode cX3_imageByte 13 = .ok (.getfield 109, 3) := by decide +kernel
theorem dX3_imageByte_16 : decode cX3_imageByte 16 = .ok (.lsub, 1) := by decide +kernel
theorem dX3_imageByte_17 : decode cX3_imageByte 17 = .ok (.l2i, 1) := by decide +kernel
theorem dX3_imageByte_18 : decode cX3_imageByte 18 = .ok (.invokevirtual 113, 3) := by decide +kernel
theorem dX3_imageByte_21 : decode cX3_imageByte 21 = .ok (.ireturn, 1) := by decide +kernel
theorem dX3_imageByte_22 : decode cX3_imageByte 22 = .ok (.lload_n 2, 1) := by decide +kernel
theorem dX3_imageByte_23 : decode cX3_imageByte 23 = .ok (.aload_n 1, 1) := by decide +kernel
theorem dX3_imageByte_24 : decode cX3_imageByte 24 = .ok (.iconst 0, 1) := by decide +kernel
theorem dX3_imageByte_25 : decode cX3_imageByte 25 = .ok (.invokevirtual 117, 3) := by decide +kernel
theorem dX3_imageByte_28 : decode cX3_imageByte 28 = .ok (.lsub, 1) := by decide +kernel
theorem dX3_imageByte_29 : decode cX3_imageByte 29 = .ok (.lstore 4, 2) := by decide +kernel
theorem dX3_imageByte_31 : decode cX3_imageByte 31 = .ok (.lload 4, 2) := by decide +kernel
theorem dX3_imageByte_33 : decode cX3_imageByte 33 = .ok (.lconst 0, 1) := by decide +kernel
theorem dX3_imageByte_34 : decode cX3_imageByte 34 = .ok (.lcmp, 1) := by decide +kernel
theorem dX3_imageByte_35 : decode cX3_imageByte 35 = .ok (.ifCond .ge 7, 3) := by decide +kernel
theorem dX3_imageByte_38 : decode cX3_imageByte 38 = .ok (.iconst (-1), 1) := by decide +kernel
theorem dX3_imageByte_39 : decode cX3_imageByte 39 = .ok (.goto 22, 3) := by decide +kernel
theorem dX3_imageByte_42 : decode cX3_imageByte 42 = .ok (.aload_n 0, 1) := by decide +kernel
theorem dX3_imageByte_43 : decode cX3_imageByte 43 = .ok (.aload_n 1, 1) := by decide +kernel
theorem dX3_imageByte_44 : decode cX3_imageByte 44 = .ok (.lload 4, 2) := by decide +kernel
theorem dX3_imageByte_46 : decode cX3_imageByte 46 = .ok (.ldc2_w 121, 3) := by decide +kernel
theorem dX3_imageByte_49 : decode cX3_imageByte 49 = .ok (.ldiv, 1) := by decide +kernel
theorem dX3_imageByte_50 : decode cX3_imageByte 50 = .ok (.l2i, 1) := by decide +kernel
theorem dX3_imageByte_51 : decode cX3_imageByte 51 = .ok (.lload 4, 2) := by decide +kernel
theorem dX3_imageByte_53 : decode cX3_imageByte 53 = .ok (.ldc2_w 121, 3) := by decide +kernel
theorem dX3_imageByte_56 : decode cX3_imageByte 56 = .ok (.lrem, 1) := by decide +kernel
theorem dX3_imageByte_57 : decode cX3_imageByte 57 = .ok (.l2i, 1) := by decide +kernel
theorem dX3_imageByte_58 : decode cX3_imageByte 58 = .ok (.invokevirtual 123, 3) := by decide +kernel
theorem dX3_imageByte_61 : decode cX3_imageByte 61 = .ok (.ireturn, 1) := by decide +kernel
theorem dX3_dropVeneers_0 : decode cX3_dropVeneers 0 = .ok (.iconst 0, 1) := by decide +kernel
theorem dX3_dropVeneers_1 : decode cX3_dropVeneers 1 = .ok (.istore_n 2, 1) := by decide +kernel
theorem dX3_dropVeneers_2 : decode cX3_dropVeneers 2 = .ok (.iload_n 2, 1) := by decide +kernel
theorem dX3_dropVeneers_3 : decode cX3_dropVeneers 3 = .ok (.aload_n 1, 1) := by decide +kernel
theorem dX3_dropVeneers_4 : decode cX3_dropVeneers 4 = .ok (.getfield 42, 3) := by decide +kernel
theorem dX3_dropVeneers_7 : decode cX3_dropVeneers 7 = .ok (.invokevirtual 52, 3) := by decide +kernel
theorem dX3_dropVeneers_10 : decode cX3_dropVeneers 10 = .ok (.if_icmp .ge 24, 3) := by decide +kernel
theorem dX3_dropVeneers_13 : decode cX3_dropVeneers 13 = .ok (.aload_n 1, 1) := by decide +kernel
theorem dX3_dropVeneers_14 : decode cX3_dropVeneers 14 = .ok (.getfield 42, 3) := by decide +kernel
theorem dX3_dropVeneers_17 : decode cX3_dropVeneers 17 = .ok (.iload_n 2, 1) := by decide +kernel
theorem dX3_dropVeneers_18 : decode cX3_dropVeneers 18 = .ok (.invokevirtual 58, 3) := by decide +kernel
theorem dX3_dropVeneers_21 : decode cX3_dropVeneers 21 = .ok (.checkcast 69, 3) := by decide +kernel
theorem dX3_dropVeneers_24 : decode cX3_dropVeneers 24 = .ok (.iconst 0, 1) := by decide +kernel
theorem dX3_dropVeneers_25 : decode cX3_dropVeneers 25 = .ok (.putfield 127, 3) := by decide +kernel
theorem dX3_dropVeneers_28 : decode cX3_dropVeneers 28 = .ok (.iinc 2 1, 3) := by decide +kernel
theorem dX3_dropVeneers_31 : decode cX3_dropVeneers 31 = .ok (.goto (-29), 3) := by decide +kernel
theorem dX3_dropVeneers_34 : decode cX3_dropVeneers 34 = .ok (.iconst 0, 1) := by decide +kernel
theorem dX3_dropVeneers_35 : decode cX3_dropVeneers 35 = .ok (.istore_n 2, 1) := by decide +kernel
theorem dX3_dropVeneers_36 : decode cX3_dropVeneers 36 = .ok (.iload_n 2, 1) := by decide +kernel
theorem dX3_dropVeneers_37 : decode cX3_dropVeneers 37 = .ok (.aload_n 1, 1) := by decide +kernel
theorem dX3_dropVeneers_38 : decode cX3_dropVeneers 38 = .ok (.getfield 130, 3) := by decide +kernel
theorem dX3_dropVeneers_41 : decode cX3_dropVeneers 41 = .ok (.invokevirtual 52, 3) := by decide +kernel
theorem dX3_dropVeneers_44 : decode cX3_dropVeneers 44 = .ok (.if_icmp .ge 24, 3) := by decide +kernel
theorem dX3_dropVeneers_47 : decode cX3_dropVeneers 47 = .ok (.aload_n 1, 1) := by decide +kernel
theorem dX3_dropVeneers_48 : decode cX3_dropVeneers 48 = .ok (.getfield 130, 3) := by decide +kernel
theorem dX3_dropVeneers_51 : decode cX3_dropVeneers 51 = .ok (.iload_n 2, 1) := by decide +kernel
theorem dX3_dropVeneers_52 : decode cX3_dropVeneers 52 = .ok (.invokevirtual 58, 3) := by decide +kernel
theorem dX3_dropVeneers_55 : decode cX3_dropVeneers 55 = .ok (.checkcast 62, 3) := by decide +kernel
theorem dX3_dropVeneers_58 : decode cX3_dropVeneers 58 = .ok (.iconst (-1), 1) := by decide +kernel
theorem dX3_dropVeneers_59 : decode cX3_dropVeneers 59 = .ok (.putfield 133, 3) := by decide +kernel
theorem dX3_dropVeneers_62 : decode cX3_dropVeneers 62 = .ok (.iinc 2 1, 3) := by decide +kernel
theorem dX3_dropVeneers_65 : decode cX3_dropVeneers 65 = .ok (.goto (-29), 3) := by decide +kernel
theorem dX3_dropVeneers_68 : decode cX3_dropVeneers 68 = .ok (.return_, 1) := by decide +kernel
theorem dX3_layOut_0 : decode cX3_layOut 0 = .ok (.aload_n 0, 1) := by decide +kernel
theorem dX3_layOut_1 : decode cX3_layOut 1 = .ok (.dup, 1) := by decide +kernel
theorem dX3_layOut_2 : decode cX3_layOut 2 = .ok (.getfield 28, 3) := by decide +kernel
theorem dX3_layOut_5 : decode cX3_layOut 5 = .ok (.iconst 1, 1) := by decide +kernel
theorem dX3_layOut_6 : decode cX3_layOut 6 = .ok (.iadd, 1) := by decide +kernel
theorem dX3_layOut_7 : decode cX3_layOut 7 = .ok (.putfield 28, 3) := by decide +kernel
theorem dX3_layOut_10 : decode cX3_layOut 10 = .ok (.ldc2_w 136, 3) := by decide +kernel
theorem dX3_layOut_13 : decode cX3_layOut 13 = .ok (.lstore_n 2, 1) := by decide +kernel
theorem dX3_layOut_14 : decode cX3_layOut 14 = .ok (.iconst 0, 1) := by decide +kernel
theorem dX3_layOut_15 : decode cX3_layOut 15 = .ok (.istore 4, 2) := by decide +kernel
theorem dX3_layOut_17 : decode cX3_layOut 17 = .ok (.iload 4, 2) := by decide +kernel
theorem dX3_layOut_19 : decode cX3_layOut 19 = .ok (.iconst 4, 1) := by decide +kernel
theorem dX3_layOut_20 : decode cX3_layOut 20 = .ok (.if_icmp .ge 65, 3) := by decide +kernel
theorem dX3_layOut_23 : decode cX3_layOut 23 = .ok (.aload_n 1, 1) := by decide +kernel
theorem dX3_layOut_24 : decode cX3_layOut 24 = .ok (.getfield 138, 3) := by decide +kernel
theorem dX3_layOut_27 : decode cX3_layOut 27 = .ok (.iload 4, 2) := by decide +kernel
theorem dX3_layOut_29 : decode cX3_layOut 29 = .ok (.iaload, 1) := by decide +kernel
theorem dX3_layOut_30 : decode cX3_layOut 30 = .ok (.iconst (-1), 1) := by decide +kernel
theorem dX3_layOut_31 : decode cX3_layOut 31 = .ok (.if_icmp .eq 12, 3) := by decide +kernel
theorem dX3_layOut_34 : decode cX3_layOut 34 = .ok (.aload_n 1, 1) := by decide +kernel
theorem dX3_layOut_35 : decode cX3_layOut 35 = .ok (.getfield 138, 3) := by decide +kernel
theorem dX3_layOut_38 : decode cX3_layOut 38 = .ok (.iload 4, 2) := by decide +kernel
theorem dX3_layOut_40 : decode cX3_layOut 40 = .ok (.iaload, 1) := by decide +kernel
theorem dX3_layOut_41 : decode cX3_layOut 41 = .ok (.i2l, 1) := by decide +kernel
theorem dX3_layOut_42 : decode cX3_layOut 42 = .ok (.lstore_n 2, 1) := by decide +kernel
theorem dX3_layOut_43 : decode cX3_layOut 43 = .ok (.aload_n 0, 1) := by decide +kernel
theorem dX3_layOut_44 : decode cX3_layOut 44 = .ok (.getfield 9, 3) := by decide +kernel
theorem dX3_layOut_47 : decode cX3_layOut 47 = .ok (.iload 4, 2) := by decide +kernel
theorem dX3_layOut_49 : decode cX3_layOut 49 = .ok (.lload_n 2, 1) := by decide +kernel
theorem dX3_layOut_50 : decode cX3_layOut 50 = .ok (.lastore, 1) := by decide +kernel
theorem dX3_layOut_51 : decode cX3_layOut 51 = .ok (.aload_n 0, 1) := by decide +kernel
theorem dX3_layOut_52 : decode cX3_layOut 52 = .ok (.getfield 18, 3) := by decide +kernel
theorem dX3_layOut_55 : decode cX3_layOut 55 = .ok (.iload 4, 2) := by decide +kernel
theorem dX3_layOut_57 : decode cX3_layOut 57 = .ok (.iconst 0, 1) := by decide +kernel
theorem dX3_layOut_58 : decode cX3_layOut 58 = .ok (.bastore, 1) := by decide +kernel
theorem dX3_layOut_59 : decode cX3_layOut 59 = .ok (.aload_n 0, 1) := by decide +kernel
theorem dX3_layOut_60 : decode cX3_layOut 60 = .ok (.iload 4, 2) := by decide +kernel
theorem dX3_layOut_62 : decode cX3_layOut 62 = .ok (.lload_n 2, 1) := by decide +kernel
theorem dX3_layOut_63 : decode cX3_layOut 63 = .ok (.aload_n 1, 1) := by decide +kernel
theorem dX3_layOut_64 : decode cX3_layOut 64 = .ok (.getfield 42, 3) := by decide +kernel
theorem dX3_layOut_67 : decode cX3_layOut 67 = .ok (.invokevirtual 142, 3) := by decide +kernel
theorem dX3_layOut_70 : decode cX3_layOut 70 = .ok (.lstore_n 2, 1) := by decide +kernel
theorem dX3_layOut_71 : decode cX3_layOut 71 = .ok (.aload_n 0, 1) := by decide +kernel
theorem dX3_layOut_72 : decode cX3_layOut 72 = .ok (.getfield 15, 3) := by decide +kernel
theorem dX3_layOut_75 : decode cX3_layOut 75 = .ok (.iload 4, 2) := by decide +kernel
theorem dX3_layOut_77 : decode cX3_layOut 77 = .ok (.lload_n 2, 1) := by decide +kernel
theorem dX3_layOut_78 : decode cX3_layOut 78 = .ok (.lastore, 1) := by decide +kernel
theorem dX3_layOut_79 : decode cX3_layOut 79 = .ok (.iinc 4 1, 3) := by decide +kernel
theorem dX3_layOut_82 : decode cX3_layOut 82 = .ok (.goto (-65), 3) := by decide +kernel
theorem dX3_layOut_85 : decode cX3_layOut 85 = .ok (.aload_n 0, 1) := by decide +kernel
theorem dX3_layOut_86 : decode cX3_layOut 86 = .ok (.aload_n 1, 1) := by decide +kernel
theorem dX3_layOut_87 : decode cX3_layOut 87 = .ok (.getfield 42, 3) := by decide +kernel
theorem dX3_layOut_90 : decode cX3_layOut 90 = .ok (.invokevirtual 146, 3) := by decide +kernel
theorem dX3_layOut_93 : decode cX3_layOut 93 = .ok (.return_, 1) := by decide +kernel
theorem dX3_layOutKind_0 : decode cX3_layOutKind 0 = .ok (.lload_n 2, 1) := by decide +kernel
theorem dX3_layOutKind_1 : decode cX3_layOutKind 1 = .ok (.lstore 5, 2) := by decide +kernel
theorem dX3_layOutKind_3 : decode cX3_layOutKind 3 = .ok (.iconst 0, 1) := by decide +kernel
theorem dX3_layOutKind_4 : decode cX3_layOutKind 4 = .ok (.istore 7, 2) := by decide +kernel
theorem dX3_layOutKind_6 : decode cX3_layOutKind 6 = .ok (.iload 7, 2) := by decide +kernel
theorem dX3_layOutKind_8 : decode cX3_layOutKind 8 = .ok (.aload 4, 2) := by decide +kernel
theorem dX3_layOutKind_10 : decode cX3_layOutKind 10 = .ok (.invokevirtual 52, 3) := by decide +kernel
theorem dX3_layOutKind_13 : decode cX3_layOutKind 13 = .ok (.if_icmp .ge 67, 3) := by decide +kernel
theorem dX3_layOutKind_16 : decode cX3_layOutKind 16 = .ok (.aload 4, 2) := by decide +kernel
theorem dX3_layOutKind_18 : decode cX3_layOutKind 18 = .ok (.iload 7, 2) := by decide +kernel
theorem dX3_layOutKind_20 : decode cX3_layOutKind 20 = .ok (.invokevirtual 58, 3) := by decide +kernel
theorem dX3_layOutKind_23 : decode cX3_layOutKind 23 = .ok (.checkcast 69, 3) := by decide +kernel
theorem dX3_layOutKind_26 : decode cX3_layOutKind 26 = .ok (.astore 8, 2) := by decide +kernel
theorem dX3_layOutKind_28 : decode cX3_layOutKind 28 = .ok (.aload 8, 2) := by decide +kernel
theorem dX3_layOutKind_30 : decode cX3_layOutKind 30 = .ok (.getfield 150, 3) := by decide +kernel
theorem dX3_layOutKind_33 : decode cX3_layOutKind 33 = .ok (.iload_n 1, 1) := by decide +kernel
theorem dX3_layOutKind_34 : decode cX3_layOutKind 34 = .ok (.if_icmp .ne 40, 3) := by decide +kernel
theorem dX3_layOutKind_37 : decode cX3_layOutKind 37 = .ok (.aload 8, 2) := by decide +kernel
theorem dX3_layOutKind_39 : decode cX3_layOutKind 39 = .ok (.invokevirtual 68, 3) := by decide +kernel
theorem dX3_layOutKind_42 : decode cX3_layOutKind 42 = .ok (.ifCond .eq 32, 3) := by decide +kernel
theorem dX3_layOutKind_45 : decode cX3_layOutKind 45 = .ok (.aload 8, 2) := by decide +kernel
theorem dX3_layOutKind_47 : decode cX3_layOutKind 47 = .ok (.lload 5, 2) := by decide +kernel
theorem dX3_layOutKind_49 : decode cX3_layOutKind 49 = .ok (.aload 8, 2) := by decide +kernel
theorem dX3_layOutKind_51 : decode cX3_layOutKind 51 = .ok (.getfield 153, 3) := by decide +kernel
theorem dX3_layOutKind_54 : decode cX3_layOutKind 54 = .ok (.invokestatic 156, 3) := by decide +kernel
theorem dX3_layOutKind_57 : decode cX3_layOutKind 57 = .ok (.putfield 109, 3) := by decide +kernel
theorem dX3_layOutKind_60 : decode cX3_layOutKind 60 = .ok (.aload 8, 2) := by decide +kernel
theorem dX3_layOutKind_62 : decode cX3_layOutKind 62 = .ok (.invokevirtual 160, 3) := by decide +kernel
theorem dX3_layOutKind_65 : decode cX3_layOutKind 65 = .ok (.lstore 5, 2) := by decide +kernel
theorem dX3_layOutKind_67 : decode cX3_layOutKind 67 = .ok (.aload_n 0, 1) := by decide +kernel
theorem dX3_layOutKind_68 : decode cX3_layOutKind 68 = .ok (.getfield 18, 3) := by decide +kernel
theorem dX3_layOutKind_71 : decode cX3_layOutKind 71 = .ok (.iload_n 1, 1) := by decide +kernel
theorem dX3_layOutKind_72 : decode cX3_layOutKind 72 = .ok (.iconst 1, 1) := by decide +kernel
theorem dX3_layOutKind_73 : decode cX3_layOutKind 73 = .ok (.bastore, 1) := by decide +kernel
theorem dX3_layOutKind_74 : decode cX3_layOutKind 74 = .ok (.iinc 7 1, 3) := by decide +kernel
theorem dX3_layOutKind_77 : decode cX3_layOutKind 77 = .ok (.goto (-71), 3) := by decide +kernel
theorem dX3_layOutKind_80 : decode cX3_layOutKind 80 = .ok (.lload 5, 2) := by decide +kernel
theorem dX3_layOutKind_82 : decode cX3_layOutKind 82 = .ok (.lreturn, 1) := by decide +kernel
theorem dX3_findSetEdges_0 : decode cX3_findSetEdges 0 = .ok (.aload_n 0, 1) := by decide +kernel
theorem dX3_findSetEdges_1 : decode cX3_findSetEdges 1 = .ok (.getfield 22, 3) := by decide +kernel
theorem dX3_findSetEdges_4 : decode cX3_findSetEdges 4 = .ok (.ldc2_w 163, 3) := by decide +kernel
theorem dX3_findSetEdges_7 : decode cX3_findSetEdges 7 = .ok (.invokestatic 165, 3) := by decide +kernel
theorem dX3_findSetEdges_10 : decode cX3_findSetEdges 10 = .ok (.aload_n 0, 1) := by decide +kernel
theorem dX3_findSetEdges_11 : decode cX3_findSetEdges 11 = .ok (.getfield 25, 3) := by decide +kernel
theorem dX3_findSetEdges_14 : decode cX3_findSetEdges 14 = .ok (.lconst 0, 1) := by decide +kernel
theorem dX3_findSetEdges_15 : decode cX3_findSetEdges 15 = .ok (.invokestatic 165, 3) := by decide +kernel
theorem dX3_findSetEdges_18 : decode cX3_findSetEdges 18 = .ok (.iconst 0, 1) := by decide +kernel
theorem dX3_findSetEdges_19 : decode cX3_findSetEdges 19 = .ok (.istore_n 2, 1) := by decide +kernel
theorem dX3_findSetEdges_20 : decode cX3_findSetEdges 20 = .ok (.iload_n 2, 1) := by decide +kernel
theorem dX3_findSetEdges_21 : decode cX3_findSetEdges 21 = .ok (.aload_n 1, 1) := by decide +kernel
theorem dX3_findSetEdges_22 : decode cX3_findSetEdges 22 = .ok (.invokevirtual 52, 3) := by decide +kernel
theorem dX3_findSetEdges_25 : decode cX3_findSetEdges 25 = .ok (.if_icmp .ge 63, 3) := by decide +kernel
theorem dX3_findSetEdges_28 : decode cX3_findSetEdges 28 = .ok (.aload_n 1, 1) := by decide +kernel
theorem dX3_findSetEdges_29 : decode cX3_findSetEdges 29 = .ok (.iload_n 2, 1) := by decide +kernel
theorem dX3_findSetEdges_30 : decode cX3_findSetEdges 30 = .ok (.invokevirtual 58, 3) := by decide +kernel
theorem dX3_findSetEdges_33 : decode cX3_findSetEdges 33 = .ok (.checkcast 69, 3) := by decide +kernel
theorem dX3_findSetEdges_36 : decode cX3_findSetEdges 36 = .ok (.astore_n 3, 1) := by decide +kernel
theorem dX3_findSetEdges_37 : decode cX3_findSetEdges 37 = .ok (.aload_n 3, 1) := by decide +kernel
theorem dX3_findSetEdges_38 : decode cX3_findSetEdges 38 = .ok (.invokevirtual 171, 3) := by decide +kernel
theorem dX3_findSetEdges_41 : decode cX3_findSetEdges 41 = .ok (.ifCond .eq 41, 3) := by decide +kernel
theorem dX3_findSetEdges_44 : decode cX3_findSetEdges 44 = .ok (.aload_n 3, 1) := by decide +kernel
theorem dX3_findSetEdges_45 : decode cX3_findSetEdges 45 = .ok (.getfield 174, 3) := by decide +kernel
theorem dX3_findSetEdges_48 : decode cX3_findSetEdges 48 = .ok (.ifCond .lt 34, 3) := by decide +kernel
theorem dX3_findSetEdges_51 : decode cX3_findSetEdges 51 = .ok (.aload_n 3, 1) := by decide +kernel
theorem dX3_findSetEdges_52 : decode cX3_findSetEdges 52 = .ok (.getfield 174, 3) := by decide +kernel
theorem dX3_findSetEdges_55 : decode cX3_findSetEdges 55 = .ok (.bipush 8, 2) := by decide +kernel
theorem dX3_findSetEdges_57 : decode cX3_findSetEdges 57 = .ok (.if_icmp .ge 25, 3) := by decide +kernel
theorem dX3_findSetEdges_60 : decode cX3_findSetEdges 60 = .ok (.aload_n 0, 1) := by decide +kernel
theorem dX3_findSetEdges_61 : decode cX3_findSetEdges 61 = .ok (.aload_n 3, 1) := by decide +kernel
theorem dX3_findSetEdges_62 : decode cX3_findSetEdges 62 = .ok (.getfield 174, 3) := by decide +kernel
theorem dX3_findSetEdges_65 : decode cX3_findSetEdges 65 = .ok (.aload_n 3, 1) := by decide +kernel
theorem dX3_findSetEdges_66 : decode cX3_findSetEdges 66 = .ok (.invokevirtual 99, 3) := by decide +kernel
theorem dX3_findSetEdges_69 : decode cX3_findSetEdges 69 = .ok (.aload_n 3, 1) := by decide +kernel
theorem dX3_findSetEdges_70 : decode cX3_findSetEdges 70 = .ok (.invokevirtual 99, 3) := by decide +kernel
theorem dX3_findSetEdges_73 : decode cX3_findSetEdges 73 = .ok (.aload_n 3, 1) := by decide +kernel
theorem dX3_findSetEdges_74 : decode cX3_findSetEdges 74 = .ok (.getfield 177, 3) := by decide +kernel
theorem dX3_findSetEdges_77 : decode cX3_findSetEdges 77 = .ok (.i2l, 1) := by decide +kernel
theorem dX3_findSetEdges_78 : decode cX3_findSetEdges 78 = .ok (.ladd, 1) := by decide +kernel
theorem dX3_findSetEdges_79 : decode cX3_findSetEdges 79 = .ok (.invokevirtual 179, 3) := by decide +kernel
theorem dX3_findSetEdges_82 : decode cX3_findSetEdges 82 = .ok (.iinc 2 1, 3) := by decide +kernel
theorem dX3_findSetEdges_85 : decode cX3_findSetEdges 85 = .ok (.goto (-65), 3) := by decide +kernel
theorem dX3_findSetEdges_88 : decode cX3_findSetEdges 88 = .ok (.iconst 0, 1) := by decide +kernel
theorem dX3_findSetEdges_89 : decode cX3_findSetEdges 89 = .ok (.istore_n 2, 1) := by decide +kernel
theorem dX3_findSetEdges_90 : decode cX3_findSetEdges 90 = .ok (.iload_n 2, 1) := by decide +kernel
theorem dX3_findSetEdges_91 : decode cX3_findSetEdges 91 = .ok (.bipush 8, 2) := by decide +kernel
theorem dX3_findSetEdges_93 : decode cX3_findSetEdges 93 = .ok (.if_icmp .ge 38, 3) := by decide +kernel
theorem dX3_findSetEdges_96 : decode cX3_findSetEdges 96 = .ok (.aload_n 0, 1) := by decide +kernel
theorem dX3_findSetEdges_97 : decode cX3_findSetEdges 97 = .ok (.getfield 22, 3) := by decide +kernel
theorem dX3_findSetEdges_100 : decode cX3_findSetEdges 100 = .ok (.iload_n 2, 1) := by decide +kernel
theorem dX3_findSetEdges_101 : decode cX3_findSetEdges 101 = .ok (.aload_n 0, 1) := by decide +kernel
theorem dX3_findSetEdges_102 : decode cX3_findSetEdges 102 = .ok (.getfield 22, 3) := by decide +kernel
theorem dX3_findSetEdges_105 : decode cX3_findSetEdges 105 = .ok (.iload_n 2, 1) := by decide +kernel
theorem dX3_findSetEdges_106 : decode cX3_findSetEdges 106 = .ok (.laload, 1) := by decide +kernel
theorem dX3_findSetEdges_107 : decode cX3_findSetEdges 107 = .ok (.ldc2_w 163, 3) := by decide +kernel
theorem dX3_findSetEdges_110 : decode cX3_findSetEdges 110 = .ok (.lcmp, 1) := by decide +kernel
theorem dX3_findSetEdges_111 : decode cX3_findSetEdges 111 = .ok (.ifCond .ne 7, 3) := by decide +kernel
theorem dX3_findSetEdges_114 : decode cX3_findSetEdges 114 = .ok (.lconst 0, 1) := by decide +kernel
theorem dX3_findSetEdges_115 : decode cX3_findSetEdges 115 = .ok (.goto 9, 3) := by decide +kernel
theorem dX3_findSetEdges_118 : decode cX3_findSetEdges 118 = .ok (.aload_n 0, 1) := by decide +kernel
theorem dX3_findSetEdges_119 : decode cX3_findSetEdges 119 = .ok (.getfield 22, 3) := by decide +kernel
theorem dX3_findSetEdges_122 : decode cX3_findSetEdges 122 = .ok (.iload_n 2, 1) := by decide +kernel
theorem dX3_findSetEdges_123 : decode cX3_findSetEdges 123 = .ok (.laload, 1) := by decide +kernel
theorem dX3_findSetEdges_124 : decode cX3_findSetEdges 124 = .ok (.lastore, 1) := by decide +kernel
theorem dX3_findSetEdges_125 : decode cX3_findSetEdges 125 = .ok (.iinc 2 1, 3) := by decide +kernel
theorem dX3_findSetEdges_128 : decode cX3_findSetEdges 128 = .ok (.goto (-38), 3) := by decide +kernel
theorem dX3_findSetEdges_131 : decode cX3_findSetEdges 131 = .ok (.return_, 1) := by decide +kernel
theorem dX3_widenSet_0 : decode cX3_widenSet 0 = .ok (.aload_n 0, 1) := by decide +kernel
theorem dX3_widenSet_1 : decode cX3_widenSet 1 = .ok (.getfield 22, 3) := by decide +kernel
theorem dX3_widenSet_4 : decode cX3_widenSet 4 = .ok (.iload_n 1, 1) := by decide +kernel
theorem dX3_widenSet_5 : decode cX3_widenSet 5 = .ok (.aload_n 0, 1) := by decide +kernel
theorem dX3_widenSet_6 : decode cX3_widenSet 6 = .ok (.getfield 22, 3) := by decide +kernel
theorem dX3_widenSet_9 : decode cX3_widenSet 9 = .ok (.iload_n 1, 1) := by decide +kernel
theorem dX3_widenSet_10 : decode cX3_widenSet 10 = .ok (.laload, 1) := by decide +kernel
theorem dX3_widenSet_11 : decode cX3_widenSet 11 = .ok (.ldc2_w 163, 3) := by decide +kernel
theorem dX3_widenSet_14 : decode cX3_widenSet 14 = .ok (.lcmp, 1) := by decide +kernel
theorem dX3_widenSet_15 : decode cX3_widenSet 15 = .ok (.ifCond .ne 7, 3) := by decide +kernel
theorem dX3_widenSet_18 : decode cX3_widenSet 18 = .ok (.lload_n 2, 1) := by decide +kernel
theorem dX3_widenSet_19 : decode cX3_widenSet 19 = .ok (.goto 13, 3) := by decide +kernel
theorem dX3_widenSet_22 : decode cX3_widenSet 22 = .ok (.aload_n 0, 1) := by decide +kernel
theorem dX3_widenSet_23 : decode cX3_widenSet 23 = .ok (.getfield 22, 3) := by decide +kernel
theorem dX3_widenSet_26 : decode cX3_widenSet 26 = .ok (.iload_n 1, 1) := by decide +kernel
theorem dX3_widenSet_27 : decode cX3_widenSet 27 = .ok (.laload, 1) := by decide +kernel
theorem dX3_widenSet_28 : decode cX3_widenSet 28 = .ok (.lload_n 2, 1) := by decide +kernel
theorem dX3_widenSet_29 : decode cX3_widenSet 29 = .ok (.invokestatic 183, 3) := by decide +kernel
theorem dX3_widenSet_32 : decode cX3_widenSet 32 = .ok (.lastore, 1) := by decide +kernel
theorem dX3_widenSet_33 : decode cX3_widenSet 33 = .ok (.aload_n 0, 1) := by decide +kernel
theorem dX3_widenSet_34 : decode cX3_widenSet 34 = .ok (.getfield 25, 3) := by decide +kernel
theorem dX3_widenSet_37 : decode cX3_widenSet 37 = .ok (.iload_n 1, 1) := by decide +kernel
theorem dX3_widenSet_38 : decode cX3_widenSet 38 = .ok (.aload_n 0, 1) := by decide +kernel
theorem dX3_widenSet_39 : decode cX3_widenSet 39 = .ok (.getfield 25, 3) := by decide +kernel
theorem dX3_widenSet_42 : decode cX3_widenSet 42 = .ok (.iload_n 1, 1) := by decide +kernel
theorem dX3_widenSet_43 : decode cX3_widenSet 43 = .ok (.laload, 1) := by decide +kernel
theorem dX3_widenSet_44 : decode cX3_widenSet 44 = .ok (.lload 4, 2) := by decide +kernel
theorem dX3_widenSet_46 : decode cX3_widenSet 46 = .ok (.invokestatic 189, 3) := by decide +kernel
theorem dX3_widenSet_49 : decode cX3_widenSet 49 = .ok (.lastore, 1) := by decide +kernel
theorem dX3_widenSet_50 : decode cX3_widenSet 50 = .ok (.return_, 1) := by decide +kernel
theorem dX3_addVeneers_0 : decode cX3_addVeneers 0 = .ok (.aload_n 0, 1) := by decide +kernel
theorem dX3_addVeneers_1 : decode cX3_addVeneers 1 = .ok (.getfield 32, 3) := by decide +kernel
theorem dX3_addVeneers_4 : decode cX3_addVeneers 4 = .ok (.istore_n 2, 1) := by decide +kernel
theorem dX3_addVeneers_5 : decode cX3_addVeneers 5 = .ok (.iconst 0, 1) := by decide +kernel
theorem dX3_addVeneers_6 : decode cX3_addVeneers 6 = .ok (.istore_n 3, 1) := by decide +kernel
theorem dX3_addVeneers_7 : decode cX3_addVeneers 7 = .ok (.iload_n 3, 1) := by decide +kernel
theorem dX3_addVeneers_8 : decode cX3_addVeneers 8 = .ok (.aload_n 1, 1) := by decide +kernel
theorem dX3_addVeneers_9 : decode cX3_addVeneers 9 = .ok (.invokevirtual 52, 3) := by decide +kernel
theorem dX3_addVeneers_12 : decode cX3_addVeneers 12 = .ok (.if_icmp .ge 35, 3) := by decide +kernel
theorem dX3_addVeneers_15 : decode cX3_addVeneers 15 = .ok (.aload_n 1, 1) := by decide +kernel
theorem dX3_addVeneers_16 : decode cX3_addVeneers 16 = .ok (.iload_n 3, 1) := by decide +kernel
theorem dX3_addVeneers_17 : decode cX3_addVeneers 17 = .ok (.invokevirtual 58, 3) := by decide +kernel
theorem dX3_addVeneers_20 : decode cX3_addVeneers 20 = .ok (.checkcast 69, 3) := by decide +kernel
theorem dX3_addVeneers_23 : decode cX3_addVeneers 23 = .ok (.invokevirtual 68, 3) := by decide +kernel
theorem dX3_addVeneers_26 : decode cX3_addVeneers 26 = .ok (.ifCond .eq 15, 3) := by decide +kernel
theorem dX3_addVeneers_29 : decode cX3_addVeneers 29 = .ok (.aload_n 0, 1) := by decide +kernel
theorem dX3_addVeneers_30 : decode cX3_addVeneers 30 = .ok (.aload_n 1, 1) := by decide +kernel
theorem dX3_addVeneers_31 : decode cX3_addVeneers 31 = .ok (.iload_n 3, 1) := by decide +kernel
theorem dX3_addVeneers_32 : decode cX3_addVeneers 32 = .ok (.invokevirtual 58, 3) := by decide +kernel
theorem dX3_addVeneers_35 : decode cX3_addVeneers 35 = .ok (.checkcast 69, 3) := by decide +kernel
theorem dX3_addVeneers_38 : decode cX3_addVeneers 38 = .ok (.invokevirtual 192, 3) := by decide +kernel
theorem dX3_addVeneers_41 : decode cX3_addVeneers 41 = .ok (.iinc 3 1, 3) := by decide +kernel
theorem dX3_addVeneers_44 : decode cX3_addVeneers 44 = .ok (.goto (-37), 3) := by decide +kernel
theorem dX3_addVeneers_47 : decode cX3_addVeneers 47 = .ok (.aload_n 0, 1) := by decide +kernel
theorem dX3_addVeneers_48 : decode cX3_addVeneers 48 = .ok (.getfield 32, 3) := by decide +kernel
theorem dX3_addVeneers_51 : decode cX3_addVeneers 51 = .ok (.iload_n 2, 1) := by decide +kernel
theorem dX3_addVeneers_52 : decode cX3_addVeneers 52 = .ok (.if_icmp .eq 7, 3) := by decide +kernel
theorem dX3_addVeneers_55 : decode cX3_addVeneers 55 = .ok (.iconst 1, 1) := by decide +kernel
theorem dX3_addVeneers_56 : decode cX3_addVeneers 56 = .ok (.goto 4, 3) := by decide +kernel
theorem dX3_addVeneers_59 : decode cX3_addVeneers 59 = .ok (.iconst 0, 1) := by decide +kernel
theorem dX3_addVeneers_60 : decode cX3_addVeneers 60 = .ok (.ireturn, 1) := by decide +kernel
theorem dX3_addVeneersOf_0 : decode cX3_addVeneersOf 0 = .ok (.iconst 0, 1) := by decide +kernel
theorem dX3_addVeneersOf_1 : decode cX3_addVeneersOf 1 = .ok (.istore_n 2, 1) := by decide +kernel
theorem dX3_addVeneersOf_2 : decode cX3_addVeneersOf 2 = .ok (.iload_n 2, 1) := by decide +kernel
theorem dX3_addVeneersOf_3 : decode cX3_addVeneersOf 3 = .ok (.aload_n 1, 1) := by decide +kernel
theorem dX3_addVeneersOf_4 : decode cX3_addVeneersOf 4 = .ok (.getfield 196, 3) := by decide +kernel
theorem dX3_addVeneersOf_7 : decode cX3_addVeneersOf 7 = .ok (.invokevirtual 52, 3) := by decide +kernel
theorem dX3_addVeneersOf_10 : decode cX3_addVeneersOf 10 = .ok (.if_icmp .ge 76, 3) := by decide +kernel
theorem dX3_addVeneersOf_13 : decode cX3_addVeneersOf 13 = .ok (.aload_n 1, 1) := by decide +kernel
theorem dX3_addVeneersOf_14 : decode cX3_addVeneersOf 14 = .ok (.getfield 196, 3) := by decide +kernel
theorem dX3_addVeneersOf_17 : decode cX3_addVeneersOf 17 = .ok (.iload_n 2, 1) := by decide +kernel
theorem dX3_addVeneersOf_18 : decode cX3_addVeneersOf 18 = .ok (.invokevirtual 58, 3) := by decide +kernel
theorem dX3_addVeneersOf_21 : decode cX3_addVeneersOf 21 = .ok (.checkcast 62, 3) := by decide +kernel
theorem dX3_addVeneersOf_24 : decode cX3_addVeneersOf 24 = .ok (.astore_n 3, 1) := by decide +kernel
theorem dX3_addVeneersOf_25 : decode cX3_addVeneersOf 25 = .ok (.aload_n 3, 1) := by decide +kernel
theorem dX3_addVeneersOf_26 : decode cX3_addVeneersOf 26 = .ok (.getfield 74, 3) := by decide +kernel
theorem dX3_addVeneersOf_29 : decode cX3_addVeneersOf 29 = .ok (.getstatic 197, 3) := by decide +kernel
theorem dX3_addVeneersOf_32 : decode cX3_addVeneersOf 32 = .ok (.if_acmp .ne 15, 3) := by decide +kernel
theorem dX3_addVeneersOf_35 : decode cX3_addVeneersOf 35 = .ok (.aload_n 3, 1) := by decide +kernel
theorem dX3_addVeneersOf_36 : decode cX3_addVeneersOf 36 = .ok (.getfield 133, 3) := by decide +kernel
theorem dX3_addVeneersOf_39 : decode cX3_addVeneersOf 39 = .ok (.iconst (-1), 1) := by decide +kernel
theorem dX3_addVeneersOf_40 : decode cX3_addVeneersOf 40 = .ok (.if_icmp .ne 7, 3) := by decide +kernel
theorem dX3_addVeneersOf_43 : decode cX3_addVeneersOf 43 = .ok (.iconst 1, 1) := by decide +kernel
theorem dX3_addVeneersOf_44 : decode cX3_addVeneersOf 44 = .ok (.goto 4, 3) := by decide +kernel
theorem dX3_addVeneersOf_47 : decode cX3_addVeneersOf 47 = .ok (.iconst 0, 1) := by decide +kernel
theorem dX3_addVeneersOf_48 : decode cX3_addVeneersOf 48 = .ok (.istore 4, 2) := by decide +kernel
theorem dX3_addVeneersOf_50 : decode cX3_addVeneersOf 50 = .ok (.iload 4, 2) := by decide +kernel
theorem dX3_addVeneersOf_52 : decode cX3_addVeneersOf 52 = .ok (.ifCond .eq 28, 3) := by decide +kernel
theorem dX3_addVeneersOf_55 : decode cX3_addVeneersOf 55 = .ok (.aload_n 3, 1) := by decide +kernel
theorem dX3_addVeneersOf_56 : decode cX3_addVeneersOf 56 = .ok (.getfield 74, 3) := by decide +kernel
theorem dX3_addVeneersOf_59 : decode cX3_addVeneersOf 59 = .ok (.aload_n 0, 1) := by decide +kernel
theorem dX3_addVeneersOf_60 : decode cX3_addVeneersOf 60 = .ok (.aload_n 3, 1) := by decide +kernel
theorem dX3_addVeneersOf_61 : decode cX3_addVeneersOf 61 = .ok (.invokevirtual 78, 3) := by decide +kernel
theorem dX3_addVeneersOf_64 : decode cX3_addVeneersOf 64 = .ok (.invokevirtual 82, 3) := by decide +kernel
theorem dX3_addVeneersOf_67 : decode cX3_addVeneersOf 67 = .ok (.ifCond .ne 13, 3) := by decide +kernel
theorem dX3_addVeneersOf_70 : decode cX3_addVeneersOf 70 = .ok (.aload_n 3, 1) := by decide +kernel
theorem dX3_addVeneersOf_71 : decode cX3_addVeneersOf 71 = .ok (.aload_n 0, 1) := by decide +kernel
theorem dX3_addVeneersOf_72 : decode cX3_addVeneersOf 72 = .ok (.aload_n 1, 1) := by decide +kernel
theorem dX3_addVeneersOf_73 : decode cX3_addVeneersOf 73 = .ok (.aload_n 3, 1) := by decide +kernel
theorem dX3_addVeneersOf_74 : decode cX3_addVeneersOf 74 = .ok (.invokevirtual 200, 3) := by decide +kernel
theorem dX3_addVeneersOf_77 : decode cX3_addVeneersOf 77 = .ok (.putfield 133, 3) := by decide +kernel
theorem dX3_addVeneersOf_80 : decode cX3_addVeneersOf 80 = .ok (.iinc 2 1, 3) := by decide +kernel
theorem dX3_addVeneersOf_83 : decode cX3_addVeneersOf 83 = .ok (.goto (-81), 3) := by decide +kernel
theorem dX3_addVeneersOf_86 : decode cX3_addVeneersOf 86 = .ok (.return_, 1) := by decide +kernel
theorem dX3_veneerFor_0 : decode cX3_veneerFor 0 = .ok (.iconst 0, 1) := by decide +kernel
theorem dX3_veneerFor_1 : decode cX3_veneerFor 1 = .ok (.istore_n 3, 1) := by decide +kernel
theorem dX3_veneerFor_2 : decode cX3_veneerFor 2 = .ok (.iload_n 3, 1) := by decide +kernel
theorem dX3_veneerFor_3 : decode cX3_veneerFor 3 = .ok (.aload_n 1, 1) := by decide +kernel
theorem dX3_veneerFor_4 : decode cX3_veneerFor 4 = .ok (.getfield 196, 3) := by decide +kernel
theorem dX3_veneerFor_7 : decode cX3_veneerFor 7 = .ok (.invokevirtual 52, 3) := by decide +kernel
theorem dX3_veneerFor_10 : decode cX3_veneerFor 10 = .ok (.if_icmp .ge 76, 3) := by decide +kernel
theorem dX3_veneerFor_13 : decode cX3_veneerFor 13 = .ok (.aload_n 1, 1) := by decide +kernel
theorem dX3_veneerFor_14 : decode cX3_veneerFor 14 = .ok (.getfield 196, 3) := by decide +kernel
theorem dX3_veneerFor_17 : decode cX3_veneerFor 17 = .ok (.iload_n 3, 1) := by decide +kernel
theorem dX3_veneerFor_18 : decode cX3_veneerFor 18 = .ok (.invokevirtual 58, 3) := by decide +kernel
theorem dX3_veneerFor_21 : decode cX3_veneerFor 21 = .ok (.checkcast 62, 3) := by decide +kernel
theorem dX3_veneerFor_24 : decode cX3_veneerFor 24 = .ok (.astore 4, 2) := by decide +kernel
theorem dX3_veneerFor_26 : decode cX3_veneerFor 26 = .ok (.aload 4, 2) := by decide +kernel
theorem dX3_veneerFor_28 : decode cX3_veneerFor 28 = .ok (.getfield 204, 3) := by decide +kernel
theorem dX3_veneerFor_31 : decode cX3_veneerFor 31 = .ok (.aload_n 2, 1) := by decide +kernel
theorem dX3_veneerFor_32 : decode cX3_veneerFor 32 = .ok (.getfield 204, 3) := by decide +kernel
theorem dX3_veneerFor_35 : decode cX3_veneerFor 35 = .ok (.if_icmp .ne 22, 3) := by decide +kernel
theorem dX3_veneerFor_38 : decode cX3_veneerFor 38 = .ok (.aload 4, 2) := by decide +kernel
theorem dX3_veneerFor_40 : decode cX3_veneerFor 40 = .ok (.getfield 207, 3) := by decide +kernel
theorem dX3_veneerFor_43 : decode cX3_veneerFor 43 = .ok (.aload_n 2, 1) := by decide +kernel
theorem dX3_veneerFor_44 : decode cX3_veneerFor 44 = .ok (.getfield 207, 3) := by decide +kernel
theorem dX3_veneerFor_47 : decode cX3_veneerFor 47 = .ok (.invokevirtual 211, 3) := by decide +kernel
theorem dX3_veneerFor_50 : decode cX3_veneerFor 50 = .ok (.ifCond .eq 7, 3) := by decide +kernel
theorem dX3_veneerFor_53 : decode cX3_veneerFor 53 = .ok (.iconst 1, 1) := by decide +kernel
theorem dX3_veneerFor_54 : decode cX3_veneerFor 54 = .ok (.goto 4, 3) := by decide +kernel
theorem dX3_veneerFor_57 : decode cX3_veneerFor 57 = .ok (.iconst 0, 1) := by decide +kernel
theorem dX3_veneerFor_58 : decode cX3_veneerFor 58 = .ok (.istore 5, 2) := by decide +kernel
theorem dX3_veneerFor_60 : decode cX3_veneerFor 60 = .ok (.iload 5, 2) := by decide +kernel
theorem dX3_veneerFor_62 : decode cX3_veneerFor 62 = .ok (.ifCond .eq 18, 3) := by decide +kernel
theorem dX3_veneerFor_65 : decode cX3_veneerFor 65 = .ok (.aload 4, 2) := by decide +kernel
theorem dX3_veneerFor_67 : decode cX3_veneerFor 67 = .ok (.getfield 133, 3) := by decide +kernel
theorem dX3_veneerFor_70 : decode cX3_veneerFor 70 = .ok (.iconst (-1), 1) := by decide +kernel
theorem dX3_veneerFor_71 : decode cX3_veneerFor 71 = .ok (.if_icmp .eq 9, 3) := by decide +kernel
theorem dX3_veneerFor_74 : decode cX3_veneerFor 74 = .ok (.aload 4, 2) := by decide +kernel
theorem dX3_veneerFor_76 : decode cX3_veneerFor 76 = .ok (.getfield 133, 3) := by decide +kernel
theorem dX3_veneerFor_79 : decode cX3_veneerFor 79 = .ok (.ireturn, 1) := by decide +kernel
theorem dX3_veneerFor_80 : decode cX3_veneerFor 80 = .ok (.iinc 3 1, 3) := by decide +kernel
theorem dX3_veneerFor_83 : decode cX3_veneerFor 83 = .ok (.goto (-81), 3) := by decide +kernel
theorem dX3_veneerFor_86 : decode cX3_veneerFor 86 = .ok (.aload_n 1, 1) := by decide +kernel
theorem dX3_veneerFor_87 : decode cX3_veneerFor 87 = .ok (.dup, 1) := by decide +kernel
theorem dX3_veneerFor_88 : decode cX3_veneerFor 88 = .ok (.getfield 127, 3) := by decide +kernel
theorem dX3_veneerFor_91 : decode cX3_veneerFor 91 = .ok (.iconst 1, 1) := by decide +kernel
theorem dX3_veneerFor_92 : decode cX3_veneerFor 92 = .ok (.iadd, 1) := by decide +kernel
theorem dX3_veneerFor_93 : decode cX3_veneerFor 93 = .ok (.putfield 127, 3) := by decide +kernel
theorem dX3_veneerFor_96 : decode cX3_veneerFor 96 = .ok (.aload_n 0, 1) := by decide +kernel
theorem dX3_veneerFor_97 : decode cX3_veneerFor 97 = .ok (.dup, 1) := by decide +kernel
theorem dX3_veneerFor_98 : decode cX3_veneerFor 98 = .ok (.getfield 32, 3) := by decide +kernel
theorem dX3_veneerFor_101 : decode cX3_veneerFor 101 = .ok (.iconst 1, 1) := by decide +kernel
theorem dX3_veneerFor_102 : decode cX3_veneerFor 102 = .ok (.iadd, 1) := by decide +kernel
theorem dX3_veneerFor_103 : decode cX3_veneerFor 103 = .ok (.putfield 32, 3) := by decide +kernel
theorem dX3_veneerFor_106 : decode cX3_veneerFor 106 = .ok (.aload_n 1, 1) := by decide +kernel
theorem dX3_veneerFor_107 : decode cX3_veneerFor 107 = .ok (.getfield 127, 3) := by decide +kernel
theorem dX3_veneerFor_110 : decode cX3_veneerFor 110 = .ok (.iconst 1, 1) := by decide +kernel
theorem dX3_veneerFor_111 : decode cX3_veneerFor 111 = .ok (.isub, 1) := by decide +kernel
theorem dX3_veneerFor_112 : decode cX3_veneerFor 112 = .ok (.ireturn, 1) := by decide +kernel
theorem dX3_amountWritten_0 : decode cX3_amountWritten 0 = .ok (.aload_n 1, 1) := by decide +kernel
theorem dX3_amountWritten_1 : decode cX3_amountWritten 1 = .ok (.getfield 133, 3) := by decide +kernel
theorem dX3_amountWritten_4 : decode cX3_amountWritten 4 = .ok (.iconst (-1), 1) := by decide +kernel
theorem dX3_amountWritten_5 : decode cX3_amountWritten 5 = .ok (.if_icmp .eq 20, 3) := by decide +kernel
theorem dX3_amountWritten_8 : decode cX3_amountWritten 8 = .ok (.aload_n 1, 1) := by decide +kernel
theorem dX3_amountWritten_9 : decode cX3_amountWritten 9 = .ok (.getfield 64, 3) := by decide +kernel
theorem dX3_amountWritten_12 : decode cX3_amountWritten 12 = .ok (.aload_n 1, 1) := by decide +kernel
theorem dX3_amountWritten_13 : decode cX3_amountWritten 13 = .ok (.getfield 133, 3) := by decide +kernel
theorem dX3_amountWritten_16 : decode cX3_amountWritten 16 = .ok (.invokevirtual 117, 3) := by decide +kernel
theorem dX3_amountWritten_19 : decode cX3_amountWritten 19 = .ok (.aload_n 1, 1) := by decide +kernel
theorem dX3_amountWritten_20 : decode cX3_amountWritten 20 = .ok (.invokevirtual 215, 3) := by decide +kernel
theorem dX3_amountWritten_23 : decode cX3_amountWritten 23 = .ok (.lsub, 1) := by decide +kernel
theorem dX3_amountWritten_24 : decode cX3_amountWritten 24 = .ok (.lreturn, 1) := by decide +kernel
theorem dX3_amountWritten_25 : decode cX3_amountWritten 25 = .ok (.aload_n 1, 1) := by decide +kernel
theorem dX3_amountWritten_26 : decode cX3_amountWritten 26 = .ok (.getfield 74, 3) := by decide +kernel
theorem dX3_amountWritten_29 : decode cX3_amountWritten 29 = .ok (.getfield 218, 3) := by decide +kernel
theorem dX3_amountWritten_32 : decode cX3_amountWritten 32 = .ok (.ifCond .eq 10, 3) := by decide +kernel
theorem dX3_amountWritten_35 : decode cX3_amountWritten 35 = .ok (.aload_n 1, 1) := by decide +kernel
theorem dX3_amountWritten_36 : decode cX3_amountWritten 36 = .ok (.invokevirtual 215, 3) := by decide +kernel
theorem dX3_amountWritten_39 : decode cX3_amountWritten 39 = .ok (.goto 4, 3) := by decide +kernel
theorem dX3_amountWritten_42 : decode cX3_amountWritten 42 = .ok (.lconst 0, 1) := by decide +kernel
theorem dX3_amountWritten_43 : decode cX3_amountWritten 43 = .ok (.lstore_n 2, 1) := by decide +kernel
theorem dX3_amountWritten_44 : decode cX3_amountWritten 44 = .ok (.aload_n 0, 1) := by decide +kernel
theorem dX3_amountWritten_45 : decode cX3_amountWritten 45 = .ok (.aload_n 1, 1) := by decide +kernel
theorem dX3_amountWritten_46 : decode cX3_amountWritten 46 = .ok (.getfield 207, 3) := by decide +kernel
theorem dX3_amountWritten_49 : decode cX3_amountWritten 49 = .ok (.invokevirtual 222, 3) := by decide +kernel
theorem dX3_amountWritten_52 : decode cX3_amountWritten 52 = .ok (.aload_n 1, 1) := by decide +kernel
theorem dX3_amountWritten_53 : decode cX3_amountWritten 53 = .ok (.getfield 204, 3) := by decide +kernel
theorem dX3_amountWritten_56 : decode cX3_amountWritten 56 = .ok (.i2l, 1) := by decide +kernel
theorem dX3_amountWritten_57 : decode cX3_amountWritten 57 = .ok (.ladd, 1) := by decide +kernel
theorem dX3_amountWritten_58 : decode cX3_amountWritten 58 = .ok (.lload_n 2, 1) := by decide +kernel
theorem dX3_amountWritten_59 : decode cX3_amountWritten 59 = .ok (.lsub, 1) := by decide +kernel
theorem dX3_amountWritten_60 : decode cX3_amountWritten 60 = .ok (.lreturn, 1) := by decide +kernel
theorem dX3_sectionByte_0 : decode cX3_sectionByte 0 = .ok (.aload_n 1, 1) := by decide +kernel
theorem dX3_sectionByte_1 : decode cX3_sectionByte 1 = .ok (.getfield 150, 3) := by decide +kernel
theorem dX3_sectionByte_4 : decode cX3_sectionByte 4 = .ok (.iconst 3, 1) := by decide +kernel
theorem dX3_sectionByte_5 : decode cX3_sectionByte 5 = .ok (.if_icmp .ne 5, 3) := by decide +kernel
theorem dX3_sectionByte_8 : decode cX3_sectionByte 8 = .ok (.iconst 0, 1) := by decide +kernel
theorem dX3_sectionByte_9 : decode cX3_sectionByte 9 = .ok (.ireturn, 1) := by decide +kernel
theorem dX3_sectionByte_10 : decode cX3_sectionByte 10 = .ok (.aload_n 1, 1) := by decide +kernel
theorem dX3_sectionByte_11 : decode cX3_sectionByte 11 = .ok (.getfield 196, 3) := by decide +kernel
theorem dX3_sectionByte_14 : decode cX3_sectionByte 14 = .ok (.invokevirtual 52, 3) := by decide +kernel
theorem dX3_sectionByte_17 : decode cX3_sectionByte 17 = .ok (.iconst 1, 1) := by decide +kernel
theorem dX3_sectionByte_18 : decode cX3_sectionByte 18 = .ok (.isub, 1) := by decide +kernel
theorem dX3_sectionByte_19 : decode cX3_sectionByte 19 = .ok (.istore_n 3, 1) := by decide +kernel
theorem dX3_sectionByte_20 : decode cX3_sectionByte 20 = .ok (.iload_n 3, 1) := by decide +kernel
theorem dX3_sectionByte_21 : decode cX3_sectionByte 21 = .ok (.ifCond .lt 48, 3) := by decide +kernel
theorem dX3_sectionByte_24 : decode cX3_sectionByte 24 = .ok (.aload_n 1, 1) := by decide +kernel
theorem dX3_sectionByte_25 : decode cX3_sectionByte 25 = .ok (.getfield 196, 3) := by decide +kernel
theorem dX3_sectionByte_28 : decode cX3_sectionByte 28 = .ok (.iload_n 3, 1) := by decide +kernel
theorem dX3_sectionByte_29 : decode cX3_sectionByte 29 = .ok (.invokevirtual 58, 3) := by decide +kernel
theorem dX3_sectionByte_32 : decode cX3_sectionByte 32 = .ok (.checkcast 62, 3) := by decide +kernel
theorem dX3_sectionByte_35 : decode cX3_sectionByte 35 = .ok (.astore 4, 2) := by decide +kernel
theorem dX3_sectionByte_37 : decode cX3_sectionByte 37 = .ok (.aload 4, 2) := by decide +kernel
theorem dX3_sectionByte_39 : decode cX3_sectionByte 39 = .ok (.iload_n 2, 1) := by decide +kernel
theorem dX3_sectionByte_40 : decode cX3_sectionByte 40 = .ok (.invokevirtual 226, 3) := by decide +kernel
theorem dX3_sectionByte_43 : decode cX3_sectionByte 43 = .ok (.ifCond .eq 20, 3) := by decide +kernel
theorem dX3_sectionByte_46 : decode cX3_sectionByte 46 = .ok (.aload_n 0, 1) := by decide +kernel
theorem dX3_sectionByte_47 : decode cX3_sectionByte 47 = .ok (.aload 4, 2) := by decide +kernel
theorem dX3_sectionByte_49 : decode cX3_sectionByte 49 = .ok (.invokevirtual 78, 3) := by decide +kernel
theorem dX3_sectionByte_52 : decode cX3_sectionByte 52 = .ok (.iload_n 2, 1) := by decide +kernel
theorem dX3_sectionByte_53 : decode cX3_sectionByte 53 = .ok (.aload 4, 2) := by decide +kernel
theorem dX3_sectionByte_55 : decode cX3_sectionByte 55 = .ok (.getfield 230, 3) := by decide +kernel
theorem dX3_sectionByte_58 : decode cX3_sectionByte 58 = .ok (.isub, 1) := by decide +kernel
theorem dX3_sectionByte_59 : decode cX3_sectionByte 59 = .ok (.invokestatic 233, 3) := by decide +kernel
theorem dX3_sectionByte_62 : decode cX3_sectionByte 62 = .ok (.ireturn, 1) := by decide +kernel
theorem dX3_sectionByte_63 : decode cX3_sectionByte 63 = .ok (.iinc 3 (-1), 3) := by decide +kernel
theorem dX3_sectionByte_66 : decode cX3_sectionByte 66 = .ok (.goto (-46), 3) := by decide +kernel
theorem dX3_sectionByte_69 : decode cX3_sectionByte 69 = .ok (.aload_n 1, 1) := by decide +kernel
theorem dX3_sectionByte_70 : decode cX3_sectionByte 70 = .ok (.iload_n 2, 1) := by decide +kernel
theorem dX3_sectionByte_71 : decode cX3_sectionByte 71 = .ok (.invokevirtual 237, 3) := by decide +kernel
theorem dX3_sectionByte_74 : decode cX3_sectionByte 74 = .ok (.ireturn, 1) := by decide +kernel
theorem dX3_veneerByte_0 : decode cX3_veneerByte 0 = .ok (.iload_n 3, 1) := by decide +kernel
theorem dX3_veneerByte_1 : decode cX3_veneerByte 1 = .ok (.iconst 4, 1) := by decide +kernel
theorem dX3_veneerByte_2 : decode cX3_veneerByte 2 = .ok (.if_icmp .ge 15, 3) := by decide +kernel
theorem dX3_veneerByte_5 : decode cX3_veneerByte 5 = .ok (.iload_n 3, 1) := by decide +kernel
theorem dX3_veneerByte_6 : decode cX3_veneerByte 6 = .ok (.ifCond .ne 9, 3) := by decide +kernel
theorem dX3_veneerByte_9 : decode cX3_veneerByte 9 = .ok (.sipush 234, 3) := by decide +kernel
theorem dX3_veneerByte_12 : decode cX3_veneerByte 12 = .ok (.goto 4, 3) := by decide +kernel
theorem dX3_veneerByte_15 : decode cX3_veneerByte 15 = .ok (.iconst 0, 1) := by decide +kernel
theorem dX3_veneerByte_16 : decode cX3_veneerByte 16 = .ok (.ireturn, 1) := by decide +kernel
theorem dX3_veneerByte_17 : decode cX3_veneerByte 17 = .ok (.iconst 0, 1) := by decide +kernel
theorem dX3_veneerByte_18 : decode cX3_veneerByte 18 = .ok (.istore 4, 2) := by decide +kernel
theorem dX3_veneerByte_20 : decode cX3_veneerByte 20 = .ok (.iload 4, 2) := by decide +kernel
theorem dX3_veneerByte_22 : decode cX3_veneerByte 22 = .ok (.aload_n 1, 1) := by decide +kernel
theorem dX3_veneerByte_23 : decode cX3_veneerByte 23 = .ok (.getfield 196, 3) := by decide +kernel
theorem dX3_veneerByte_26 : decode cX3_veneerByte 26 = .ok (.invokevirtual 52, 3) := by decide +kernel
theorem dX3_veneerByte_29 : decode cX3_veneerByte 29 = .ok (.if_icmp .ge 55, 3) := by decide +kernel
theorem dX3_veneerByte_32 : decode cX3_veneerByte 32 = .ok (.aload_n 1, 1) := by decide +kernel
theorem dX3_veneerByte_33 : decode cX3_veneerByte 33 = .ok (.getfield 196, 3) := by decide +kernel
theorem dX3_veneerByte_36 : decode cX3_veneerByte 36 = .ok (.iload 4, 2) := by decide +kernel
theorem dX3_veneerByte_38 : decode cX3_veneerByte 38 = .ok (.invokevirtual 58, 3) := by decide +kernel
theorem dX3_veneerByte_41 : decode cX3_veneerByte 41 = .ok (.checkcast 62, 3) := by decide +kernel
theorem dX3_veneerByte_44 : decode cX3_veneerByte 44 = .ok (.astore 5, 2) := by decide +kernel
theorem dX3_veneerByte_46 : decode cX3_veneerByte 46 = .ok (.aload 5, 2) := by decide +kernel
theorem dX3_veneerByte_48 : decode cX3_veneerByte 48 = .ok (.getfield 133, 3) := by decide +kernel
theorem dX3_veneerByte_51 : decode cX3_veneerByte 51 = .ok (.iload_n 2, 1) := by decide +kernel
theorem dX3_veneerByte_52 : decode cX3_veneerByte 52 = .ok (.if_icmp .ne 26, 3) := by decide +kernel
theorem dX3_veneerByte_55 : decode cX3_veneerByte 55 = .ok (.aload_n 0, 1) := by decide +kernel
theorem dX3_veneerByte_56 : decode cX3_veneerByte 56 = .ok (.aload 5, 2) := by decide +kernel
theorem dX3_veneerByte_58 : decode cX3_veneerByte 58 = .ok (.getfield 207, 3) := by decide +kernel
theorem dX3_veneerByte_61 : decode cX3_veneerByte 61 = .ok (.invokevirtual 222, 3) := by decide +kernel
theorem dX3_veneerByte_64 : decode cX3_veneerByte 64 = .ok (.aload 5, 2) := by decide +kernel
theorem dX3_veneerByte_66 : decode cX3_veneerByte 66 = .ok (.getfield 204, 3) := by decide +kernel
theorem dX3_veneerByte_69 : decode cX3_veneerByte 69 = .ok (.i2l, 1) := by decide +kernel
theorem dX3_veneerByte_70 : decode cX3_veneerByte 70 = .ok (.ladd, 1) := by decide +kernel
theorem dX3_veneerByte_71 : decode cX3_veneerByte 71 = .ok (.iload_n 3, 1) := by decide +kernel
theorem dX3_veneerByte_72 : decode cX3_veneerByte 72 = .ok (.iconst 4, 1) := by decide +kernel
theorem dX3_veneerByte_73 : decode cX3_veneerByte 73 = .ok (.isub, 1) := by decide +kernel
theorem dX3_veneerByte_74 : decode cX3_veneerByte 74 = .ok (.invokestatic 233, 3) := by decide +kernel
theorem dX3_veneerByte_77 : decode cX3_veneerByte 77 = .ok (.ireturn, 1) := by decide +kernel
theorem dX3_veneerByte_78 : decode cX3_veneerByte 78 = .ok (.iinc 4 1, 3) := by decide +kernel
theorem dX3_veneerByte_81 : decode cX3_veneerByte 81 = .ok (.goto (-61), 3) := by decide +kernel
theorem dX3_veneerByte_84 : decode cX3_veneerByte 84 = .ok (.iconst 0, 1) := by decide +kernel
theorem dX3_veneerByte_85 : decode cX3_veneerByte 85 = .ok (.ireturn, 1) := by decide +kernel
theorem dX3_byteOf_0 : decode cX3_byteOf 0 = .ok (.lload_n 0, 1) := by decide +kernel
theorem dX3_byteOf_1 : decode cX3_byteOf 1 = .ok (.bipush 8, 2) := by decide +kernel
theorem dX3_byteOf_3 : decode cX3_byteOf 3 = .ok (.iload_n 2, 1) := by decide +kernel
theorem dX3_byteOf_4 : decode cX3_byteOf 4 = .ok (.imul, 1) := by decide +kernel
theorem dX3_byteOf_5 : decode cX3_byteOf 5 = .ok (.lshr, 1) := by decide +kernel
theorem dX3_byteOf_6 : decode cX3_byteOf 6 = .ok (.l2i, 1) := by decide +kernel
theorem dX3_byteOf_7 : decode cX3_byteOf 7 = .ok (.sipush 255, 3) := by decide +kernel
theorem dX3_byteOf_10 : decode cX3_byteOf 10 = .ok (.iand, 1) := by decide +kernel
theorem dX3_byteOf_11 : decode cX3_byteOf 11 = .ok (.ireturn, 1) := by decide +kernel
theorem dX4_init_0 : decode cX4_init 0 = .ok (.aload_n 0, 1) := by decide +kernel
theorem dX4_init_1 : decode cX4_init 1 = .ok (.invokespecial 3, 3) := by decide +kernel
theorem dX4_init_4 : decode cX4_init 4 = .ok (.aload_n 0, 1) := by decide +kernel
theorem dX4_init_5 : decode cX4_init 5 = .ok (.iconst (-1), 1) := by decide +kernel
theorem dX4_init_6 : decode cX4_init 6 = .ok (.putfield 9, 3) := by decide +kernel
theorem dX4_init_9 : decode cX4_init 9 = .ok (.aload_n 0, 1) := by decide +kernel
theorem dX4_init_10 : decode cX4_init 10 = .ok (.aload_n 1, 1) := by decide +kernel
theorem dX4_init_11 : decode cX4_init 11 = .ok (.putfield 15, 3) := by decide +kernel
theorem dX4_init_14 : decode cX4_init 14 = .ok (.aload_n 0, 1) := by decide +kernel
theorem dX4_init_15 : decode cX4_init 15 = .ok (.iload_n 2, 1) := by decide +kernel
theorem dX4_init_16 : decode cX4_init 16 = .ok (.putfield 19, 3) := by decide +kernel
theorem dX4_init_19 : decode cX4_init 19 = .ok (.aload_n 0, 1) := by decide +kernel
theorem dX4_init_20 : decode cX4_init 20 = .ok (.aload_n 3, 1) := by decide +kernel
theorem dX4_init_21 : decode cX4_init 21 = .ok (.putfield 22, 3) := by decide +kernel
theorem dX4_init_24 : decode cX4_init 24 = .ok (.aload_n 0, 1) := by decide +kernel
theorem dX4_init_25 : decode cX4_init 25 = .ok (.aload 4, 2) := by decide +kernel
theorem dX4_init_27 : decode cX4_init 27 = .ok (.putfield 26, 3) := by decide +kernel
theorem dX4_init_30 : decode cX4_init 30 = .ok (.aload_n 0, 1) := by decide +kernel
theorem dX4_init_31 : decode cX4_init 31 = .ok (.iload 5, 2) := by decide +kernel
theorem dX4_init_33 : decode cX4_init 33 = .ok (.putfield 30, 3) := by decide +kernel
theorem dX4_init_36 : decode cX4_init 36 = .ok (.return_, 1) := by decide +kernel
theorem dX4_ownPlace_0 : decode cX4_ownPlace 0 = .ok (.aload_n 0, 1) := by decide +kernel
theorem dX4_ownPlace_1 : decode cX4_ownPlace 1 = .ok (.getfield 15, 3) := by decide +kernel
theorem dX4_ownPlace_4 : decode cX4_ownPlace 4 = .ok (.getfield 33, 3) := by decide +kernel
theorem dX4_ownPlace_7 : decode cX4_ownPlace 7 = .ok (.aload_n 0, 1) := by decide +kernel
theorem dX4_ownPlace_8 : decode cX4_ownPlace 8 = .ok (.getfield 19, 3) := by decide +kernel
theorem dX4_ownPlace_11 : decode cX4_ownPlace 11 = .ok (.i2l, 1) := by decide +kernel
theorem dX4_ownPlace_12 : decode cX4_ownPlace 12 = .ok (.ladd, 1) := by decide +kernel
theorem dX4_ownPlace_13 : decode cX4_ownPlace 13 = .ok (.lreturn, 1) := by decide +kernel
theorem dX4_covers_0 : decode cX4_covers 0 = .ok (.iload_n 1, 1) := by decide +kernel
theorem dX4_covers_1 : decode cX4_covers 1 = .ok (.aload_n 0, 1) := by decide +kernel
theorem dX4_covers_2 : decode cX4_covers 2 = .ok (.getfield 19, 3) := by decide +kernel
theorem dX4_covers_5 : decode cX4_covers 5 = .ok (.if_icmp .lt 23, 3) := by decide +kernel
theorem dX4_covers_8 : decode cX4_covers 8 = .ok (.iload_n 1, 1) := by decide +kernel
theorem dX4_covers_9 : decode cX4_covers 9 = .ok (.aload_n 0, 1) := by decide +kernel
theorem dX4_covers_10 : decode cX4_covers 10 = .ok (.getfield 19, 3) := by decide +kernel
theorem dX4_covers_13 : decode cX4_covers 13 = .ok (.aload_n 0, 1) := by decide +kernel
theorem dX4_covers_14 : decode cX4_covers 14 = .ok (.getfield 22, 3) := by decide +kernel
theorem dX4_covers_17 : decode cX4_covers 17 = .ok (.getfield 39, 3) := by decide +kernel
theorem dX4_covers_20 : decode cX4_covers 20 = .ok (.iadd, 1) := by decide +kernel
theorem dX4_covers_21 : decode cX4_covers 21 = .ok (.if_icmp .ge 7, 3) := by decide +kernel
theorem dX4_covers_24 : decode cX4_covers 24 = .ok (.iconst 1, 1) := by decide +kernel
theorem dX4_covers_25 : decode cX4_covers 25 = .ok (.goto 4, 3) := by decide +kernel
theorem dX4_covers_28 : decode cX4_covers 28 = .ok (.iconst 0, 1) := by decide +kernel
theorem dX4_covers_29 : decode cX4_covers 29 = .ok (.ireturn, 1) := by decide +kernel
theorem dX4_isWrittenLike_0 : decode cX4_isWrittenLike 0 = .ok (.aload_n 0, 1) := by decide +kernel
theorem dX4_isWrittenLike_1 : decode cX4_isWrittenLike 1 = .ok (.getfield 19, 3) := by decide +kernel
theorem dX4_isWrittenLike_4 : decode cX4_isWrittenLike 4 = .ok (.aload_n 1, 1) := by decide +kernel
theorem dX4_isWrittenLike_5 : decode cX4_isWrittenLike 5 = .ok (.getfield 19, 3) := by decide +kernel
theorem dX4_isWrittenLike_8 : decode cX4_isWrittenLike 8 = .ok (.if_icmp .ne 29, 3) := by decide +kernel
theorem dX4_isWrittenLike_11 : decode cX4_isWrittenLike 11 = .ok (.aload_n 0, 1) := by decide +kernel
theorem dX4_isWrittenLike_12 : decode cX4_isWrittenLike 12 = .ok (.getfield 22, 3) := by decide +kernel
theorem dX4_isWrittenLike_15 : decode cX4_isWrittenLike 15 = .ok (.aload_n 1, 1) := by decide +kernel
theorem dX4_isWrittenLike_16 : decode cX4_isWrittenLike 16 = .ok (.getfield 22, 3) := by decide +kernel
theorem dX4_isWrittenLike_19 : decode cX4_isWrittenLike 19 = .ok (.if_acmp .ne 18, 3) := by decide +kernel
theorem dX4_isWrittenLike_22 : decode cX4_isWrittenLike 22 = .ok (.aload_n 0, 1) := by decide +kernel
theorem dX4_isWrittenLike_23 : decode cX4_isWrittenLike 23 = .ok (.getfield 30, 3) := by decide +kernel
theorem dX4_isWrittenLike_26 : decode cX4_isWrittenLike 26 = .ok (.aload_n 1, 1) := by decide +kernel
theorem dX4_isWrittenLike_27 : decode cX4_isWrittenLike 27 = .ok (.getfield 30, 3) := by decide +kernel
theorem dX4_isWrittenLike_30 : decode cX4_isWrittenLike 30 = .ok (.if_icmp .ne 7, 3) := by decide +kernel
theorem dX4_isWrittenLike_33 : decode cX4_isWrittenLike 33 = .ok (.iconst 1, 1) := by decide +kernel
theorem dX4_isWrittenLike_34 : decode cX4_isWrittenLike 34 = .ok (.goto 4, 3) := by decide +kernel
theorem dX4_isWrittenLike_37 : decode cX4_isWrittenLike 37 = .ok (.iconst 0, 1) := by decide +kernel
theorem dX4_isWrittenLike_38 : decode cX4_isWrittenLike 38 = .ok (.ireturn, 1) := by decide +kernel
theorem dX5_init_0 : decode cX5_init 0 = .ok (.aload_n 0, 1) := by decide +kernel
theorem dX5_init_1 : decode cX5_init 1 = .ok (.invokespecial 3, 3) := by decide +kernel
theorem dX5_init_4 : decode cX5_init 4 = .ok (.aload_n 0, 1) := by decide +kernel
theorem dX5_init_5 : decode cX5_init 5 = .ok (.new 9, 3) := by decide +kernel
theorem dX5_init_8 : decode cX5_init 8 = .ok (.dup, 1) := by decide +kernel
theorem dX5_init_9 : decode cX5_init 9 = .ok (.invokespecial 11, 3) := by decide +kernel
theorem dX5_init_12 : decode cX5_init 12 = .ok (.putfield 12, 3) := by decide +kernel
theorem dX5_init_15 : decode cX5_init 15 = .ok (.aload_n 0, 1) := by decide +kernel
theorem dX5_init_16 : decode cX5_init 16 = .ok (.iconst (-1), 1) := by decide +kernel
theorem dX5_init_17 : decode cX5_init 17 = .ok (.putfield 18, 3) := by decide +kernel
theorem dX5_init_20 : decode cX5_init 20 = .ok (.aload_n 0, 1) := by decide +kernel
theorem dX5_init_21 : decode cX5_init 21 = .ok (.iconst (-1), 1) := by decide +kernel
theorem dX5_init_22 : decode cX5_init 22 = .ok (.putfield 22, 3) := by decide +kernel
theorem dX5_init_25 : decode cX5_init 25 = .ok (.aload_n 0, 1) := by decide +kernel
theorem dX5_init_26 : decode cX5_init 26 = .ok (.iconst (-1), 1) := by decide +kernel
theorem dX5_init_27 : decode cX5_init 27 = .ok (.putfield 25, 3) := by decide +kernel
theorem dX5_init_30 : decode cX5_init 30 = .ok (.aload_n 0, 1) := by decide +kernel
theorem dX5_init_31 : decode cX5_init 31 = .ok (.iload_n 1, 1) := by decide +kernel
theorem dX5_init_32 : decode cX5_init 32 = .ok (.putfield 28, 3) := by decide +kernel
theorem dX5_init_35 : decode cX5_init 35 = .ok (.aload_n 0, 1) := by decide +kernel
theorem dX5_init_36 : decode cX5_init 36 = .ok (.iload_n 2, 1) := by decide +kernel
theorem dX5_init_37 : decode cX5_init 37 = .ok (.putfield 31, 3) := by decide +kernel
theorem dX5_init_40 : decode cX5_init 40 = .ok (.aload_n 0, 1) := by decide +kernel
theorem dX5_init_41 : decode cX5_init 41 = .ok (.iload_n 3, 1) := by decide +kernel
theorem dX5_init_42 : decode cX5_init 42 = .ok (.putfield 34, 3) := by decide +kernel
theorem dX5_init_45 : decode cX5_init 45 = .ok (.aload_n 0, 1) := by decide +kernel
theorem dX5_init_46 : decode cX5_init 46 = .ok (.iload 4, 2) := by decide +kernel
theorem dX5_init_48 : decode cX5_init 48 = .ok (.putfield 37, 3) := by decide +kernel
theorem dX5_init_51 : decode cX5_init 51 = .ok (.aload_n 0, 1) := by decide +kernel
theorem dX5_init_52 : decode cX5_init 52 = .ok (.iload 5, 2) := by decide +kernel
theorem dX5_init_54 : decode cX5_init 54 = .ok (.putfield 40, 3) := by decide +kernel
theorem dX5_init_57 : decode cX5_init 57 = .ok (.aload_n 0, 1) := by decide +kernel
theorem dX5_init_58 : decode cX5_init 58 = .ok (.iload 6, 2) := by decide +kernel
theorem dX5_init_60 : decode cX5_init 60 = .ok (.putfield 43, 3) := by decide +kernel
theorem dX5_init_63 : decode cX5_init 63 = .ok (.return_, 1) := by decide +kernel
theorem dX5_byteAt_0 : decode cX5_byteAt 0 = .ok (.aload_n 0, 1) := by decide +kernel
theorem dX5_byteAt_1 : decode cX5_byteAt 1 = .ok (.getfield 46, 3) := by decide +kernel
theorem dX5_byteAt_4 : decode cX5_byteAt 4 = .ok (.ifnull 27, 3) := by decide +kernel
theorem dX5_byteAt_7 : decode cX5_byteAt 7 = .ok (.iload_n 1, 1) := by decide +kernel
theorem dX5_byteAt_8 : decode cX5_byteAt 8 = .ok (.ifCond .lt 23, 3) := by decide +kernel
theorem dX5_byteAt_11 : decode cX5_byteAt 11 = .ok (.iload_n 1, 1) := by decide +kernel
theorem dX5_byteAt_12 : decode cX5_byteAt 12 = .ok (.aload_n 0, 1) := by decide +kernel
theorem dX5_byteAt_13 : decode cX5_byteAt 13 = .ok (.getfield 46, 3) := by decide +kernel
theorem dX5_byteAt_16 : decode cX5_byteAt 16 = .ok (.arraylength, 1) := by decide +kernel
theorem dX5_byteAt_17 : decode cX5_byteAt 17 = .ok (.if_icmp .ge 14, 3) := by decide +kernel
theorem dX5_byteAt_20 : decode cX5_byteAt 20 = .ok (.aload_n 0, 1) := by decide +kernel
theorem dX5_byteAt_21 : decode cX5_byteAt 21 = .ok (.getfield 46, 3) := by decide +kernel
theorem dX5_byteAt_24 : decode cX5_byteAt 24 = .ok (.iload_n 1, 1) := by decide +kernel
theorem dX5_byteAt_25 : decode cX5_byteAt 25 = .ok (.baload, 1) := by decide +kernel
theorem dX5_byteAt_26 : decode cX5_byteAt 26 = .ok (.sipush 255, 3) := by decide +kernel
theorem dX5_byteAt_29 : decode cX5_byteAt 29 = .ok (.iand, 1) := by decide +kernel
theorem dX5_byteAt_30 : decode cX5_byteAt 30 = .ok (.ireturn, 1) := by decide +kernel
theorem dX5_byteAt_31 : decode cX5_byteAt 31 = .ok (.aload_n 0, 1) := by decide +kernel
theorem dX5_byteAt_32 : decode cX5_byteAt 32 = .ok (.getfield 43, 3) := by decide +kernel
theorem dX5_byteAt_35 : decode cX5_byteAt 35 = .ok (.iload_n 1, 1) := by decide +kernel
theorem dX5_byteAt_36 : decode cX5_byteAt 36 = .ok (.iadd, 1) := by decide +kernel
theorem dX5_byteAt_37 : decode cX5_byteAt 37 = .ok (.sipush 255, 3) := by decide +kernel
theorem dX5_byteAt_40 : decode cX5_byteAt 40 = .ok (.iand, 1) := by decide +kernel
theorem dX5_byteAt_41 : decode cX5_byteAt 41 = .ok (.ireturn, 1) := by decide +kernel
theorem dX5_setByte_0 : decode cX5_setByte 0 = .ok (.iload_n 1, 1) := by decide +kernel
theorem dX5_setByte_1 : decode cX5_setByte 1 = .ok (.ifCond .lt 11, 3) := by decide +kernel
theorem dX5_setByte_4 : decode cX5_setByte 4 = .ok (.iload_n 1, 1) := by decide +kernel
theorem dX5_setByte_5 : decode cX5_setByte 5 = .ok (.aload_n 0, 1) := by decide +kernel
theorem dX5_setByte_6 : decode cX5_setByte 6 = .ok (.getfield 37, 3) := by decide +kernel
end
section
theorem dX5_setByte_9 : decode cX5_setByte 9 = .ok (.if_icmp .lt 4, 3) := by decide +kernel
theorem dX5_setByte_12 : decode cX5_setByte 12 = .ok (.return_, 1) := by decide +kernel
theorem dX5_setByte_13 : decode cX5_setByte 13 = .ok (.aload_n 0, 1) := by decide +kernel
theorem dX5_setByte_14 : decode cX5_setByte 14 = .ok (.getfield 46, 3) := by decide +kernel
theorem dX5_setByte_17 : decode cX5_setByte 17 = .ok (.ifnonnull 11, 3) := by decide +kernel
theorem dX5_setByte_20 : decode cX5_setByte 20 = .ok (.aload_n 0, 1) := by decide +kernel
theorem dX5_setByte_21 : decode cX5_setByte 21 = .ok (.aload_n 0, 1) := by decide +kernel
theorem dX5_setByte_22 : decode cX5_setByte 22 = .ok (.invokevirtual 50, 3) := by decide +kernel
theorem dX5_setByte_25 : decode cX5_setByte 25 = .ok (.putfield 46, 3) := by decide +kernel
theorem dX5_setByte_28 : decode cX5_setByte 28 = .ok (.iload_n 1, 1) := by decide +kernel
theorem dX5_setByte_29 : decode cX5_setByte 29 = .ok (.aload_n 0, 1) := by decide +kernel
theorem dX5_setByte_30 : decode cX5_setByte 30 = .ok (.getfield 46, 3) := by decide +kernel
theorem dX5_setByte_33 : decode cX5_setByte 33 = .ok (.arraylength, 1) := by decide +kernel
theorem dX5_setByte_34 : decode cX5_setByte 34 = .ok (.if_icmp .ge 11, 3) := by decide +kernel
theorem dX5_setByte_37 : decode cX5_setByte 37 = .ok (.aload_n 0, 1) := by decide +kernel
theorem dX5_setByte_38 : decode cX5_setByte 38 = .ok (.getfield 46, 3) := by decide +kernel
theorem dX5_setByte_41 : decode cX5_setByte 41 = .ok (.iload_n 1, 1) := by decide +kernel
theorem dX5_setByte_42 : decode cX5_setByte 42 = .ok (.iload_n 2, 1) := by decide +kernel
theorem dX5_setByte_43 : decode cX5_setByte 43 = .ok (.i2b, 1) := by decide +kernel
theorem dX5_setByte_44 : decode cX5_setByte 44 = .ok (.bastore, 1) := by decide +kernel
theorem dX5_setByte_45 : decode cX5_setByte 45 = .ok (.return_, 1) := by decide +kernel
theorem dX5_seededBytes_0 : decode cX5_seededBytes 0 = .ok (.aload_n 0, 1) := by decide +kernel
theorem dX5_seededBytes_1 : decode cX5_seededBytes 1 = .ok (.getfield 37, 3) := by decide +kernel
theorem dX5_seededBytes_4 : decode cX5_seededBytes 4 = .ok (.ifCond .ge 7, 3) := by decide +kernel
theorem dX5_seededBytes_7 : decode cX5_seededBytes 7 = .ok (.iconst 0, 1) := by decide +kernel
theorem dX5_seededBytes_8 : decode cX5_seededBytes 8 = .ok (.goto 7, 3) := by decide +kernel
theorem dX5_seededBytes_11 : decode cX5_seededBytes 11 = .ok (.aload_n 0, 1) := by decide +kernel
theorem dX5_seededBytes_12 : decode cX5_seededBytes 12 = .ok (.getfield 37, 3) := by decide +kernel
theorem dX5_seededBytes_15 : decode cX5_seededBytes 15 = .ok (.newarray .byte, 2) := by decide +kernel
theorem dX5_seededBytes_17 : decode cX5_seededBytes 17 = .ok (.astore_n 1, 1) := by decide +kernel
theorem dX5_seededBytes_18 : decode cX5_seededBytes 18 = .ok (.iconst 0, 1) := by decide +kernel
theorem dX5_seededBytes_19 : decode cX5_seededBytes 19 = .ok (.istore_n 2, 1) := by decide +kernel
theorem dX5_seededBytes_20 : decode cX5_seededBytes 20 = .ok (.iload_n 2, 1) := by decide +kernel
theorem dX5_seededBytes_21 : decode cX5_seededBytes 21 = .ok (.aload_n 1, 1) := by decide +kernel
theorem dX5_seededBytes_22 : decode cX5_seededBytes 22 = .ok (.arraylength, 1) := by decide +kernel
theorem dX5_seededBytes_23 : decode cX5_seededBytes 23 = .ok (.if_icmp .ge 19, 3) := by decide +kernel
theorem dX5_seededBytes_26 : decode cX5_seededBytes 26 = .ok (.aload_n 1, 1) := by decide +kernel
theorem dX5_seededBytes_27 : decode cX5_seededBytes 27 = .ok (.iload_n 2, 1) := by decide +kernel
theorem dX5_seededBytes_28 : decode cX5_seededBytes 28 = .ok (.aload_n 0, 1) := by decide +kernel
theorem dX5_seededBytes_29 : decode cX5_seededBytes 29 = .ok (.getfield 43, 3) := by decide +kernel
theorem dX5_seededBytes_32 : decode cX5_seededBytes 32 = .ok (.iload_n 2, 1) := by decide +kernel
theorem dX5_seededBytes_33 : decode cX5_seededBytes 33 = .ok (.iadd, 1) := by decide +kernel
theorem dX5_seededBytes_34 : decode cX5_seededBytes 34 = .ok (.i2b, 1) := by decide +kernel
theorem dX5_seededBytes_35 : decode cX5_seededBytes 35 = .ok (.bastore, 1) := by decide +kernel
theorem dX5_seededBytes_36 : decode cX5_seededBytes 36 = .ok (.iinc 2 1, 3) := by decide +kernel
theorem dX5_seededBytes_39 : decode cX5_seededBytes 39 = .ok (.goto (-19), 3) := by decide +kernel
theorem dX5_seededBytes_42 : decode cX5_seededBytes 42 = .ok (.aload_n 1, 1) := by decide +kernel
theorem dX5_seededBytes_43 : decode cX5_seededBytes 43 = .ok (.areturn, 1) := by decide +kernel
theorem dX5_hasBytesOf_0 : decode cX5_hasBytesOf 0 = .ok (.aload_n 0, 1) := by decide +kernel
theorem dX5_hasBytesOf_1 : decode cX5_hasBytesOf 1 = .ok (.getfield 46, 3) := by decide +kernel
theorem dX5_hasBytesOf_4 : decode cX5_hasBytesOf 4 = .ok (.ifnonnull 39, 3) := by decide +kernel
theorem dX5_hasBytesOf_7 : decode cX5_hasBytesOf 7 = .ok (.aload_n 1, 1) := by decide +kernel
theorem dX5_hasBytesOf_8 : decode cX5_hasBytesOf 8 = .ok (.getfield 46, 3) := by decide +kernel
theorem dX5_hasBytesOf_11 : decode cX5_hasBytesOf 11 = .ok (.ifnonnull 32, 3) := by decide +kernel
theorem dX5_hasBytesOf_14 : decode cX5_hasBytesOf 14 = .ok (.aload_n 0, 1) := by decide +kernel
theorem dX5_hasBytesOf_15 : decode cX5_hasBytesOf 15 = .ok (.getfield 37, 3) := by decide +kernel
theorem dX5_hasBytesOf_18 : decode cX5_hasBytesOf 18 = .ok (.ifCond .eq 19, 3) := by decide +kernel
theorem dX5_hasBytesOf_21 : decode cX5_hasBytesOf 21 = .ok (.aload_n 0, 1) := by decide +kernel
theorem dX5_hasBytesOf_22 : decode cX5_hasBytesOf 22 = .ok (.getfield 43, 3) := by decide +kernel
theorem dX5_hasBytesOf_25 : decode cX5_hasBytesOf 25 = .ok (.aload_n 1, 1) := by decide +kernel
theorem dX5_hasBytesOf_26 : decode cX5_hasBytesOf 26 = .ok (.getfield 43, 3) := by decide +kernel
theorem dX5_hasBytesOf_29 : decode cX5_hasBytesOf 29 = .ok (.ixor, 1) := by decide +kernel
theorem dX5_hasBytesOf_30 : decode cX5_hasBytesOf 30 = .ok (.sipush 255, 3) := by decide +kernel
theorem dX5_hasBytesOf_33 : decode cX5_hasBytesOf 33 = .ok (.iand, 1) := by decide +kernel
theorem dX5_hasBytesOf_34 : decode cX5_hasBytesOf 34 = .ok (.ifCond .ne 7, 3) := by decide +kernel
theorem dX5_hasBytesOf_37 : decode cX5_hasBytesOf 37 = .ok (.iconst 1, 1) := by decide +kernel
theorem dX5_hasBytesOf_38 : decode cX5_hasBytesOf 38 = .ok (.goto 4, 3) := by decide +kernel
theorem dX5_hasBytesOf_41 : decode cX5_hasBytesOf 41 = .ok (.iconst 0, 1) := by decide +kernel
theorem dX5_hasBytesOf_42 : decode cX5_hasBytesOf 42 = .ok (.ireturn, 1) := by decide +kernel
theorem dX5_hasBytesOf_43 : decode cX5_hasBytesOf 43 = .ok (.iconst 0, 1) := by decide +kernel
theorem dX5_hasBytesOf_44 : decode cX5_hasBytesOf 44 = .ok (.istore_n 2, 1) := by decide +kernel
theorem dX5_hasBytesOf_45 : decode cX5_hasBytesOf 45 = .ok (.iload_n 2, 1) := by decide +kernel
theorem dX5_hasBytesOf_46 : decode cX5_hasBytesOf 46 = .ok (.aload_n 0, 1) := by decide +kernel
theorem dX5_hasBytesOf_47 : decode cX5_hasBytesOf 47 = .ok (.getfield 37, 3) := by decide +kernel
theorem dX5_hasBytesOf_50 : decode cX5_hasBytesOf 50 = .ok (.if_icmp .ge 24, 3) := by decide +kernel
theorem dX5_hasBytesOf_53 : decode cX5_hasBytesOf 53 = .ok (.aload_n 0, 1) := by decide +kernel
theorem dX5_hasBytesOf_54 : decode cX5_hasBytesOf 54 = .ok (.iload_n 2, 1) := by decide +kernel
theorem dX5_hasBytesOf_55 : decode cX5_hasBytesOf 55 = .ok (.invokevirtual 54, 3) := by decide +kernel
theorem dX5_hasBytesOf_58 : decode cX5_hasBytesOf 58 = .ok (.aload_n 1, 1) := by decide +kernel
theorem dX5_hasBytesOf_59 : decode cX5_hasBytesOf 59 = .ok (.iload_n 2, 1) := by decide +kernel
theorem dX5_hasBytesOf_60 : decode cX5_hasBytesOf 60 = .ok (.invokevirtual 54, 3) := by decide +kernel
theorem dX5_hasBytesOf_63 : decode cX5_hasBytesOf 63 = .ok (.if_icmp .eq 5, 3) := by decide +kernel
theorem dX5_hasBytesOf_66 : decode cX5_hasBytesOf 66 = .ok (.iconst 0, 1) := by decide +kernel
theorem dX5_hasBytesOf_67 : decode cX5_hasBytesOf 67 = .ok (.ireturn, 1) := by decide +kernel
theorem dX5_hasBytesOf_68 : decode cX5_hasBytesOf 68 = .ok (.iinc 2 1, 3) := by decide +kernel
theorem dX5_hasBytesOf_71 : decode cX5_hasBytesOf 71 = .ok (.goto (-26), 3) := by decide +kernel
theorem dX5_hasBytesOf_74 : decode cX5_hasBytesOf 74 = .ok (.iconst 1, 1) := by decide +kernel
theorem dX5_hasBytesOf_75 : decode cX5_hasBytesOf 75 = .ok (.ireturn, 1) := by decide +kernel
theorem dX5_exchangeMark_0 : decode cX5_exchangeMark 0 = .ok (.iload_n 1, 1) := by decide +kernel
theorem dX5_exchangeMark_1 : decode cX5_exchangeMark 1 = .ok (.ifCond .ne 33, 3) := by decide +kernel
theorem dX5_exchangeMark_4 : decode cX5_exchangeMark 4 = .ok (.aload_n 0, 1) := by decide +kernel
theorem dX5_exchangeMark_5 : decode cX5_exchangeMark 5 = .ok (.getfield 58, 3) := by decide +kernel
theorem dX5_exchangeMark_8 : decode cX5_exchangeMark 8 = .ok (.ifCond .eq 7, 3) := by decide +kernel
theorem dX5_exchangeMark_11 : decode cX5_exchangeMark 11 = .ok (.iconst 1, 1) := by decide +kernel
theorem dX5_exchangeMark_12 : decode cX5_exchangeMark 12 = .ok (.goto 4, 3) := by decide +kernel
theorem dX5_exchangeMark_15 : decode cX5_exchangeMark 15 = .ok (.iconst 0, 1) := by decide +kernel
theorem dX5_exchangeMark_16 : decode cX5_exchangeMark 16 = .ok (.istore_n 3, 1) := by decide +kernel
theorem dX5_exchangeMark_17 : decode cX5_exchangeMark 17 = .ok (.aload_n 0, 1) := by decide +kernel
theorem dX5_exchangeMark_18 : decode cX5_exchangeMark 18 = .ok (.iload_n 2, 1) := by decide +kernel
theorem dX5_exchangeMark_19 : decode cX5_exchangeMark 19 = .ok (.iconst 1, 1) := by decide +kernel
theorem dX5_exchangeMark_20 : decode cX5_exchangeMark 20 = .ok (.if_icmp .ne 7, 3) := by decide +kernel
theorem dX5_exchangeMark_23 : decode cX5_exchangeMark 23 = .ok (.iconst 1, 1) := by decide +kernel
theorem dX5_exchangeMark_24 : decode cX5_exchangeMark 24 = .ok (.goto 4, 3) := by decide +kernel
theorem dX5_exchangeMark_27 : decode cX5_exchangeMark 27 = .ok (.iconst 0, 1) := by decide +kernel
theorem dX5_exchangeMark_28 : decode cX5_exchangeMark 28 = .ok (.putfield 58, 3) := by decide +kernel
theorem dX5_exchangeMark_31 : decode cX5_exchangeMark 31 = .ok (.goto 31, 3) := by decide +kernel
theorem dX5_exchangeMark_34 : decode cX5_exchangeMark 34 = .ok (.iload_n 1, 1) := by decide +kernel
theorem dX5_exchangeMark_35 : decode cX5_exchangeMark 35 = .ok (.iconst 1, 1) := by decide +kernel
theorem dX5_exchangeMark_36 : decode cX5_exchangeMark 36 = .ok (.if_icmp .ne 16, 3) := by decide +kernel
theorem dX5_exchangeMark_39 : decode cX5_exchangeMark 39 = .ok (.aload_n 0, 1) := by decide +kernel
theorem dX5_exchangeMark_40 : decode cX5_exchangeMark 40 = .ok (.getfield 18, 3) := by decide +kernel
theorem dX5_exchangeMark_43 : decode cX5_exchangeMark 43 = .ok (.istore_n 3, 1) := by decide +kernel
theorem dX5_exchangeMark_44 : decode cX5_exchangeMark 44 = .ok (.aload_n 0, 1) := by decide +kernel
theorem dX5_exchangeMark_45 : decode cX5_exchangeMark 45 = .ok (.iload_n 2, 1) := by decide +kernel
theorem dX5_exchangeMark_46 : decode cX5_exchangeMark 46 = .ok (.putfield 18, 3) := by decide +kernel
theorem dX5_exchangeMark_49 : decode cX5_exchangeMark 49 = .ok (.goto 13, 3) := by decide +kernel
theorem dX5_exchangeMark_52 : decode cX5_exchangeMark 52 = .ok (.aload_n 0, 1) := by decide +kernel
theorem dX5_exchangeMark_53 : decode cX5_exchangeMark 53 = .ok (.getfield 22, 3) := by decide +kernel
theorem dX5_exchangeMark_56 : decode cX5_exchangeMark 56 = .ok (.istore_n 3, 1) := by decide +kernel
theorem dX5_exchangeMark_57 : decode cX5_exchangeMark 57 = .ok (.aload_n 0, 1) := by decide +kernel
theorem dX5_exchangeMark_58 : decode cX5_exchangeMark 58 = .ok (.iload_n 2, 1) := by decide +kernel
theorem dX5_exchangeMark_59 : decode cX5_exchangeMark 59 = .ok (.putfield 22, 3) := by decide +kernel
theorem dX5_exchangeMark_62 : decode cX5_exchangeMark 62 = .ok (.iload_n 3, 1) := by decide +kernel
theorem dX5_exchangeMark_63 : decode cX5_exchangeMark 63 = .ok (.ireturn, 1) := by decide +kernel
theorem dX5_isKept_0 : decode cX5_isKept 0 = .ok (.aload_n 0, 1) := by decide +kernel
theorem dX5_isKept_1 : decode cX5_isKept 1 = .ok (.getfield 25, 3) := by decide +kernel
theorem dX5_isKept_4 : decode cX5_isKept 4 = .ok (.iconst (-1), 1) := by decide +kernel
theorem dX5_isKept_5 : decode cX5_isKept 5 = .ok (.if_icmp .eq 7, 3) := by decide +kernel
theorem dX5_isKept_8 : decode cX5_isKept 8 = .ok (.iconst 1, 1) := by decide +kernel
theorem dX5_isKept_9 : decode cX5_isKept 9 = .ok (.goto 4, 3) := by decide +kernel
theorem dX5_isKept_12 : decode cX5_isKept 12 = .ok (.iconst 0, 1) := by decide +kernel
theorem dX5_isKept_13 : decode cX5_isKept 13 = .ok (.ireturn, 1) := by decide +kernel
theorem dX5_isPlaced_0 : decode cX5_isPlaced 0 = .ok (.aload_n 0, 1) := by decide +kernel
theorem dX5_isPlaced_1 : decode cX5_isPlaced 1 = .ok (.invokevirtual 62, 3) := by decide +kernel
theorem dX5_isPlaced_4 : decode cX5_isPlaced 4 = .ok (.ifCond .eq 14, 3) := by decide +kernel
theorem dX5_isPlaced_7 : decode cX5_isPlaced 7 = .ok (.aload_n 0, 1) := by decide +kernel
theorem dX5_isPlaced_8 : decode cX5_isPlaced 8 = .ok (.getfield 66, 3) := by decide +kernel
theorem dX5_isPlaced_11 : decode cX5_isPlaced 11 = .ok (.ifnonnull 7, 3) := by decide +kernel
theorem dX5_isPlaced_14 : decode cX5_isPlaced 14 = .ok (.iconst 1, 1) := by decide +kernel
theorem dX5_isPlaced_15 : decode cX5_isPlaced 15 = .ok (.goto 4, 3) := by decide +kernel
theorem dX5_isPlaced_18 : decode cX5_isPlaced 18 = .ok (.iconst 0, 1) := by decide +kernel
theorem dX5_isPlaced_19 : decode cX5_isPlaced 19 = .ok (.ireturn, 1) := by decide +kernel
theorem dX5_finalPlace_0 : decode cX5_finalPlace 0 = .ok (.aload_n 0, 1) := by decide +kernel
theorem dX5_finalPlace_1 : decode cX5_finalPlace 1 = .ok (.getfield 66, 3) := by decide +kernel
theorem dX5_finalPlace_4 : decode cX5_finalPlace 4 = .ok (.ifnonnull 10, 3) := by decide +kernel
theorem dX5_finalPlace_7 : decode cX5_finalPlace 7 = .ok (.aload_n 0, 1) := by decide +kernel
theorem dX5_finalPlace_8 : decode cX5_finalPlace 8 = .ok (.getfield 70, 3) := by decide +kernel
theorem dX5_finalPlace_11 : decode cX5_finalPlace 11 = .ok (.goto 10, 3) := by decide +kernel
theorem dX5_finalPlace_14 : decode cX5_finalPlace 14 = .ok (.aload_n 0, 1) := by decide +kernel
theorem dX5_finalPlace_15 : decode cX5_finalPlace 15 = .ok (.getfield 66, 3) := by decide +kernel
theorem dX5_finalPlace_18 : decode cX5_finalPlace 18 = .ok (.getfield 70, 3) := by decide +kernel
theorem dX5_finalPlace_21 : decode cX5_finalPlace 21 = .ok (.lreturn, 1) := by decide +kernel
theorem dX5_endWithoutVeneers_0 : decode cX5_endWithoutVeneers 0 = .ok (.aload_n 0, 1) := by decide +kernel
theorem dX5_endWithoutVeneers_1 : decode cX5_endWithoutVeneers 1 = .ok (.getfield 70, 3) := by decide +kernel
theorem dX5_endWithoutVeneers_4 : decode cX5_endWithoutVeneers 4 = .ok (.aload_n 0, 1) := by decide +kernel
theorem dX5_endWithoutVeneers_5 : decode cX5_endWithoutVeneers 5 = .ok (.getfield 37, 3) := by decide +kernel
theorem dX5_endWithoutVeneers_8 : decode cX5_endWithoutVeneers 8 = .ok (.i2l, 1) := by decide +kernel
theorem dX5_endWithoutVeneers_9 : decode cX5_endWithoutVeneers 9 = .ok (.ladd, 1) := by decide +kernel
theorem dX5_endWithoutVeneers_10 : decode cX5_endWithoutVeneers 10 = .ok (.lreturn, 1) := by decide +kernel
theorem dX5_placeOfVeneer_0 : decode cX5_placeOfVeneer 0 = .ok (.aload_n 0, 1) := by decide +kernel
theorem dX5_placeOfVeneer_1 : decode cX5_placeOfVeneer 1 = .ok (.invokevirtual 74, 3) := by decide +kernel
theorem dX5_placeOfVeneer_4 : decode cX5_placeOfVeneer 4 = .ok (.iconst 2, 1) := by decide +kernel
theorem dX5_placeOfVeneer_5 : decode cX5_placeOfVeneer 5 = .ok (.invokestatic 78, 3) := by decide +kernel
theorem dX5_placeOfVeneer_8 : decode cX5_placeOfVeneer 8 = .ok (.iload_n 1, 1) := by decide +kernel
theorem dX5_placeOfVeneer_9 : decode cX5_placeOfVeneer 9 = .ok (.i2l, 1) := by decide +kernel
theorem dX5_placeOfVeneer_10 : decode cX5_placeOfVeneer 10 = .ok (.ldc2_w 82, 3) := by decide +kernel
theorem dX5_placeOfVeneer_13 : decode cX5_placeOfVeneer 13 = .ok (.lmul, 1) := by decide +kernel
theorem dX5_placeOfVeneer_14 : decode cX5_placeOfVeneer 14 = .ok (.ladd, 1) := by decide +kernel
theorem dX5_placeOfVeneer_15 : decode cX5_placeOfVeneer 15 = .ok (.lreturn, 1) := by decide +kernel
theorem dX5_endWithVeneers_0 : decode cX5_endWithVeneers 0 = .ok (.aload_n 0, 1) := by decide +kernel
theorem dX5_endWithVeneers_1 : decode cX5_endWithVeneers 1 = .ok (.getfield 84, 3) := by decide +kernel
theorem dX5_endWithVeneers_4 : decode cX5_endWithVeneers 4 = .ok (.ifCond .ne 10, 3) := by decide +kernel
theorem dX5_endWithVeneers_7 : decode cX5_endWithVeneers 7 = .ok (.aload_n 0, 1) := by decide +kernel
theorem dX5_endWithVeneers_8 : decode cX5_endWithVeneers 8 = .ok (.invokevirtual 74, 3) := by decide +kernel
theorem dX5_endWithVeneers_11 : decode cX5_endWithVeneers 11 = .ok (.goto 11, 3) := by decide +kernel
theorem dX5_endWithVeneers_14 : decode cX5_endWithVeneers 14 = .ok (.aload_n 0, 1) := by decide +kernel
theorem dX5_endWithVeneers_15 : decode cX5_endWithVeneers 15 = .ok (.aload_n 0, 1) := by decide +kernel
theorem dX5_endWithVeneers_16 : decode cX5_endWithVeneers 16 = .ok (.getfield 84, 3) := by decide +kernel
theorem dX5_endWithVeneers_19 : decode cX5_endWithVeneers 19 = .ok (.invokevirtual 87, 3) := by decide +kernel
theorem dX5_endWithVeneers_22 : decode cX5_endWithVeneers 22 = .ok (.lreturn, 1) := by decide +kernel
theorem dX5_alignedUp_0 : decode cX5_alignedUp 0 = .ok (.lconst 1, 1) := by decide +kernel
theorem dX5_alignedUp_1 : decode cX5_alignedUp 1 = .ok (.iload_n 2, 1) := by decide +kernel
theorem dX5_alignedUp_2 : decode cX5_alignedUp 2 = .ok (.lshl, 1) := by decide +kernel
theorem dX5_alignedUp_3 : decode cX5_alignedUp 3 = .ok (.lconst 1, 1) := by decide +kernel
theorem dX5_alignedUp_4 : decode cX5_alignedUp 4 = .ok (.lsub, 1) := by decide +kernel
theorem dX5_alignedUp_5 : decode cX5_alignedUp 5 = .ok (.lstore_n 3, 1) := by decide +kernel
theorem dX5_alignedUp_6 : decode cX5_alignedUp 6 = .ok (.lload_n 0, 1) := by decide +kernel
theorem dX5_alignedUp_7 : decode cX5_alignedUp 7 = .ok (.lload_n 3, 1) := by decide +kernel
theorem dX5_alignedUp_8 : decode cX5_alignedUp 8 = .ok (.ladd, 1) := by decide +kernel
theorem dX5_alignedUp_9 : decode cX5_alignedUp 9 = .ok (.lload_n 3, 1) := by decide +kernel
theorem dX5_alignedUp_10 : decode cX5_alignedUp 10 = .ok (.ldc2_w 91, 3) := by decide +kernel
theorem dX5_alignedUp_13 : decode cX5_alignedUp 13 = .ok (.lxor, 1) := by decide +kernel
theorem dX5_alignedUp_14 : decode cX5_alignedUp 14 = .ok (.land, 1) := by decide +kernel
theorem dX5_alignedUp_15 : decode cX5_alignedUp 15 = .ok (.lreturn, 1) := by decide +kernel
theorem dX6_init_0 : decode cX6_init 0 = .ok (.aload_n 0, 1) := by decide +kernel
theorem dX6_init_1 : decode cX6_init 1 = .ok (.invokespecial 3, 3) := by decide +kernel
theorem dX6_init_4 : decode cX6_init 4 = .ok (.aload_n 0, 1) := by decide +kernel
theorem dX6_init_5 : decode cX6_init 5 = .ok (.iload_n 1, 1) := by decide +kernel
theorem dX6_init_6 : decode cX6_init 6 = .ok (.putfield 9, 3) := by decide +kernel
theorem dX6_init_9 : decode cX6_init 9 = .ok (.aload_n 0, 1) := by decide +kernel
theorem dX6_init_10 : decode cX6_init 10 = .ok (.iload_n 2, 1) := by decide +kernel
theorem dX6_init_11 : decode cX6_init 11 = .ok (.putfield 15, 3) := by decide +kernel
theorem dX6_init_14 : decode cX6_init 14 = .ok (.aload_n 0, 1) := by decide +kernel
theorem dX6_init_15 : decode cX6_init 15 = .ok (.aload_n 3, 1) := by decide +kernel
theorem dX6_init_16 : decode cX6_init 16 = .ok (.putfield 18, 3) := by decide +kernel
theorem dX6_init_19 : decode cX6_init 19 = .ok (.aload_n 0, 1) := by decide +kernel
theorem dX6_init_20 : decode cX6_init 20 = .ok (.iload 4, 2) := by decide +kernel
theorem dX6_init_22 : decode cX6_init 22 = .ok (.putfield 22, 3) := by decide +kernel
theorem dX6_init_25 : decode cX6_init 25 = .ok (.aload_n 0, 1) := by decide +kernel
theorem dX6_init_26 : decode cX6_init 26 = .ok (.iload 5, 2) := by decide +kernel
theorem dX6_init_28 : decode cX6_init 28 = .ok (.putfield 25, 3) := by decide +kernel
theorem dX6_init_31 : decode cX6_init 31 = .ok (.iload 6, 2) := by decide +kernel
theorem dX6_init_33 : decode cX6_init 33 = .ok (.bipush (-10), 2) := by decide +kernel
theorem dX6_init_35 : decode cX6_init 35 = .ok (.if_icmp .gt 7, 3) := by decide +kernel
theorem dX6_init_38 : decode cX6_init 38 = .ok (.iconst 1, 1) := by decide +kernel
theorem dX6_init_39 : decode cX6_init 39 = .ok (.goto 4, 3) := by decide +kernel
theorem dX6_init_42 : decode cX6_init 42 = .ok (.iconst 0, 1) := by decide +kernel
theorem dX6_init_43 : decode cX6_init 43 = .ok (.istore 7, 2) := by decide +kernel
theorem dX6_init_45 : decode cX6_init 45 = .ok (.iload 7, 2) := by decide +kernel
theorem dX6_init_47 : decode cX6_init 47 = .ok (.ifCond .ne 14, 3) := by decide +kernel
theorem dX6_init_50 : decode cX6_init 50 = .ok (.iload 6, 2) := by decide +kernel
theorem dX6_init_52 : decode cX6_init 52 = .ok (.bipush (-2), 2) := by decide +kernel
theorem dX6_init_54 : decode cX6_init 54 = .ok (.if_icmp .gt 7, 3) := by decide +kernel
theorem dX6_init_57 : decode cX6_init 57 = .ok (.iconst 1, 1) := by decide +kernel
theorem dX6_init_58 : decode cX6_init 58 = .ok (.goto 4, 3) := by decide +kernel
theorem dX6_init_61 : decode cX6_init 61 = .ok (.iconst 0, 1) := by decide +kernel
theorem dX6_init_62 : decode cX6_init 62 = .ok (.istore 8, 2) := by decide +kernel
theorem dX6_init_64 : decode cX6_init 64 = .ok (.aload_n 0, 1) := by decide +kernel
theorem dX6_init_65 : decode cX6_init 65 = .ok (.iload 8, 2) := by decide +kernel
theorem dX6_init_67 : decode cX6_init 67 = .ok (.ifCond .eq 11, 3) := by decide +kernel
theorem dX6_init_70 : decode cX6_init 70 = .ok (.bipush (-2), 2) := by decide +kernel
theorem dX6_init_72 : decode cX6_init 72 = .ok (.iload 6, 2) := by decide +kernel
theorem dX6_init_74 : decode cX6_init 74 = .ok (.isub, 1) := by decide +kernel
theorem dX6_init_75 : decode cX6_init 75 = .ok (.goto 4, 3) := by decide +kernel
theorem dX6_init_78 : decode cX6_init 78 = .ok (.iconst (-1), 1) := by decide +kernel
theorem dX6_init_79 : decode cX6_init 79 = .ok (.putfield 28, 3) := by decide +kernel
theorem dX6_init_82 : decode cX6_init 82 = .ok (.aload_n 0, 1) := by decide +kernel
theorem dX6_init_83 : decode cX6_init 83 = .ok (.iload 7, 2) := by decide +kernel
theorem dX6_init_85 : decode cX6_init 85 = .ok (.ifCond .eq 11, 3) := by decide +kernel
theorem dX6_init_88 : decode cX6_init 88 = .ok (.bipush (-10), 2) := by decide +kernel
theorem dX6_init_90 : decode cX6_init 90 = .ok (.iload 6, 2) := by decide +kernel
theorem dX6_init_92 : decode cX6_init 92 = .ok (.isub, 1) := by decide +kernel
theorem dX6_init_93 : decode cX6_init 93 = .ok (.goto 4, 3) := by decide +kernel
theorem dX6_init_96 : decode cX6_init 96 = .ok (.iconst (-1), 1) := by decide +kernel
theorem dX6_init_97 : decode cX6_init 97 = .ok (.putfield 31, 3) := by decide +kernel
theorem dX6_init_100 : decode cX6_init 100 = .ok (.return_, 1) := by decide +kernel
theorem dX6_isDefinition_0 : decode cX6_isDefinition 0 = .ok (.aload_n 0, 1) := by decide +kernel
theorem dX6_isDefinition_1 : decode cX6_isDefinition 1 = .ok (.getfield 25, 3) := by decide +kernel
theorem dX6_isDefinition_4 : decode cX6_isDefinition 4 = .ok (.ifCond .eq 24, 3) := by decide +kernel
theorem dX6_isDefinition_7 : decode cX6_isDefinition 7 = .ok (.aload_n 0, 1) := by decide +kernel
theorem dX6_isDefinition_8 : decode cX6_isDefinition 8 = .ok (.getfield 18, 3) := by decide +kernel
theorem dX6_isDefinition_11 : decode cX6_isDefinition 11 = .ok (.ifnull 17, 3) := by decide +kernel
theorem dX6_isDefinition_14 : decode cX6_isDefinition 14 = .ok (.aload_n 0, 1) := by decide +kernel
theorem dX6_isDefinition_15 : decode cX6_isDefinition 15 = .ok (.getfield 18, 3) := by decide +kernel
theorem dX6_isDefinition_18 : decode cX6_isDefinition 18 = .ok (.getfield 34, 3) := by decide +kernel
theorem dX6_isDefinition_21 : decode cX6_isDefinition 21 = .ok (.ifCond .ne 7, 3) := by decide +kernel
theorem dX6_isDefinition_24 : decode cX6_isDefinition 24 = .ok (.iconst 1, 1) := by decide +kernel
theorem dX6_isDefinition_25 : decode cX6_isDefinition 25 = .ok (.goto 4, 3) := by decide +kernel
theorem dX6_isDefinition_28 : decode cX6_isDefinition 28 = .ok (.iconst 0, 1) := by decide +kernel
theorem dX6_isDefinition_29 : decode cX6_isDefinition 29 = .ok (.ireturn, 1) := by decide +kernel
theorem dX6_targetSet_0 : decode cX6_targetSet 0 = .ok (.aload_n 0, 1) := by decide +kernel
theorem dX6_targetSet_1 : decode cX6_targetSet 1 = .ok (.getfield 28, 3) := by decide +kernel
theorem dX6_targetSet_4 : decode cX6_targetSet 4 = .ok (.iconst (-1), 1) := by decide +kernel
theorem dX6_targetSet_5 : decode cX6_targetSet 5 = .ok (.if_icmp .eq 10, 3) := by decide +kernel
theorem dX6_targetSet_8 : decode cX6_targetSet 8 = .ok (.aload_n 0, 1) := by decide +kernel
theorem dX6_targetSet_9 : decode cX6_targetSet 9 = .ok (.getfield 28, 3) := by decide +kernel
theorem dX6_targetSet_12 : decode cX6_targetSet 12 = .ok (.goto 7, 3) := by decide +kernel
theorem dX6_targetSet_15 : decode cX6_targetSet 15 = .ok (.aload_n 0, 1) := by decide +kernel
theorem dX6_targetSet_16 : decode cX6_targetSet 16 = .ok (.getfield 31, 3) := by decide +kernel
theorem dX6_targetSet_19 : decode cX6_targetSet 19 = .ok (.ireturn, 1) := by decide +kernel
theorem dX6_isNowhere_0 : decode cX6_isNowhere 0 = .ok (.aload_n 0, 1) := by decide +kernel
theorem dX6_isNowhere_1 : decode cX6_isNowhere 1 = .ok (.getfield 40, 3) := by decide +kernel
theorem dX6_isNowhere_4 : decode cX6_isNowhere 4 = .ok (.ifnonnull 15, 3) := by decide +kernel
theorem dX6_isNowhere_7 : decode cX6_isNowhere 7 = .ok (.aload_n 0, 1) := by decide +kernel
theorem dX6_isNowhere_8 : decode cX6_isNowhere 8 = .ok (.invokevirtual 43, 3) := by decide +kernel
theorem dX6_isNowhere_11 : decode cX6_isNowhere 11 = .ok (.iconst (-1), 1) := by decide +kernel
theorem dX6_isNowhere_12 : decode cX6_isNowhere 12 = .ok (.if_icmp .ne 7, 3) := by decide +kernel
theorem dX6_isNowhere_15 : decode cX6_isNowhere 15 = .ok (.iconst 1, 1) := by decide +kernel
theorem dX6_isNowhere_16 : decode cX6_isNowhere 16 = .ok (.goto 4, 3) := by decide +kernel
theorem dX6_isNowhere_19 : decode cX6_isNowhere 19 = .ok (.iconst 0, 1) := by decide +kernel
theorem dX6_isNowhere_20 : decode cX6_isNowhere 20 = .ok (.ireturn, 1) := by decide +kernel
theorem dX6_aimAt_0 : decode cX6_aimAt 0 = .ok (.aload_n 0, 1) := by decide +kernel
theorem dX6_aimAt_1 : decode cX6_aimAt 1 = .ok (.aload_n 1, 1) := by decide +kernel
theorem dX6_aimAt_2 : decode cX6_aimAt 2 = .ok (.ifnonnull 7, 3) := by decide +kernel
theorem dX6_aimAt_5 : decode cX6_aimAt 5 = .ok (.aconst_null, 1) := by decide +kernel
theorem dX6_aimAt_6 : decode cX6_aimAt 6 = .ok (.goto 7, 3) := by decide +kernel
theorem dX6_aimAt_9 : decode cX6_aimAt 9 = .ok (.aload_n 1, 1) := by decide +kernel
theorem dX6_aimAt_10 : decode cX6_aimAt 10 = .ok (.getfield 18, 3) := by decide +kernel
theorem dX6_aimAt_13 : decode cX6_aimAt 13 = .ok (.putfield 40, 3) := by decide +kernel
theorem dX6_aimAt_16 : decode cX6_aimAt 16 = .ok (.aload_n 0, 1) := by decide +kernel
theorem dX6_aimAt_17 : decode cX6_aimAt 17 = .ok (.aload_n 1, 1) := by decide +kernel
theorem dX6_aimAt_18 : decode cX6_aimAt 18 = .ok (.ifnonnull 7, 3) := by decide +kernel
theorem dX6_aimAt_21 : decode cX6_aimAt 21 = .ok (.iconst 0, 1) := by decide +kernel
theorem dX6_aimAt_22 : decode cX6_aimAt 22 = .ok (.goto 7, 3) := by decide +kernel
theorem dX6_aimAt_25 : decode cX6_aimAt 25 = .ok (.aload_n 1, 1) := by decide +kernel
theorem dX6_aimAt_26 : decode cX6_aimAt 26 = .ok (.getfield 22, 3) := by decide +kernel
theorem dX6_aimAt_29 : decode cX6_aimAt 29 = .ok (.putfield 47, 3) := by decide +kernel
theorem dX6_aimAt_32 : decode cX6_aimAt 32 = .ok (.return_, 1) := by decide +kernel
theorem dX6_hasSetAndOffsetOf_0 : decode cX6_hasSetAndOffsetOf 0 = .ok (.aload_n 0, 1) := by decide +kernel
theorem dX6_hasSetAndOffsetOf_1 : decode cX6_hasSetAndOffsetOf 1 = .ok (.getfield 28, 3) := by decide +kernel
theorem dX6_hasSetAndOffsetOf_4 : decode cX6_hasSetAndOffsetOf 4 = .ok (.aload_n 1, 1) := by decide +kernel
theorem dX6_hasSetAndOffsetOf_5 : decode cX6_hasSetAndOffsetOf 5 = .ok (.getfield 28, 3) := by decide +kernel
theorem dX6_hasSetAndOffsetOf_8 : decode cX6_hasSetAndOffsetOf 8 = .ok (.if_icmp .ne 29, 3) := by decide +kernel
theorem dX6_hasSetAndOffsetOf_11 : decode cX6_hasSetAndOffsetOf 11 = .ok (.aload_n 0, 1) := by decide +kernel
theorem dX6_hasSetAndOffsetOf_12 : decode cX6_hasSetAndOffsetOf 12 = .ok (.getfield 31, 3) := by decide +kernel
theorem dX6_hasSetAndOffsetOf_15 : decode cX6_hasSetAndOffsetOf 15 = .ok (.aload_n 1, 1) := by decide +kernel
theorem dX6_hasSetAndOffsetOf_16 : decode cX6_hasSetAndOffsetOf 16 = .ok (.getfield 31, 3) := by decide +kernel
theorem dX6_hasSetAndOffsetOf_19 : decode cX6_hasSetAndOffsetOf 19 = .ok (.if_icmp .ne 18, 3) := by decide +kernel
theorem dX6_hasSetAndOffsetOf_22 : decode cX6_hasSetAndOffsetOf 22 = .ok (.aload_n 0, 1) := by decide +kernel
theorem dX6_hasSetAndOffsetOf_23 : decode cX6_hasSetAndOffsetOf 23 = .ok (.getfield 47, 3) := by decide +kernel
theorem dX6_hasSetAndOffsetOf_26 : decode cX6_hasSetAndOffsetOf 26 = .ok (.aload_n 1, 1) := by decide +kernel
theorem dX6_hasSetAndOffsetOf_27 : decode cX6_hasSetAndOffsetOf 27 = .ok (.getfield 47, 3) := by decide +kernel
theorem dX6_hasSetAndOffsetOf_30 : decode cX6_hasSetAndOffsetOf 30 = .ok (.if_icmp .ne 7, 3) := by decide +kernel
theorem dX6_hasSetAndOffsetOf_33 : decode cX6_hasSetAndOffsetOf 33 = .ok (.iconst 1, 1) := by decide +kernel
theorem dX6_hasSetAndOffsetOf_34 : decode cX6_hasSetAndOffsetOf 34 = .ok (.goto 4, 3) := by decide +kernel
theorem dX6_hasSetAndOffsetOf_37 : decode cX6_hasSetAndOffsetOf 37 = .ok (.iconst 0, 1) := by decide +kernel
theorem dX6_hasSetAndOffsetOf_38 : decode cX6_hasSetAndOffsetOf 38 = .ok (.ireturn, 1) := by decide +kernel
theorem dX6_hasTargetOf_0 : decode cX6_hasTargetOf 0 = .ok (.aload_n 0, 1) := by decide +kernel
theorem dX6_hasTargetOf_1 : decode cX6_hasTargetOf 1 = .ok (.getfield 40, 3) := by decide +kernel
theorem dX6_hasTargetOf_4 : decode cX6_hasTargetOf 4 = .ok (.aload_n 1, 1) := by decide +kernel
theorem dX6_hasTargetOf_5 : decode cX6_hasTargetOf 5 = .ok (.getfield 40, 3) := by decide +kernel
theorem dX6_hasTargetOf_8 : decode cX6_hasTargetOf 8 = .ok (.if_acmp .ne 15, 3) := by decide +kernel
theorem dX6_hasTargetOf_11 : decode cX6_hasTargetOf 11 = .ok (.aload_n 0, 1) := by decide +kernel
theorem dX6_hasTargetOf_12 : decode cX6_hasTargetOf 12 = .ok (.aload_n 1, 1) := by decide +kernel
theorem dX6_hasTargetOf_13 : decode cX6_hasTargetOf 13 = .ok (.invokevirtual 50, 3) := by decide +kernel
theorem dX6_hasTargetOf_16 : decode cX6_hasTargetOf 16 = .ok (.ifCond .eq 7, 3) := by decide +kernel
theorem dX6_hasTargetOf_19 : decode cX6_hasTargetOf 19 = .ok (.iconst 1, 1) := by decide +kernel
theorem dX6_hasTargetOf_20 : decode cX6_hasTargetOf 20 = .ok (.goto 4, 3) := by decide +kernel
theorem dX6_hasTargetOf_23 : decode cX6_hasTargetOf 23 = .ok (.iconst 0, 1) := by decide +kernel
theorem dX6_hasTargetOf_24 : decode cX6_hasTargetOf 24 = .ok (.ireturn, 1) := by decide +kernel
theorem dX7_init_0 : decode cX7_init 0 = .ok (.aload_n 0, 1) := by decide +kernel
theorem dX7_init_1 : decode cX7_init 1 = .ok (.invokespecial 3, 3) := by decide +kernel
theorem dX7_init_4 : decode cX7_init 4 = .ok (.aload_n 0, 1) := by decide +kernel
theorem dX7_init_5 : decode cX7_init 5 = .ok (.new 9, 3) := by decide +kernel
theorem dX7_init_8 : decode cX7_init 8 = .ok (.dup, 1) := by decide +kernel
theorem dX7_init_9 : decode cX7_init 9 = .ok (.invokespecial 11, 3) := by decide +kernel
theorem dX7_init_12 : decode cX7_init 12 = .ok (.putfield 12, 3) := by decide +kernel
theorem dX7_init_15 : decode cX7_init 15 = .ok (.aload_n 0, 1) := by decide +kernel
theorem dX7_init_16 : decode cX7_init 16 = .ok (.new 9, 3) := by decide +kernel
theorem dX7_init_19 : decode cX7_init 19 = .ok (.dup, 1) := by decide +kernel
theorem dX7_init_20 : decode cX7_init 20 = .ok (.invokespecial 11, 3) := by decide +kernel
theorem dX7_init_23 : decode cX7_init 23 = .ok (.putfield 18, 3) := by decide +kernel
theorem dX7_init_26 : decode cX7_init 26 = .ok (.aload_n 0, 1) := by decide +kernel
theorem dX7_init_27 : decode cX7_init 27 = .ok (.new 9, 3) := by decide +kernel
theorem dX7_init_30 : decode cX7_init 30 = .ok (.dup, 1) := by decide +kernel
theorem dX7_init_31 : decode cX7_init 31 = .ok (.invokespecial 11, 3) := by decide +kernel
theorem dX7_init_34 : decode cX7_init 34 = .ok (.putfield 21, 3) := by decide +kernel
theorem dX7_init_37 : decode cX7_init 37 = .ok (.aload_n 0, 1) := by decide +kernel
theorem dX7_init_38 : decode cX7_init 38 = .ok (.bipush 8, 2) := by decide +kernel
theorem dX7_init_40 : decode cX7_init 40 = .ok (.newarray .int, 2) := by decide +kernel
theorem dX7_init_42 : decode cX7_init 42 = .ok (.putfield 24, 3) := by decide +kernel
theorem dX7_init_45 : decode cX7_init 45 = .ok (.aload_n 0, 1) := by decide +kernel
theorem dX7_init_46 : decode cX7_init 46 = .ok (.iconst 4, 1) := by decide +kernel
theorem dX7_init_47 : decode cX7_init 47 = .ok (.newarray .int, 2) := by decide +kernel
theorem dX7_init_49 : decode cX7_init 49 = .ok (.dup, 1) := by decide +kernel
theorem dX7_init_50 : decode cX7_init 50 = .ok (.iconst 0, 1) := by decide +kernel
theorem dX7_init_51 : decode cX7_init 51 = .ok (.iconst (-1), 1) := by decide +kernel
theorem dX7_init_52 : decode cX7_init 52 = .ok (.iastore, 1) := by decide +kernel
theorem dX7_init_53 : decode cX7_init 53 = .ok (.dup, 1) := by decide +kernel
theorem dX7_init_54 : decode cX7_init 54 = .ok (.iconst 1, 1) := by decide +kernel
theorem dX7_init_55 : decode cX7_init 55 = .ok (.iconst (-1), 1) := by decide +kernel
theorem dX7_init_56 : decode cX7_init 56 = .ok (.iastore, 1) := by decide +kernel
theorem dX7_init_57 : decode cX7_init 57 = .ok (.dup, 1) := by decide +kernel
theorem dX7_init_58 : decode cX7_init 58 = .ok (.iconst 2, 1) := by decide +kernel
theorem dX7_init_59 : decode cX7_init 59 = .ok (.iconst (-1), 1) := by decide +kernel
theorem dX7_init_60 : decode cX7_init 60 = .ok (.iastore, 1) := by decide +kernel
theorem dX7_init_61 : decode cX7_init 61 = .ok (.dup, 1) := by decide +kernel
theorem dX7_init_62 : decode cX7_init 62 = .ok (.iconst 3, 1) := by decide +kernel
theorem dX7_init_63 : decode cX7_init 63 = .ok (.iconst (-1), 1) := by decide +kernel
theorem dX7_init_64 : decode cX7_init 64 = .ok (.iastore, 1) := by decide +kernel
theorem dX7_init_65 : decode cX7_init 65 = .ok (.putfield 28, 3) := by decide +kernel
theorem dX7_init_68 : decode cX7_init 68 = .ok (.return_, 1) := by decide +kernel
theorem dX7_hasObject_0 : decode cX7_hasObject 0 = .ok (.iload_n 1, 1) := by decide +kernel
theorem dX7_hasObject_1 : decode cX7_hasObject 1 = .ok (.ifCond .lt 15, 3) := by decide +kernel
theorem dX7_hasObject_4 : decode cX7_hasObject 4 = .ok (.iload_n 1, 1) := by decide +kernel
theorem dX7_hasObject_5 : decode cX7_hasObject 5 = .ok (.aload_n 0, 1) := by decide +kernel
theorem dX7_hasObject_6 : decode cX7_hasObject 6 = .ok (.getfield 31, 3) := by decide +kernel
theorem dX7_hasObject_9 : decode cX7_hasObject 9 = .ok (.if_icmp .ge 7, 3) := by decide +kernel
theorem dX7_hasObject_12 : decode cX7_hasObject 12 = .ok (.iconst 1, 1) := by decide +kernel
theorem dX7_hasObject_13 : decode cX7_hasObject 13 = .ok (.goto 4, 3) := by decide +kernel
theorem dX7_hasObject_16 : decode cX7_hasObject 16 = .ok (.iconst 0, 1) := by decide +kernel
theorem dX7_hasObject_17 : decode cX7_hasObject 17 = .ok (.ireturn, 1) := by decide +kernel
theorem dX7_sectionAt_0 : decode cX7_sectionAt 0 = .ok (.iload_n 1, 1) := by decide +kernel
theorem dX7_sectionAt_1 : decode cX7_sectionAt 1 = .ok (.ifCond .lt 28, 3) := by decide +kernel
theorem dX7_sectionAt_4 : decode cX7_sectionAt 4 = .ok (.iload_n 1, 1) := by decide +kernel
theorem dX7_sectionAt_5 : decode cX7_sectionAt 5 = .ok (.aload_n 0, 1) := by decide +kernel
theorem dX7_sectionAt_6 : decode cX7_sectionAt 6 = .ok (.getfield 12, 3) := by decide +kernel
theorem dX7_sectionAt_9 : decode cX7_sectionAt 9 = .ok (.invokevirtual 35, 3) := by decide +kernel
theorem dX7_sectionAt_12 : decode cX7_sectionAt 12 = .ok (.if_icmp .ge 17, 3) := by decide +kernel
theorem dX7_sectionAt_15 : decode cX7_sectionAt 15 = .ok (.aload_n 0, 1) := by decide +kernel
theorem dX7_sectionAt_16 : decode cX7_sectionAt 16 = .ok (.getfield 12, 3) := by decide +kernel
theorem dX7_sectionAt_19 : decode cX7_sectionAt 19 = .ok (.iload_n 1, 1) := by decide +kernel
theorem dX7_sectionAt_20 : decode cX7_sectionAt 20 = .ok (.invokevirtual 39, 3) := by decide +kernel
theorem dX7_sectionAt_23 : decode cX7_sectionAt 23 = .ok (.checkcast 43, 3) := by decide +kernel
theorem dX7_sectionAt_26 : decode cX7_sectionAt 26 = .ok (.goto 4, 3) := by decide +kernel
theorem dX7_sectionAt_29 : decode cX7_sectionAt 29 = .ok (.aconst_null, 1) := by decide +kernel
theorem dX7_sectionAt_30 : decode cX7_sectionAt 30 = .ok (.areturn, 1) := by decide +kernel
theorem dX7_symbolAt_0 : decode cX7_symbolAt 0 = .ok (.iload_n 1, 1) := by decide +kernel
theorem dX7_symbolAt_1 : decode cX7_symbolAt 1 = .ok (.ifCond .lt 28, 3) := by decide +kernel
theorem dX7_symbolAt_4 : decode cX7_symbolAt 4 = .ok (.iload_n 1, 1) := by decide +kernel
theorem dX7_symbolAt_5 : decode cX7_symbolAt 5 = .ok (.aload_n 0, 1) := by decide +kernel
theorem dX7_symbolAt_6 : decode cX7_symbolAt 6 = .ok (.getfield 18, 3) := by decide +kernel
theorem dX7_symbolAt_9 : decode cX7_symbolAt 9 = .ok (.invokevirtual 35, 3) := by decide +kernel
theorem dX7_symbolAt_12 : decode cX7_symbolAt 12 = .ok (.if_icmp .ge 17, 3) := by decide +kernel
theorem dX7_symbolAt_15 : decode cX7_symbolAt 15 = .ok (.aload_n 0, 1) := by decide +kernel
theorem dX7_symbolAt_16 : decode cX7_symbolAt 16 = .ok (.getfield 18, 3) := by decide +kernel
theorem dX7_symbolAt_19 : decode cX7_symbolAt 19 = .ok (.iload_n 1, 1) := by decide +kernel
theorem dX7_symbolAt_20 : decode cX7_symbolAt 20 = .ok (.invokevirtual 39, 3) := by decide +kernel
theorem dX7_symbolAt_23 : decode cX7_symbolAt 23 = .ok (.checkcast 45, 3) := by decide +kernel
theorem dX7_symbolAt_26 : decode cX7_symbolAt 26 = .ok (.goto 4, 3) := by decide +kernel
theorem dX7_symbolAt_29 : decode cX7_symbolAt 29 = .ok (.aconst_null, 1) := by decide +kernel
theorem dX7_symbolAt_30 : decode cX7_symbolAt 30 = .ok (.areturn, 1) := by decide +kernel
theorem dX7_addRoot_0 : decode cX7_addRoot 0 = .ok (.aload_n 0, 1) := by decide +kernel
theorem dX7_addRoot_1 : decode cX7_addRoot 1 = .ok (.getfield 47, 3) := by decide +kernel
theorem dX7_addRoot_4 : decode cX7_addRoot 4 = .ok (.ifCond .lt 15, 3) := by decide +kernel
theorem dX7_addRoot_7 : decode cX7_addRoot 7 = .ok (.aload_n 0, 1) := by decide +kernel
theorem dX7_addRoot_8 : decode cX7_addRoot 8 = .ok (.getfield 47, 3) := by decide +kernel
theorem dX7_addRoot_11 : decode cX7_addRoot 11 = .ok (.aload_n 0, 1) := by decide +kernel
theorem dX7_addRoot_12 : decode cX7_addRoot 12 = .ok (.getfield 24, 3) := by decide +kernel
theorem dX7_addRoot_15 : decode cX7_addRoot 15 = .ok (.arraylength, 1) := by decide +kernel
theorem dX7_addRoot_16 : decode cX7_addRoot 16 = .ok (.if_icmp .lt 5, 3) := by decide +kernel
theorem dX7_addRoot_19 : decode cX7_addRoot 19 = .ok (.iconst 0, 1) := by decide +kernel
theorem dX7_addRoot_20 : decode cX7_addRoot 20 = .ok (.ireturn, 1) := by decide +kernel
theorem dX7_addRoot_21 : decode cX7_addRoot 21 = .ok (.aload_n 0, 1) := by decide +kernel
theorem dX7_addRoot_22 : decode cX7_addRoot 22 = .ok (.getfield 24, 3) := by decide +kernel
theorem dX7_addRoot_25 : decode cX7_addRoot 25 = .ok (.aload_n 0, 1) := by decide +kernel
theorem dX7_addRoot_26 : decode cX7_addRoot 26 = .ok (.getfield 47, 3) := by decide +kernel
theorem dX7_addRoot_29 : decode cX7_addRoot 29 = .ok (.iload_n 1, 1) := by decide +kernel
theorem dX7_addRoot_30 : decode cX7_addRoot 30 = .ok (.iastore, 1) := by decide +kernel
theorem dX7_addRoot_31 : decode cX7_addRoot 31 = .ok (.aload_n 0, 1) := by decide +kernel
theorem dX7_addRoot_32 : decode cX7_addRoot 32 = .ok (.dup, 1) := by decide +kernel
theorem dX7_addRoot_33 : decode cX7_addRoot 33 = .ok (.getfield 47, 3) := by decide +kernel
theorem dX7_addRoot_36 : decode cX7_addRoot 36 = .ok (.iconst 1, 1) := by decide +kernel
theorem dX7_addRoot_37 : decode cX7_addRoot 37 = .ok (.iadd, 1) := by decide +kernel
theorem dX7_addRoot_38 : decode cX7_addRoot 38 = .ok (.putfield 47, 3) := by decide +kernel
theorem dX7_addRoot_41 : decode cX7_addRoot 41 = .ok (.iconst 1, 1) := by decide +kernel
theorem dX7_addRoot_42 : decode cX7_addRoot 42 = .ok (.ireturn, 1) := by decide +kernel
theorem dX8_fits_0 : decode cX8_fits 0 = .ok (.lload_n 1, 1) := by decide +kernel
theorem dX8_fits_1 : decode cX8_fits 1 = .ok (.aload_n 0, 1) := by decide +kernel
theorem dX8_fits_2 : decode cX8_fits 2 = .ok (.getfield 46, 3) := by decide +kernel
theorem dX8_fits_5 : decode cX8_fits 5 = .ok (.lcmp, 1) := by decide +kernel
theorem dX8_fits_6 : decode cX8_fits 6 = .ok (.ifCond .lt 16, 3) := by decide +kernel
theorem dX8_fits_9 : decode cX8_fits 9 = .ok (.lload_n 1, 1) := by decide +kernel
theorem dX8_fits_10 : decode cX8_fits 10 = .ok (.aload_n 0, 1) := by decide +kernel
theorem dX8_fits_11 : decode cX8_fits 11 = .ok (.getfield 50, 3) := by decide +kernel
theorem dX8_fits_14 : decode cX8_fits 14 = .ok (.lcmp, 1) := by decide +kernel
theorem dX8_fits_15 : decode cX8_fits 15 = .ok (.ifCond .gt 7, 3) := by decide +kernel
theorem dX8_fits_18 : decode cX8_fits 18 = .ok (.iconst 1, 1) := by decide +kernel
theorem dX8_fits_19 : decode cX8_fits 19 = .ok (.goto 4, 3) := by decide +kernel
theorem dX8_fits_22 : decode cX8_fits 22 = .ok (.iconst 0, 1) := by decide +kernel
theorem dX8_fits_23 : decode cX8_fits 23 = .ok (.ireturn, 1) := by decide +kernel
theorem dX9_init_0 : decode cX9_init 0 = .ok (.aload_n 0, 1) := by decide +kernel
theorem dX9_init_1 : decode cX9_init 1 = .ok (.invokespecial 1, 3) := by decide +kernel
theorem dX9_init_4 : decode cX9_init 4 = .ok (.aload_n 0, 1) := by decide +kernel
theorem dX9_init_5 : decode cX9_init 5 = .ok (.new 7, 3) := by decide +kernel
theorem dX9_init_8 : decode cX9_init 8 = .ok (.dup, 1) := by decide +kernel
theorem dX9_init_9 : decode cX9_init 9 = .ok (.invokespecial 9, 3) := by decide +kernel
theorem dX9_init_12 : decode cX9_init 12 = .ok (.putfield 10, 3) := by decide +kernel
theorem dX9_init_15 : decode cX9_init 15 = .ok (.aload_n 0, 1) := by decide +kernel
theorem dX9_init_16 : decode cX9_init 16 = .ok (.new 16, 3) := by decide +kernel
theorem dX9_init_19 : decode cX9_init 19 = .ok (.dup, 1) := by decide +kernel
theorem dX9_init_20 : decode cX9_init 20 = .ok (.invokespecial 18, 3) := by decide +kernel
theorem dX9_init_23 : decode cX9_init 23 = .ok (.putfield 19, 3) := by decide +kernel
theorem dX9_init_26 : decode cX9_init 26 = .ok (.aload_n 0, 1) := by decide +kernel
theorem dX9_init_27 : decode cX9_init 27 = .ok (.new 23, 3) := by decide +kernel
theorem dX9_init_30 : decode cX9_init 30 = .ok (.dup, 1) := by decide +kernel
theorem dX9_init_31 : decode cX9_init 31 = .ok (.invokespecial 25, 3) := by decide +kernel
theorem dX9_init_34 : decode cX9_init 34 = .ok (.putfield 26, 3) := by decide +kernel
theorem dX9_init_37 : decode cX9_init 37 = .ok (.aload_n 0, 1) := by decide +kernel
theorem dX9_init_38 : decode cX9_init 38 = .ok (.new 30, 3) := by decide +kernel
theorem dX9_init_41 : decode cX9_init 41 = .ok (.dup, 1) := by decide +kernel
theorem dX9_init_42 : decode cX9_init 42 = .ok (.invokespecial 32, 3) := by decide +kernel
theorem dX9_init_45 : decode cX9_init 45 = .ok (.putfield 33, 3) := by decide +kernel
theorem dX9_init_48 : decode cX9_init 48 = .ok (.aload_n 0, 1) := by decide +kernel
theorem dX9_init_49 : decode cX9_init 49 = .ok (.new 37, 3) := by decide +kernel
theorem dX9_init_52 : decode cX9_init 52 = .ok (.dup, 1) := by decide +kernel
theorem dX9_init_53 : decode cX9_init 53 = .ok (.invokespecial 39, 3) := by decide +kernel
theorem dX9_init_56 : decode cX9_init 56 = .ok (.putfield 40, 3) := by decide +kernel
theorem dX9_init_59 : decode cX9_init 59 = .ok (.aload_n 0, 1) := by decide +kernel
theorem dX9_init_60 : decode cX9_init 60 = .ok (.iconst (-1), 1) := by decide +kernel
theorem dX9_init_61 : decode cX9_init 61 = .ok (.putfield 44, 3) := by decide +kernel
theorem dX9_init_64 : decode cX9_init 64 = .ok (.return_, 1) := by decide +kernel
theorem dX9_object_0 : decode cX9_object 0 = .ok (.aload_n 0, 1) := by decide +kernel
theorem dX9_object_1 : decode cX9_object 1 = .ok (.getfield 10, 3) := by decide +kernel
theorem dX9_object_4 : decode cX9_object 4 = .ok (.getfield 48, 3) := by decide +kernel
theorem dX9_object_7 : decode cX9_object 7 = .ok (.bipush 12, 2) := by decide +kernel
theorem dX9_object_9 : decode cX9_object 9 = .ok (.if_icmp .lt 6, 3) := by decide +kernel
theorem dX9_object_12 : decode cX9_object 12 = .ok (.bipush (-104), 2) := by decide +kernel
theorem dX9_object_14 : decode cX9_object 14 = .ok (.ireturn, 1) := by decide +kernel
theorem dX9_object_15 : decode cX9_object 15 = .ok (.aload_n 0, 1) := by decide +kernel
theorem dX9_object_16 : decode cX9_object 16 = .ok (.invokevirtual 51, 3) := by decide +kernel
theorem dX9_object_19 : decode cX9_object 19 = .ok (.aload_n 0, 1) := by decide +kernel
theorem dX9_object_20 : decode cX9_object 20 = .ok (.getfield 10, 3) := by decide +kernel
theorem dX9_object_23 : decode cX9_object 23 = .ok (.dup, 1) := by decide +kernel
theorem dX9_object_24 : decode cX9_object 24 = .ok (.getfield 48, 3) := by decide +kernel
theorem dX9_object_27 : decode cX9_object 27 = .ok (.iconst 1, 1) := by decide +kernel
theorem dX9_object_28 : decode cX9_object 28 = .ok (.iadd, 1) := by decide +kernel
theorem dX9_object_29 : decode cX9_object 29 = .ok (.putfield 48, 3) := by decide +kernel
theorem dX9_object_32 : decode cX9_object 32 = .ok (.aload_n 0, 1) := by decide +kernel
theorem dX9_object_33 : decode cX9_object 33 = .ok (.getfield 10, 3) := by decide +kernel
theorem dX9_object_36 : decode cX9_object 36 = .ok (.getfield 48, 3) := by decide +kernel
theorem dX9_object_39 : decode cX9_object 39 = .ok (.iconst 1, 1) := by decide +kernel
theorem dX9_object_40 : decode cX9_object 40 = .ok (.isub, 1) := by decide +kernel
theorem dX9_object_41 : decode cX9_object 41 = .ok (.ireturn, 1) := by decide +kernel
theorem dX9_section_0 : decode cX9_section 0 = .ok (.aload_n 0, 1) := by decide +kernel
theorem dX9_section_1 : decode cX9_section 1 = .ok (.getfield 10, 3) := by decide +kernel
theorem dX9_section_4 : decode cX9_section 4 = .ok (.iload_n 1, 1) := by decide +kernel
theorem dX9_section_5 : decode cX9_section 5 = .ok (.invokevirtual 54, 3) := by decide +kernel
theorem dX9_section_8 : decode cX9_section 8 = .ok (.ifCond .ne 6, 3) := by decide +kernel
theorem dX9_section_11 : decode cX9_section 11 = .ok (.bipush (-101), 2) := by decide +kernel
theorem dX9_section_13 : decode cX9_section 13 = .ok (.ireturn, 1) := by decide +kernel
theorem dX9_section_14 : decode cX9_section 14 = .ok (.iload_n 2, 1) := by decide +kernel
theorem dX9_section_15 : decode cX9_section 15 = .ok (.iconst 0, 1) := by decide +kernel
theorem dX9_section_16 : decode cX9_section 16 = .ok (.iconst 3, 1) := by decide +kernel
theorem dX9_section_17 : decode cX9_section 17 = .ok (.invokestatic 58, 3) := by decide +kernel
theorem dX9_section_20 : decode cX9_section 20 = .ok (.ifCond .eq 25, 3) := by decide +kernel
theorem dX9_section_23 : decode cX9_section 23 = .ok (.iload_n 3, 1) := by decide +kernel
theorem dX9_section_24 : decode cX9_section 24 = .ok (.iconst 0, 1) := by decide +kernel
theorem dX9_section_25 : decode cX9_section 25 = .ok (.sipush 20000, 3) := by decide +kernel
theorem dX9_section_28 : decode cX9_section 28 = .ok (.invokestatic 58, 3) := by decide +kernel
theorem dX9_section_31 : decode cX9_section 31 = .ok (.ifCond .eq 14, 3) := by decide +kernel
theorem dX9_section_34 : decode cX9_section 34 = .ok (.iload 4, 2) := by decide +kernel
theorem dX9_section_36 : decode cX9_section 36 = .ok (.iconst 0, 1) := by decide +kernel
theorem dX9_section_37 : decode cX9_section 37 = .ok (.bipush 8, 2) := by decide +kernel
theorem dX9_section_39 : decode cX9_section 39 = .ok (.invokestatic 58, 3) := by decide +kernel
theorem dX9_section_42 : decode cX9_section 42 = .ok (.ifCond .ne 6, 3) := by decide +kernel
theorem dX9_section_45 : decode cX9_section 45 = .ok (.bipush (-102), 2) := by decide +kernel
theorem dX9_section_47 : decode cX9_section 47 = .ok (.ireturn, 1) := by decide +kernel
theorem dX9_section_48 : decode cX9_section 48 = .ok (.aload_n 0, 1) := by decide +kernel
theorem dX9_section_49 : decode cX9_section 49 = .ok (.getfield 10, 3) := by decide +kernel
theorem dX9_section_52 : decode cX9_section 52 = .ok (.getfield 62, 3) := by decide +kernel
theorem dX9_section_55 : decode cX9_section 55 = .ok (.invokevirtual 66, 3) := by decide +kernel
theorem dX9_section_58 : decode cX9_section 58 = .ok (.bipush 60, 2) := by decide +kernel
theorem dX9_section_60 : decode cX9_section 60 = .ok (.if_icmp .ge 17, 3) := by decide +kernel
theorem dX9_section_63 : decode cX9_section 63 = .ok (.aload_n 0, 1) := by decide +kernel
theorem dX9_section_64 : decode cX9_section 64 = .ok (.getfield 10, 3) := by decide +kernel
theorem dX9_section_67 : decode cX9_section 67 = .ok (.getfield 72, 3) := by decide +kernel
theorem dX9_section_70 : decode cX9_section 70 = .ok (.iload_n 3, 1) := by decide +kernel
theorem dX9_section_71 : decode cX9_section 71 = .ok (.iadd, 1) := by decide +kernel
theorem dX9_section_72 : decode cX9_section 72 = .ok (.ldc 75, 2) := by decide +kernel
theorem dX9_section_74 : decode cX9_section 74 = .ok (.if_icmp .le 6, 3) := by decide +kernel
theorem dX9_section_77 : decode cX9_section 77 = .ok (.bipush (-104), 2) := by decide +kernel
theorem dX9_section_79 : decode cX9_section 79 = .ok (.ireturn, 1) := by decide +kernel
theorem dX9_section_80 : decode cX9_section 80 = .ok (.aload_n 0, 1) := by decide +kernel
theorem dX9_section_81 : decode cX9_section 81 = .ok (.invokevirtual 51, 3) := by decide +kernel
theorem dX9_section_84 : decode cX9_section 84 = .ok (.new 76, 3) := by decide +kernel
theorem dX9_section_87 : decode cX9_section 87 = .ok (.dup, 1) := by decide +kernel
theorem dX9_section_88 : decode cX9_section 88 = .ok (.aload_n 0, 1) := by decide +kernel
theorem dX9_section_89 : decode cX9_section 89 = .ok (.getfield 10, 3) := by decide +kernel
theorem dX9_section_92 : decode cX9_section 92 = .ok (.getfield 62, 3) := by decide +kernel
theorem dX9_section_95 : decode cX9_section 95 = .ok (.invokevirtual 66, 3) := by decide +kernel
theorem dX9_section_98 : decode cX9_section 98 = .ok (.iload_n 1, 1) := by decide +kernel
theorem dX9_section_99 : decode cX9_section 99 = .ok (.iload_n 2, 1) := by decide +kernel
theorem dX9_section_100 : decode cX9_section 100 = .ok (.iload_n 3, 1) := by decide +kernel
theorem dX9_section_101 : decode cX9_section 101 = .ok (.iload 4, 2) := by decide +kernel
theorem dX9_section_103 : decode cX9_section 103 = .ok (.iload 5, 2) := by decide +kernel
theorem dX9_section_105 : decode cX9_section 105 = .ok (.invokespecial 78, 3) := by decide +kernel
theorem dX9_section_108 : decode cX9_section 108 = .ok (.astore 6, 2) := by decide +kernel
theorem dX9_section_110 : decode cX9_section 110 = .ok (.aload_n 0, 1) := by decide +kernel
theorem dX9_section_111 : decode cX9_section 111 = .ok (.getfield 10, 3) := by decide +kernel
theorem dX9_section_114 : decode cX9_section 114 = .ok (.getfield 62, 3) := by decide +kernel
theorem dX9_section_117 : decode cX9_section 117 = .ok (.aload 6, 2) := by decide +kernel
theorem dX9_section_119 : decode cX9_section 119 = .ok (.invokevirtual 81, 3) := by decide +kernel
theorem dX9_section_122 : decode cX9_section 122 = .ok (.pop, 1) := by decide +kernel
theorem dX9_section_123 : decode cX9_section 123 = .ok (.aload_n 0, 1) := by decide +kernel
theorem dX9_section_124 : decode cX9_section 124 = .ok (.getfield 10, 3) := by decide +kernel
theorem dX9_section_127 : decode cX9_section 127 = .ok (.dup, 1) := by decide +kernel
theorem dX9_section_128 : decode cX9_section 128 = .ok (.getfield 72, 3) := by decide +kernel
theorem dX9_section_131 : decode cX9_section 131 = .ok (.iload_n 3, 1) := by decide +kernel
theorem dX9_section_132 : decode cX9_section 132 = .ok (.iadd, 1) := by decide +kernel
theorem dX9_section_133 : decode cX9_section 133 = .ok (.putfield 72, 3) := by decide +kernel
theorem dX9_section_136 : decode cX9_section 136 = .ok (.aload 6, 2) := by decide +kernel
theorem dX9_section_138 : decode cX9_section 138 = .ok (.getfield 85, 3) := by decide +kernel
theorem dX9_section_141 : decode cX9_section 141 = .ok (.ireturn, 1) := by decide +kernel
theorem dX9_patch_0 : decode cX9_patch 0 = .ok (.aload_n 0, 1) := by decide +kernel
theorem dX9_patch_1 : decode cX9_patch 1 = .ok (.getfield 10, 3) := by decide +kernel
theorem dX9_patch_4 : decode cX9_patch 4 = .ok (.iload_n 1, 1) := by decide +kernel
theorem dX9_patch_5 : decode cX9_patch 5 = .ok (.invokevirtual 88, 3) := by decide +kernel
theorem dX9_patch_8 : decode cX9_patch 8 = .ok (.astore 4, 2) := by decide +kernel
theorem dX9_patch_10 : decode cX9_patch 10 = .ok (.aload 4, 2) := by decide +kernel
theorem dX9_patch_12 : decode cX9_patch 12 = .ok (.ifnull 12, 3) := by decide +kernel
theorem dX9_patch_15 : decode cX9_patch 15 = .ok (.aload 4, 2) := by decide +kernel
theorem dX9_patch_17 : decode cX9_patch 17 = .ok (.getfield 92, 3) := by decide +kernel
theorem dX9_patch_20 : decode cX9_patch 20 = .ok (.iconst 3, 1) := by decide +kernel
theorem dX9_patch_21 : decode cX9_patch 21 = .ok (.if_icmp .ne 6, 3) := by decide +kernel
theorem dX9_patch_24 : decode cX9_patch 24 = .ok (.bipush (-101), 2) := by decide +kernel
theorem dX9_patch_26 : decode cX9_patch 26 = .ok (.ireturn, 1) := by decide +kernel
theorem dX9_patch_27 : decode cX9_patch 27 = .ok (.iload_n 2, 1) := by decide +kernel
theorem dX9_patch_28 : decode cX9_patch 28 = .ok (.iconst 0, 1) := by decide +kernel
theorem dX9_patch_29 : decode cX9_patch 29 = .ok (.aload 4, 2) := by decide +kernel
theorem dX9_patch_31 : decode cX9_patch 31 = .ok (.getfield 95, 3) := by decide +kernel
theorem dX9_patch_34 : decode cX9_patch 34 = .ok (.iconst 1, 1) := by decide +kernel
theorem dX9_patch_35 : decode cX9_patch 35 = .ok (.isub, 1) := by decide +kernel
theorem dX9_patch_36 : decode cX9_patch 36 = .ok (.invokestatic 58, 3) := by decide +kernel
theorem dX9_patch_39 : decode cX9_patch 39 = .ok (.ifCond .ne 6, 3) := by decide +kernel
theorem dX9_patch_42 : decode cX9_patch 42 = .ok (.bipush (-102), 2) := by decide +kernel
theorem dX9_patch_44 : decode cX9_patch 44 = .ok (.ireturn, 1) := by decide +kernel
theorem dX9_patch_45 : decode cX9_patch 45 = .ok (.aload_n 0, 1) := by decide +kernel
theorem dX9_patch_46 : decode cX9_patch 46 = .ok (.invokevirtual 51, 3) := by decide +kernel
theorem dX9_patch_49 : decode cX9_patch 49 = .ok (.aload 4, 2) := by decide +kernel
theorem dX9_patch_51 : decode cX9_patch 51 = .ok (.iload_n 2, 1) := by decide +kernel
theorem dX9_patch_52 : decode cX9_patch 52 = .ok (.invokevirtual 97, 3) := by decide +kernel
theorem dX9_patch_55 : decode cX9_patch 55 = .ok (.istore 5, 2) := by decide +kernel
theorem dX9_patch_57 : decode cX9_patch 57 = .ok (.aload 4, 2) := by decide +kernel
theorem dX9_patch_59 : decode cX9_patch 59 = .ok (.iload_n 2, 1) := by decide +kernel
theorem dX9_patch_60 : decode cX9_patch 60 = .ok (.iload_n 3, 1) := by decide +kernel
theorem dX9_patch_61 : decode cX9_patch 61 = .ok (.invokevirtual 101, 3) := by decide +kernel
theorem dX9_patch_64 : decode cX9_patch 64 = .ok (.iload 5, 2) := by decide +kernel
theorem dX9_patch_66 : decode cX9_patch 66 = .ok (.ireturn, 1) := by decide +kernel
theorem dX9_mark_0 : decode cX9_mark 0 = .ok (.aload_n 0, 1) := by decide +kernel
theorem dX9_mark_1 : decode cX9_mark 1 = .ok (.getfield 10, 3) := by decide +kernel
theorem dX9_mark_4 : decode cX9_mark 4 = .ok (.iload_n 1, 1) := by decide +kernel
theorem dX9_mark_5 : decode cX9_mark 5 = .ok (.invokevirtual 88, 3) := by decide +kernel
theorem dX9_mark_8 : decode cX9_mark 8 = .ok (.astore 4, 2) := by decide +kernel
theorem dX9_mark_10 : decode cX9_mark 10 = .ok (.aload 4, 2) := by decide +kernel
theorem dX9_mark_12 : decode cX9_mark 12 = .ok (.ifnonnull 6, 3) := by decide +kernel
theorem dX9_mark_15 : decode cX9_mark 15 = .ok (.bipush (-101), 2) := by decide +kernel
theorem dX9_mark_17 : decode cX9_mark 17 = .ok (.ireturn, 1) := by decide +kernel
theorem dX9_mark_18 : decode cX9_mark 18 = .ok (.iload_n 2, 1) := by decide +kernel
theorem dX9_mark_19 : decode cX9_mark 19 = .ok (.iload_n 3, 1) := by decide +kernel
theorem dX9_mark_20 : decode cX9_mark 20 = .ok (.invokestatic 105, 3) := by decide +kernel
theorem dX9_mark_23 : decode cX9_mark 23 = .ok (.ifCond .ne 6, 3) := by decide +kernel
theorem dX9_mark_26 : decode cX9_mark 26 = .ok (.bipush (-102), 2) := by decide +kernel
theorem dX9_mark_28 : decode cX9_mark 28 = .ok (.ireturn, 1) := by decide +kernel
theorem dX9_mark_29 : decode cX9_mark 29 = .ok (.aload_n 0, 1) := by decide +kernel
theorem dX9_mark_30 : decode cX9_mark 30 = .ok (.invokevirtual 51, 3) := by decide +kernel
theorem dX9_mark_33 : decode cX9_mark 33 = .ok (.aload 4, 2) := by decide +kernel
theorem dX9_mark_35 : decode cX9_mark 35 = .ok (.iload_n 2, 1) := by decide +kernel
theorem dX9_mark_36 : decode cX9_mark 36 = .ok (.iload_n 3, 1) := by decide +kernel
theorem dX9_mark_37 : decode cX9_mark 37 = .ok (.invokevirtual 109, 3) := by decide +kernel
theorem dX9_mark_40 : decode cX9_mark 40 = .ok (.ireturn, 1) := by decide +kernel
theorem dX9_symbol_0 : decode cX9_symbol 0 = .ok (.aload_n 0, 1) := by decide +kernel
theorem dX9_symbol_1 : decode cX9_symbol 1 = .ok (.getfield 10, 3) := by decide +kernel
theorem dX9_symbol_4 : decode cX9_symbol 4 = .ok (.iload_n 1, 1) := by decide +kernel
theorem dX9_symbol_5 : decode cX9_symbol 5 = .ok (.invokevirtual 54, 3) := by decide +kernel
theorem dX9_symbol_8 : decode cX9_symbol 8 = .ok (.ifCond .eq 9, 3) := by decide +kernel
theorem dX9_symbol_11 : decode cX9_symbol 11 = .ok (.iload_n 3, 1) := by decide +kernel
theorem dX9_symbol_12 : decode cX9_symbol 12 = .ok (.bipush (-17), 2) := by decide +kernel
theorem dX9_symbol_14 : decode cX9_symbol 14 = .ok (.if_icmp .ge 6, 3) := by decide +kernel
theorem dX9_symbol_17 : decode cX9_symbol 17 = .ok (.bipush (-101), 2) := by decide +kernel
theorem dX9_symbol_19 : decode cX9_symbol 19 = .ok (.ireturn, 1) := by decide +kernel
theorem dX9_symbol_20 : decode cX9_symbol 20 = .ok (.aload_n 0, 1) := by decide +kernel
theorem dX9_symbol_21 : decode cX9_symbol 21 = .ok (.getfield 10, 3) := by decide +kernel
theorem dX9_symbol_24 : decode cX9_symbol 24 = .ok (.iload_n 3, 1) := by decide +kernel
theorem dX9_symbol_25 : decode cX9_symbol 25 = .ok (.invokevirtual 88, 3) := by decide +kernel
theorem dX9_symbol_28 : decode cX9_symbol 28 = .ok (.astore 6, 2) := by decide +kernel
theorem dX9_symbol_30 : decode cX9_symbol 30 = .ok (.iload_n 3, 1) := by decide +kernel
theorem dX9_symbol_31 : decode cX9_symbol 31 = .ok (.ifCond .lt 20, 3) := by decide +kernel
theorem dX9_symbol_34 : decode cX9_symbol 34 = .ok (.aload 6, 2) := by decide +kernel
theorem dX9_symbol_36 : decode cX9_symbol 36 = .ok (.ifnull 12, 3) := by decide +kernel
theorem dX9_symbol_39 : decode cX9_symbol 39 = .ok (.aload 6, 2) := by decide +kernel
theorem dX9_symbol_41 : decode cX9_symbol 41 = .ok (.getfield 113, 3) := by decide +kernel
theorem dX9_symbol_44 : decode cX9_symbol 44 = .ok (.iload_n 1, 1) := by decide +kernel
theorem dX9_symbol_45 : decode cX9_symbol 45 = .ok (.if_icmp .eq 6, 3) := by decide +kernel
theorem dX9_symbol_48 : decode cX9_symbol 48 = .ok (.bipush (-101), 2) := by decide +kernel
theorem dX9_symbol_50 : decode cX9_symbol 50 = .ok (.ireturn, 1) := by decide +kernel
theorem dX9_symbol_51 : decode cX9_symbol 51 = .ok (.aload 6, 2) := by decide +kernel
theorem dX9_symbol_53 : decode cX9_symbol 53 = .ok (.ifnonnull 7, 3) := by decide +kernel
theorem dX9_symbol_56 : decode cX9_symbol 56 = .ok (.iconst 0, 1) := by decide +kernel
theorem dX9_symbol_57 : decode cX9_symbol 57 = .ok (.goto 8, 3) := by decide +kernel
theorem dX9_symbol_60 : decode cX9_symbol 60 = .ok (.aload 6, 2) := by decide +kernel
theorem dX9_symbol_62 : decode cX9_symbol 62 = .ok (.getfield 95, 3) := by decide +kernel
theorem dX9_symbol_65 : decode cX9_symbol 65 = .ok (.istore 7, 2) := by decide +kernel
theorem dX9_symbol_67 : decode cX9_symbol 67 = .ok (.iload_n 2, 1) := by decide +kernel
theorem dX9_symbol_68 : decode cX9_symbol 68 = .ok (.iconst 0, 1) := by decide +kernel
theorem dX9_symbol_69 : decode cX9_symbol 69 = .ok (.bipush 63, 2) := by decide +kernel
theorem dX9_symbol_71 : decode cX9_symbol 71 = .ok (.invokestatic 58, 3) := by decide +kernel
theorem dX9_symbol_74 : decode cX9_symbol 74 = .ok (.ifCond .eq 23, 3) := by decide +kernel
theorem dX9_symbol_77 : decode cX9_symbol 77 = .ok (.iload 4, 2) := by decide +kernel
theorem dX9_symbol_79 : decode cX9_symbol 79 = .ok (.iconst 0, 1) := by decide +kernel
theorem dX9_symbol_80 : decode cX9_symbol 80 = .ok (.iload 7, 2) := by decide +kernel
theorem dX9_symbol_82 : decode cX9_symbol 82 = .ok (.invokestatic 58, 3) := by decide +kernel
theorem dX9_symbol_85 : decode cX9_symbol 85 = .ok (.ifCond .eq 12, 3) := by decide +kernel
theorem dX9_symbol_88 : decode cX9_symbol 88 = .ok (.iload_n 3, 1) := by decide +kernel
theorem dX9_symbol_89 : decode cX9_symbol 89 = .ok (.iload 5, 2) := by decide +kernel
theorem dX9_symbol_91 : decode cX9_symbol 91 = .ok (.invokestatic 116, 3) := by decide +kernel
theorem dX9_symbol_94 : decode cX9_symbol 94 = .ok (.ifCond .ne 6, 3) := by decide +kernel
theorem dX9_symbol_97 : decode cX9_symbol 97 = .ok (.bipush (-102), 2) := by decide +kernel
theorem dX9_symbol_99 : decode cX9_symbol 99 = .ok (.ireturn, 1) := by decide +kernel
theorem dX9_symbol_100 : decode cX9_symbol 100 = .ok (.aload_n 0, 1) := by decide +kernel
theorem dX9_symbol_101 : decode cX9_symbol 101 = .ok (.getfield 10, 3) := by decide +kernel
theorem dX9_symbol_104 : decode cX9_symbol 104 = .ok (.getfield 119, 3) := by decide +kernel
theorem dX9_symbol_107 : decode cX9_symbol 107 = .ok (.invokevirtual 66, 3) := by decide +kernel
theorem dX9_symbol_110 : decode cX9_symbol 110 = .ok (.bipush 120, 2) := by decide +kernel
theorem dX9_symbol_112 : decode cX9_symbol 112 = .ok (.if_icmp .lt 6, 3) := by decide +kernel
theorem dX9_symbol_115 : decode cX9_symbol 115 = .ok (.bipush (-104), 2) := by decide +kernel
theorem dX9_symbol_117 : decode cX9_symbol 117 = .ok (.ireturn, 1) := by decide +kernel
theorem dX9_symbol_118 : decode cX9_symbol 118 = .ok (.aload_n 0, 1) := by decide +kernel
theorem dX9_symbol_119 : decode cX9_symbol 119 = .ok (.invokevirtual 51, 3) := by decide +kernel
theorem dX9_symbol_122 : decode cX9_symbol 122 = .ok (.new 122, 3) := by decide +kernel
theorem dX9_symbol_125 : decode cX9_symbol 125 = .ok (.dup, 1) := by decide +kernel
theorem dX9_symbol_126 : decode cX9_symbol 126 = .ok (.iload_n 1, 1) := by decide +kernel
theorem dX9_symbol_127 : decode cX9_symbol 127 = .ok (.iload_n 2, 1) := by decide +kernel
theorem dX9_symbol_128 : decode cX9_symbol 128 = .ok (.aload 6, 2) := by decide +kernel
theorem dX9_symbol_130 : decode cX9_symbol 130 = .ok (.iload 4, 2) := by decide +kernel
theorem dX9_symbol_132 : decode cX9_symbol 132 = .ok (.iload 5, 2) := by decide +kernel
theorem dX9_symbol_134 : decode cX9_symbol 134 = .ok (.iload_n 3, 1) := by decide +kernel
theorem dX9_symbol_135 : decode cX9_symbol 135 = .ok (.invokespecial 124, 3) := by decide +kernel
theorem dX9_symbol_138 : decode cX9_symbol 138 = .ok (.astore 8, 2) := by decide +kernel
theorem dX9_symbol_140 : decode cX9_symbol 140 = .ok (.aload_n 0, 1) := by decide +kernel
theorem dX9_symbol_141 : decode cX9_symbol 141 = .ok (.getfield 10, 3) := by decide +kernel
theorem dX9_symbol_144 : decode cX9_symbol 144 = .ok (.getfield 119, 3) := by decide +kernel
theorem dX9_symbol_147 : decode cX9_symbol 147 = .ok (.aload 8, 2) := by decide +kernel
theorem dX9_symbol_149 : decode cX9_symbol 149 = .ok (.invokevirtual 81, 3) := by decide +kernel
theorem dX9_symbol_152 : decode cX9_symbol 152 = .ok (.pop, 1) := by decide +kernel
theorem dX9_symbol_153 : decode cX9_symbol 153 = .ok (.aload_n 0, 1) := by decide +kernel
theorem dX9_symbol_154 : decode cX9_symbol 154 = .ok (.getfield 10, 3) := by decide +kernel
theorem dX9_symbol_157 : decode cX9_symbol 157 = .ok (.getfield 119, 3) := by decide +kernel
theorem dX9_symbol_160 : decode cX9_symbol 160 = .ok (.invokevirtual 66, 3) := by decide +kernel
theorem dX9_symbol_163 : decode cX9_symbol 163 = .ok (.iconst 1, 1) := by decide +kernel
theorem dX9_symbol_164 : decode cX9_symbol 164 = .ok (.isub, 1) := by decide +kernel
theorem dX9_symbol_165 : decode cX9_symbol 165 = .ok (.ireturn, 1) := by decide +kernel
theorem dX9_relocation_0 : decode cX9_relocation 0 = .ok (.aload_n 0, 1) := by decide +kernel
theorem dX9_relocation_1 : decode cX9_relocation 1 = .ok (.getfield 10, 3) := by decide +kernel
theorem dX9_relocation_4 : decode cX9_relocation 4 = .ok (.iload_n 1, 1) := by decide +kernel
theorem dX9_relocation_5 : decode cX9_relocation 5 = .ok (.invokevirtual 88, 3) := by decide +kernel
theorem dX9_relocation_8 : decode cX9_relocation 8 = .ok (.astore 6, 2) := by decide +kernel
theorem dX9_relocation_10 : decode cX9_relocation 10 = .ok (.aload_n 0, 1) := by decide +kernel
theorem dX9_relocation_11 : decode cX9_relocation 11 = .ok (.getfield 10, 3) := by decide +kernel
theorem dX9_relocation_14 : decode cX9_relocation 14 = .ok (.iload 4, 2) := by decide +kernel
theorem dX9_relocation_16 : decode cX9_relocation 16 = .ok (.invokevirtual 127, 3) := by decide +kernel
theorem dX9_relocation_19 : decode cX9_relocation 19 = .ok (.astore 7, 2) := by decide +kernel
theorem dX9_relocation_21 : decode cX9_relocation 21 = .ok (.aload 6, 2) := by decide +kernel
theorem dX9_relocation_23 : decode cX9_relocation 23 = .ok (.ifnull 30, 3) := by decide +kernel
theorem dX9_relocation_26 : decode cX9_relocation 26 = .ok (.aload 6, 2) := by decide +kernel
theorem dX9_relocation_28 : decode cX9_relocation 28 = .ok (.getfield 92, 3) := by decide +kernel
theorem dX9_relocation_31 : decode cX9_relocation 31 = .ok (.iconst 3, 1) := by decide +kernel
theorem dX9_relocation_32 : decode cX9_relocation 32 = .ok (.if_icmp .eq 21, 3) := by decide +kernel
theorem dX9_relocation_35 : decode cX9_relocation 35 = .ok (.aload 7, 2) := by decide +kernel
theorem dX9_relocation_37 : decode cX9_relocation 37 = .ok (.ifnull 16, 3) := by decide +kernel
theorem dX9_relocation_40 : decode cX9_relocation 40 = .ok (.aload 7, 2) := by decide +kernel
theorem dX9_relocation_42 : decode cX9_relocation 42 = .ok (.getfield 131, 3) := by decide +kernel
theorem dX9_relocation_45 : decode cX9_relocation 45 = .ok (.aload 6, 2) := by decide +kernel
theorem dX9_relocation_47 : decode cX9_relocation 47 = .ok (.getfield 113, 3) := by decide +kernel
theorem dX9_relocation_50 : decode cX9_relocation 50 = .ok (.if_icmp .eq 6, 3) := by decide +kernel
theorem dX9_relocation_53 : decode cX9_relocation 53 = .ok (.bipush (-101), 2) := by decide +kernel
theorem dX9_relocation_55 : decode cX9_relocation 55 = .ok (.ireturn, 1) := by decide +kernel
theorem dX9_relocation_56 : decode cX9_relocation 56 = .ok (.iload_n 3, 1) := by decide +kernel
theorem dX9_relocation_57 : decode cX9_relocation 57 = .ok (.invokestatic 132, 3) := by decide +kernel
theorem dX9_relocation_60 : decode cX9_relocation 60 = .ok (.astore 8, 2) := by decide +kernel
theorem dX9_relocation_62 : decode cX9_relocation 62 = .ok (.aload 8, 2) := by decide +kernel
theorem dX9_relocation_64 : decode cX9_relocation 64 = .ok (.ifnull 22, 3) := by decide +kernel
theorem dX9_relocation_67 : decode cX9_relocation 67 = .ok (.iload_n 2, 1) := by decide +kernel
theorem dX9_relocation_68 : decode cX9_relocation 68 = .ok (.iconst 0, 1) := by decide +kernel
theorem dX9_relocation_69 : decode cX9_relocation 69 = .ok (.aload 6, 2) := by decide +kernel
theorem dX9_relocation_71 : decode cX9_relocation 71 = .ok (.getfield 95, 3) := by decide +kernel
theorem dX9_relocation_74 : decode cX9_relocation 74 = .ok (.aload 8, 2) := by decide +kernel
theorem dX9_relocation_76 : decode cX9_relocation 76 = .ok (.getfield 136, 3) := by decide +kernel
theorem dX9_relocation_79 : decode cX9_relocation 79 = .ok (.isub, 1) := by decide +kernel
theorem dX9_relocation_80 : decode cX9_relocation 80 = .ok (.invokestatic 58, 3) := by decide +kernel
theorem dX9_relocation_83 : decode cX9_relocation 83 = .ok (.ifCond .ne 6, 3) := by decide +kernel
theorem dX9_relocation_86 : decode cX9_relocation 86 = .ok (.bipush (-102), 2) := by decide +kernel
theorem dX9_relocation_88 : decode cX9_relocation 88 = .ok (.ireturn, 1) := by decide +kernel
theorem dX9_relocation_89 : decode cX9_relocation 89 = .ok (.aload 8, 2) := by decide +kernel
theorem dX9_relocation_91 : decode cX9_relocation 91 = .ok (.getstatic 141, 3) := by decide +kernel
theorem dX9_relocation_94 : decode cX9_relocation 94 = .ok (.if_acmp .ne 14, 3) := by decide +kernel
theorem dX9_relocation_97 : decode cX9_relocation 97 = .ok (.aload 6, 2) := by decide +kernel
theorem dX9_relocation_99 : decode cX9_relocation 99 = .ok (.getfield 92, 3) := by decide +kernel
theorem dX9_relocation_102 : decode cX9_relocation 102 = .ok (.ifCond .eq 6, 3) := by decide +kernel
theorem dX9_relocation_105 : decode cX9_relocation 105 = .ok (.bipush (-102), 2) := by decide +kernel
theorem dX9_relocation_107 : decode cX9_relocation 107 = .ok (.ireturn, 1) := by decide +kernel
theorem dX9_relocation_108 : decode cX9_relocation 108 = .ok (.aload_n 0, 1) := by decide +kernel
theorem dX9_relocation_109 : decode cX9_relocation 109 = .ok (.getfield 10, 3) := by decide +kernel
theorem dX9_relocation_112 : decode cX9_relocation 112 = .ok (.getfield 145, 3) := by decide +kernel
theorem dX9_relocation_115 : decode cX9_relocation 115 = .ok (.invokevirtual 66, 3) := by decide +kernel
theorem dX9_relocation_118 : decode cX9_relocation 118 = .ok (.sipush 200, 3) := by decide +kernel
theorem dX9_relocation_121 : decode cX9_relocation 121 = .ok (.if_icmp .lt 6, 3) := by decide +kernel
theorem dX9_relocation_124 : decode cX9_relocation 124 = .ok (.bipush (-104), 2) := by decide +kernel
theorem dX9_relocation_126 : decode cX9_relocation 126 = .ok (.ireturn, 1) := by decide +kernel
theorem dX9_relocation_127 : decode cX9_relocation 127 = .ok (.aload_n 0, 1) := by decide +kernel
theorem dX9_relocation_128 : decode cX9_relocation 128 = .ok (.invokevirtual 51, 3) := by decide +kernel
theorem dX9_relocation_131 : decode cX9_relocation 131 = .ok (.new 148, 3) := by decide +kernel
theorem dX9_relocation_134 : decode cX9_relocation 134 = .ok (.dup, 1) := by decide +kernel
theorem dX9_relocation_135 : decode cX9_relocation 135 = .ok (.aload 6, 2) := by decide +kernel
theorem dX9_relocation_137 : decode cX9_relocation 137 = .ok (.iload_n 2, 1) := by decide +kernel
theorem dX9_relocation_138 : decode cX9_relocation 138 = .ok (.aload 8, 2) := by decide +kernel
theorem dX9_relocation_140 : decode cX9_relocation 140 = .ok (.aload 7, 2) := by decide +kernel
theorem dX9_relocation_142 : decode cX9_relocation 142 = .ok (.iload 5, 2) := by decide +kernel
theorem dX9_relocation_144 : decode cX9_relocation 144 = .ok (.invokespecial 150, 3) := by decide +kernel
theorem dX9_relocation_147 : decode cX9_relocation 147 = .ok (.astore 9, 2) := by decide +kernel
theorem dX9_relocation_149 : decode cX9_relocation 149 = .ok (.aload_n 0, 1) := by decide +kernel
theorem dX9_relocation_150 : decode cX9_relocation 150 = .ok (.getfield 10, 3) := by decide +kernel
theorem dX9_relocation_153 : decode cX9_relocation 153 = .ok (.getfield 145, 3) := by decide +kernel
theorem dX9_relocation_156 : decode cX9_relocation 156 = .ok (.aload 9, 2) := by decide +kernel
theorem dX9_relocation_158 : decode cX9_relocation 158 = .ok (.invokevirtual 81, 3) := by decide +kernel
theorem dX9_relocation_161 : decode cX9_relocation 161 = .ok (.pop, 1) := by decide +kernel
theorem dX9_relocation_162 : decode cX9_relocation 162 = .ok (.aload 6, 2) := by decide +kernel
theorem dX9_relocation_164 : decode cX9_relocation 164 = .ok (.getfield 153, 3) := by decide +kernel
theorem dX9_relocation_167 : decode cX9_relocation 167 = .ok (.aload 9, 2) := by decide +kernel
theorem dX9_relocation_169 : decode cX9_relocation 169 = .ok (.invokevirtual 81, 3) := by decide +kernel
theorem dX9_relocation_172 : decode cX9_relocation 172 = .ok (.pop, 1) := by decide +kernel
theorem dX9_relocation_173 : decode cX9_relocation 173 = .ok (.aload_n 0, 1) := by decide +kernel
theorem dX9_relocation_174 : decode cX9_relocation 174 = .ok (.getfield 10, 3) := by decide +kernel
theorem dX9_relocation_177 : decode cX9_relocation 177 = .ok (.getfield 145, 3) := by decide +kernel
theorem dX9_relocation_180 : decode cX9_relocation 180 = .ok (.invokevirtual 66, 3) := by decide +kernel
theorem dX9_relocation_183 : decode cX9_relocation 183 = .ok (.iconst 1, 1) := by decide +kernel
theorem dX9_relocation_184 : decode cX9_relocation 184 = .ok (.isub, 1) := by decide +kernel
theorem dX9_relocation_185 : decode cX9_relocation 185 = .ok (.ireturn, 1) := by decide +kernel
theorem dX9_root_0 : decode cX9_root 0 = .ok (.iload_n 1, 1) := by decide +kernel
theorem dX9_root_1 : decode cX9_root 1 = .ok (.iconst 0, 1) := by decide +kernel
theorem dX9_root_2 : decode cX9_root 2 = .ok (.bipush 63, 2) := by decide +kernel
theorem dX9_root_4 : decode cX9_root 4 = .ok (.invokestatic 58, 3) := by decide +kernel
theorem dX9_root_7 : decode cX9_root 7 = .ok (.ifCond .ne 6, 3) := by decide +kernel
theorem dX9_root_10 : decode cX9_root 10 = .ok (.bipush (-102), 2) := by decide +kernel
theorem dX9_root_12 : decode cX9_root 12 = .ok (.ireturn, 1) := by decide +kernel
theorem dX9_root_13 : decode cX9_root 13 = .ok (.aload_n 0, 1) := by decide +kernel
theorem dX9_root_14 : decode cX9_root 14 = .ok (.getfield 10, 3) := by decide +kernel
theorem dX9_root_17 : decode cX9_root 17 = .ok (.iload_n 1, 1) := by decide +kernel
theorem dX9_root_18 : decode cX9_root 18 = .ok (.invokevirtual 154, 3) := by decide +kernel
theorem dX9_root_21 : decode cX9_root 21 = .ok (.ifCond .ne 6, 3) := by decide +kernel
theorem dX9_root_24 : decode cX9_root 24 = .ok (.bipush (-104), 2) := by decide +kernel
theorem dX9_root_26 : decode cX9_root 26 = .ok (.ireturn, 1) := by decide +kernel
theorem dX9_root_27 : decode cX9_root 27 = .ok (.aload_n 0, 1) := by decide +kernel
theorem dX9_root_28 : decode cX9_root 28 = .ok (.invokevirtual 51, 3) := by decide +kernel
theorem dX9_root_31 : decode cX9_root 31 = .ok (.aload_n 0, 1) := by decide +kernel
theorem dX9_root_32 : decode cX9_root 32 = .ok (.getfield 10, 3) := by decide +kernel
theorem dX9_root_35 : decode cX9_root 35 = .ok (.getfield 157, 3) := by decide +kernel
theorem dX9_root_38 : decode cX9_root 38 = .ok (.ireturn, 1) := by decide +kernel
theorem dX9_base_0 : decode cX9_base 0 = .ok (.iload_n 1, 1) := by decide +kernel
theorem dX9_base_1 : decode cX9_base 1 = .ok (.iconst 0, 1) := by decide +kernel
theorem dX9_base_2 : decode cX9_base 2 = .ok (.iconst 3, 1) := by decide +kernel
theorem dX9_base_3 : decode cX9_base 3 = .ok (.invokestatic 58, 3) := by decide +kernel
theorem dX9_base_6 : decode cX9_base 6 = .ok (.ifCond .eq 13, 3) := by decide +kernel
theorem dX9_base_9 : decode cX9_base 9 = .ok (.iload_n 2, 1) := by decide +kernel
theorem dX9_base_10 : decode cX9_base 10 = .ok (.iconst (-1), 1) := by decide +kernel
theorem dX9_base_11 : decode cX9_base 11 = .ok (.ldc 160, 2) := by decide +kernel
theorem dX9_base_13 : decode cX9_base 13 = .ok (.invokestatic 58, 3) := by decide +kernel
theorem dX9_base_16 : decode cX9_base 16 = .ok (.ifCond .ne 6, 3) := by decide +kernel
theorem dX9_base_19 : decode cX9_base 19 = .ok (.bipush (-102), 2) := by decide +kernel
theorem dX9_base_21 : decode cX9_base 21 = .ok (.ireturn, 1) := by decide +kernel
theorem dX9_base_22 : decode cX9_base 22 = .ok (.aload_n 0, 1) := by decide +kernel
theorem dX9_base_23 : decode cX9_base 23 = .ok (.invokevirtual 51, 3) := by decide +kernel
theorem dX9_base_26 : decode cX9_base 26 = .ok (.aload_n 0, 1) := by decide +kernel
theorem dX9_base_27 : decode cX9_base 27 = .ok (.getfield 10, 3) := by decide +kernel
theorem dX9_base_30 : decode cX9_base 30 = .ok (.getfield 161, 3) := by decide +kernel
theorem dX9_base_33 : decode cX9_base 33 = .ok (.iload_n 1, 1) := by decide +kernel
theorem dX9_base_34 : decode cX9_base 34 = .ok (.iaload, 1) := by decide +kernel
theorem dX9_base_35 : decode cX9_base 35 = .ok (.istore_n 3, 1) := by decide +kernel
theorem dX9_base_36 : decode cX9_base 36 = .ok (.aload_n 0, 1) := by decide +kernel
theorem dX9_base_37 : decode cX9_base 37 = .ok (.getfield 10, 3) := by decide +kernel
theorem dX9_base_40 : decode cX9_base 40 = .ok (.getfield 161, 3) := by decide +kernel
theorem dX9_base_43 : decode cX9_base 43 = .ok (.iload_n 1, 1) := by decide +kernel
theorem dX9_base_44 : decode cX9_base 44 = .ok (.iload_n 2, 1) := by decide +kernel
theorem dX9_base_45 : decode cX9_base 45 = .ok (.iastore, 1) := by decide +kernel
theorem dX9_base_46 : decode cX9_base 46 = .ok (.iload_n 3, 1) := by decide +kernel
theorem dX9_base_47 : decode cX9_base 47 = .ok (.ireturn, 1) := by decide +kernel
theorem dX9_link_0 : decode cX9_link 0 = .ok (.aload_n 0, 1) := by decide +kernel
theorem dX9_link_1 : decode cX9_link 1 = .ok (.invokevirtual 51, 3) := by decide +kernel
theorem dX9_link_4 : decode cX9_link 4 = .ok (.aload_n 0, 1) := by decide +kernel
theorem dX9_link_5 : decode cX9_link 5 = .ok (.aload_n 0, 1) := by decide +kernel
theorem dX9_link_6 : decode cX9_link 6 = .ok (.getfield 19, 3) := by decide +kernel
theorem dX9_link_9 : decode cX9_link 9 = .ok (.aload_n 0, 1) := by decide +kernel
theorem dX9_link_10 : decode cX9_link 10 = .ok (.getfield 10, 3) := by decide +kernel
theorem dX9_link_13 : decode cX9_link 13 = .ok (.invokevirtual 165, 3) := by decide +kernel
theorem dX9_link_16 : decode cX9_link 16 = .ok (.putfield 44, 3) := by decide +kernel
theorem dX9_link_19 : decode cX9_link 19 = .ok (.aload_n 0, 1) := by decide +kernel
theorem dX9_link_20 : decode cX9_link 20 = .ok (.getfield 44, 3) := by decide +kernel
theorem dX9_link_23 : decode cX9_link 23 = .ok (.iconst (-1), 1) := by decide +kernel
theorem dX9_link_24 : decode cX9_link 24 = .ok (.if_icmp .eq 5, 3) := by decide +kernel
theorem dX9_link_27 : decode cX9_link 27 = .ok (.iconst 1, 1) := by decide +kernel
theorem dX9_link_28 : decode cX9_link 28 = .ok (.ireturn, 1) := by decide +kernel
theorem dX9_link_29 : decode cX9_link 29 = .ok (.aload_n 0, 1) := by decide +kernel
theorem dX9_link_30 : decode cX9_link 30 = .ok (.getfield 26, 3) := by decide +kernel
theorem dX9_link_33 : decode cX9_link 33 = .ok (.aload_n 0, 1) := by decide +kernel
theorem dX9_link_34 : decode cX9_link 34 = .ok (.getfield 10, 3) := by decide +kernel
theorem dX9_link_37 : decode cX9_link 37 = .ok (.aload_n 0, 1) := by decide +kernel
theorem dX9_link_38 : decode cX9_link 38 = .ok (.getfield 19, 3) := by decide +kernel
theorem dX9_link_41 : decode cX9_link 41 = .ok (.invokevirtual 169, 3) := by decide +kernel
theorem dX9_link_44 : decode cX9_link 44 = .ok (.aload_n 0, 1) := by decide +kernel
theorem dX9_link_45 : decode cX9_link 45 = .ok (.getfield 33, 3) := by decide +kernel
theorem dX9_link_48 : decode cX9_link 48 = .ok (.aload_n 0, 1) := by decide +kernel
theorem dX9_link_49 : decode cX9_link 49 = .ok (.getfield 10, 3) := by decide +kernel
theorem dX9_link_52 : decode cX9_link 52 = .ok (.getfield 62, 3) := by decide +kernel
theorem dX9_link_55 : decode cX9_link 55 = .ok (.iload_n 1, 1) := by decide +kernel
theorem dX9_link_56 : decode cX9_link 56 = .ok (.invokevirtual 173, 3) := by decide +kernel
theorem dX9_link_59 : decode cX9_link 59 = .ok (.aload_n 0, 1) := by decide +kernel
theorem dX9_link_60 : decode cX9_link 60 = .ok (.iconst 1, 1) := by decide +kernel
theorem dX9_link_61 : decode cX9_link 61 = .ok (.putfield 176, 3) := by decide +kernel
theorem dX9_link_64 : decode cX9_link 64 = .ok (.aload_n 0, 1) := by decide +kernel
theorem dX9_link_65 : decode cX9_link 65 = .ok (.invokevirtual 180, 3) := by decide +kernel
theorem dX9_link_68 : decode cX9_link 68 = .ok (.istore_n 2, 1) := by decide +kernel
theorem dX9_link_69 : decode cX9_link 69 = .ok (.iload_n 2, 1) := by decide +kernel
theorem dX9_link_70 : decode cX9_link 70 = .ok (.ifCond .eq 5, 3) := by decide +kernel
theorem dX9_link_73 : decode cX9_link 73 = .ok (.iload_n 2, 1) := by decide +kernel
theorem dX9_link_74 : decode cX9_link 74 = .ok (.ireturn, 1) := by decide +kernel
theorem dX9_link_75 : decode cX9_link 75 = .ok (.aload_n 0, 1) := by decide +kernel
theorem dX9_link_76 : decode cX9_link 76 = .ok (.getfield 40, 3) := by decide +kernel
theorem dX9_link_79 : decode cX9_link 79 = .ok (.aload_n 0, 1) := by decide +kernel
theorem dX9_link_80 : decode cX9_link 80 = .ok (.getfield 10, 3) := by decide +kernel
theorem dX9_link_83 : decode cX9_link 83 = .ok (.invokevirtual 183, 3) := by decide +kernel
theorem dX9_link_86 : decode cX9_link 86 = .ok (.aload_n 0, 1) := by decide +kernel
theorem dX9_link_87 : decode cX9_link 87 = .ok (.invokevirtual 187, 3) := by decide +kernel
theorem dX9_link_90 : decode cX9_link 90 = .ok (.istore_n 2, 1) := by decide +kernel
theorem dX9_link_91 : decode cX9_link 91 = .ok (.aload_n 0, 1) := by decide +kernel
theorem dX9_link_92 : decode cX9_link 92 = .ok (.iload_n 2, 1) := by decide +kernel
theorem dX9_link_93 : decode cX9_link 93 = .ok (.ifCond .ne 7, 3) := by decide +kernel
theorem dX9_link_96 : decode cX9_link 96 = .ok (.iconst 1, 1) := by decide +kernel
theorem dX9_link_97 : decode cX9_link 97 = .ok (.goto 4, 3) := by decide +kernel
theorem dX9_link_100 : decode cX9_link 100 = .ok (.iconst 0, 1) := by decide +kernel
theorem dX9_link_101 : decode cX9_link 101 = .ok (.putfield 190, 3) := by decide +kernel
theorem dX9_link_104 : decode cX9_link 104 = .ok (.iload_n 2, 1) := by decide +kernel
theorem dX9_link_105 : decode cX9_link 105 = .ok (.ireturn, 1) := by decide +kernel
theorem dX9_fault_0 : decode cX9_fault 0 = .ok (.aload_n 0, 1) := by decide +kernel
theorem dX9_fault_1 : decode cX9_fault 1 = .ok (.getfield 44, 3) := by decide +kernel
theorem dX9_fault_4 : decode cX9_fault 4 = .ok (.ireturn, 1) := by decide +kernel
theorem dX9_kept_0 : decode cX9_kept 0 = .ok (.aload_n 0, 1) := by decide +kernel
theorem dX9_kept_1 : decode cX9_kept 1 = .ok (.getfield 10, 3) := by decide +kernel
theorem dX9_kept_4 : decode cX9_kept 4 = .ok (.iload_n 1, 1) := by decide +kernel
theorem dX9_kept_5 : decode cX9_kept 5 = .ok (.invokevirtual 88, 3) := by decide +kernel
theorem dX9_kept_8 : decode cX9_kept 8 = .ok (.astore_n 3, 1) := by decide +kernel
theorem dX9_kept_9 : decode cX9_kept 9 = .ok (.aload_n 3, 1) := by decide +kernel
theorem dX9_kept_10 : decode cX9_kept 10 = .ok (.ifnonnull 6, 3) := by decide +kernel
theorem dX9_kept_13 : decode cX9_kept 13 = .ok (.bipush (-101), 2) := by decide +kernel
theorem dX9_kept_15 : decode cX9_kept 15 = .ok (.ireturn, 1) := by decide +kernel
theorem dX9_kept_16 : decode cX9_kept 16 = .ok (.iload_n 2, 1) := by decide +kernel
theorem dX9_kept_17 : decode cX9_kept 17 = .ok (.iconst 0, 1) := by decide +kernel
theorem dX9_kept_18 : decode cX9_kept 18 = .ok (.iconst 4, 1) := by decide +kernel
theorem dX9_kept_19 : decode cX9_kept 19 = .ok (.invokestatic 58, 3) := by decide +kernel
theorem dX9_kept_22 : decode cX9_kept 22 = .ok (.ifCond .ne 6, 3) := by decide +kernel
theorem dX9_kept_25 : decode cX9_kept 25 = .ok (.bipush (-102), 2) := by decide +kernel
theorem dX9_kept_27 : decode cX9_kept 27 = .ok (.ireturn, 1) := by decide +kernel
theorem dX9_kept_28 : decode cX9_kept 28 = .ok (.aload_n 0, 1) := by decide +kernel
theorem dX9_kept_29 : decode cX9_kept 29 = .ok (.getfield 176, 3) := by decide +kernel
theorem dX9_kept_32 : decode cX9_kept 32 = .ok (.ifCond .ne 6, 3) := by decide +kernel
theorem dX9_kept_35 : decode cX9_kept 35 = .ok (.bipush (-103), 2) := by decide +kernel
theorem dX9_kept_37 : decode cX9_kept 37 = .ok (.ireturn, 1) := by decide +kernel
theorem dX9_kept_38 : decode cX9_kept 38 = .ok (.iload_n 2, 1) := by decide +kernel
theorem dX9_kept_39 : decode cX9_kept 39 = .ok (.tableswitch 71 0 3 #[29, 42, 50, 58], 29) := by decide +kernel
theorem dX9_kept_68 : decode cX9_kept 68 = .ok (.aload_n 3, 1) := by decide +kernel
theorem dX9_kept_69 : decode cX9_kept 69 = .ok (.invokevirtual 193, 3) := by decide +kernel
theorem dX9_kept_72 : decode cX9_kept 72 = .ok (.ifCond .eq 7, 3) := by decide +kernel
theorem dX9_kept_75 : decode cX9_kept 75 = .ok (.iconst 1, 1) := by decide +kernel
theorem dX9_kept_76 : decode cX9_kept 76 = .ok (.goto 4, 3) := by decide +kernel
theorem dX9_kept_79 : decode cX9_kept 79 = .ok (.iconst 0, 1) := by decide +kernel
theorem dX9_kept_80 : decode cX9_kept 80 = .ok (.ireturn, 1) := by decide +kernel
theorem dX9_kept_81 : decode cX9_kept 81 = .ok (.aload_n 3, 1) := by decide +kernel
theorem dX9_kept_82 : decode cX9_kept 82 = .ok (.getfield 197, 3) := by decide +kernel
theorem dX9_kept_85 : decode cX9_kept 85 = .ok (.invokestatic 201, 3) := by decide +kernel
theorem dX9_kept_88 : decode cX9_kept 88 = .ok (.ireturn, 1) := by decide +kernel
theorem dX9_kept_89 : decode cX9_kept 89 = .ok (.aload_n 3, 1) := by decide +kernel
theorem dX9_kept_90 : decode cX9_kept 90 = .ok (.getfield 205, 3) := by decide +kernel
theorem dX9_kept_93 : decode cX9_kept 93 = .ok (.invokestatic 201, 3) := by decide +kernel
theorem dX9_kept_96 : decode cX9_kept 96 = .ok (.ireturn, 1) := by decide +kernel
theorem dX9_kept_97 : decode cX9_kept 97 = .ok (.aload_n 3, 1) := by decide +kernel
theorem dX9_kept_98 : decode cX9_kept 98 = .ok (.getfield 208, 3) := by decide +kernel
theorem dX9_kept_101 : decode cX9_kept 101 = .ok (.ifCond .eq 7, 3) := by decide +kernel
theorem dX9_kept_104 : decode cX9_kept 104 = .ok (.iconst 1, 1) := by decide +kernel
theorem dX9_kept_105 : decode cX9_kept 105 = .ok (.goto 4, 3) := by decide +kernel
theorem dX9_kept_108 : decode cX9_kept 108 = .ok (.iconst 0, 1) := by decide +kernel
theorem dX9_kept_109 : decode cX9_kept 109 = .ok (.ireturn, 1) := by decide +kernel
theorem dX9_kept_110 : decode cX9_kept 110 = .ok (.aload_n 3, 1) := by decide +kernel
theorem dX9_kept_111 : decode cX9_kept 111 = .ok (.getfield 211, 3) := by decide +kernel
theorem dX9_kept_114 : decode cX9_kept 114 = .ok (.ireturn, 1) := by decide +kernel
theorem dX9_place_0 : decode cX9_place 0 = .ok (.aload_n 0, 1) := by decide +kernel
theorem dX9_place_1 : decode cX9_place 1 = .ok (.getfield 10, 3) := by decide +kernel
theorem dX9_place_4 : decode cX9_place 4 = .ok (.iload_n 1, 1) := by decide +kernel
theorem dX9_place_5 : decode cX9_place 5 = .ok (.invokevirtual 88, 3) := by decide +kernel
theorem dX9_place_8 : decode cX9_place 8 = .ok (.astore_n 2, 1) := by decide +kernel
theorem dX9_place_9 : decode cX9_place 9 = .ok (.aload_n 2, 1) := by decide +kernel
theorem dX9_place_10 : decode cX9_place 10 = .ok (.ifnonnull 13, 3) := by decide +kernel
theorem dX9_place_13 : decode cX9_place 13 = .ok (.new 214, 3) := by decide +kernel
theorem dX9_place_16 : decode cX9_place 16 = .ok (.dup, 1) := by decide +kernel
theorem dX9_place_17 : decode cX9_place 17 = .ok (.ldc 216, 2) := by decide +kernel
theorem dX9_place_19 : decode cX9_place 19 = .ok (.invokespecial 218, 3) := by decide +kernel
theorem dX9_place_22 : decode cX9_place 22 = .ok (.athrow, 1) := by decide +kernel
theorem dX9_place_23 : decode cX9_place 23 = .ok (.aload_n 0, 1) := by decide +kernel
theorem dX9_place_24 : decode cX9_place 24 = .ok (.getfield 190, 3) := by decide +kernel
theorem dX9_place_27 : decode cX9_place 27 = .ok (.ifCond .eq 10, 3) := by decide +kernel
theorem dX9_place_30 : decode cX9_place 30 = .ok (.aload_n 2, 1) := by decide +kernel
theorem dX9_place_31 : decode cX9_place 31 = .ok (.invokevirtual 193, 3) := by decide +kernel
theorem dX9_place_34 : decode cX9_place 34 = .ok (.ifCond .ne 13, 3) := by decide +kernel
theorem dX9_place_37 : decode cX9_place 37 = .ok (.new 221, 3) := by decide +kernel
theorem dX9_place_40 : decode cX9_place 40 = .ok (.dup, 1) := by decide +kernel
theorem dX9_place_41 : decode cX9_place 41 = .ok (.ldc 223, 2) := by decide +kernel
theorem dX9_place_43 : decode cX9_place 43 = .ok (.invokespecial 225, 3) := by decide +kernel
theorem dX9_place_46 : decode cX9_place 46 = .ok (.athrow, 1) := by decide +kernel
theorem dX9_place_47 : decode cX9_place 47 = .ok (.aload_n 2, 1) := by decide +kernel
theorem dX9_place_48 : decode cX9_place 48 = .ok (.invokevirtual 226, 3) := by decide +kernel
theorem dX9_place_51 : decode cX9_place 51 = .ok (.lreturn, 1) := by decide +kernel
theorem dX9_value_0 : decode cX9_value 0 = .ok (.aload_n 0, 1) := by decide +kernel
theorem dX9_value_1 : decode cX9_value 1 = .ok (.getfield 10, 3) := by decide +kernel
theorem dX9_value_4 : decode cX9_value 4 = .ok (.iload_n 1, 1) := by decide +kernel
theorem dX9_value_5 : decode cX9_value 5 = .ok (.invokevirtual 127, 3) := by decide +kernel
theorem dX9_value_8 : decode cX9_value 8 = .ok (.astore_n 2, 1) := by decide +kernel
theorem dX9_value_9 : decode cX9_value 9 = .ok (.aload_n 2, 1) := by decide +kernel
theorem dX9_value_10 : decode cX9_value 10 = .ok (.ifnonnull 13, 3) := by decide +kernel
theorem dX9_value_13 : decode cX9_value 13 = .ok (.new 214, 3) := by decide +kernel
theorem dX9_value_16 : decode cX9_value 16 = .ok (.dup, 1) := by decide +kernel
theorem dX9_value_17 : decode cX9_value 17 = .ok (.ldc 230, 2) := by decide +kernel
theorem dX9_value_19 : decode cX9_value 19 = .ok (.invokespecial 218, 3) := by decide +kernel
theorem dX9_value_22 : decode cX9_value 22 = .ok (.athrow, 1) := by decide +kernel
theorem dX9_value_23 : decode cX9_value 23 = .ok (.aload_n 0, 1) := by decide +kernel
theorem dX9_value_24 : decode cX9_value 24 = .ok (.getfield 190, 3) := by decide +kernel
theorem dX9_value_27 : decode cX9_value 27 = .ok (.ifCond .eq 20, 3) := by decide +kernel
theorem dX9_value_30 : decode cX9_value 30 = .ok (.aload_n 2, 1) := by decide +kernel
theorem dX9_value_31 : decode cX9_value 31 = .ok (.getfield 232, 3) := by decide +kernel
theorem dX9_value_34 : decode cX9_value 34 = .ok (.ifnull 23, 3) := by decide +kernel
theorem dX9_value_37 : decode cX9_value 37 = .ok (.aload_n 2, 1) := by decide +kernel
theorem dX9_value_38 : decode cX9_value 38 = .ok (.getfield 232, 3) := by decide +kernel
theorem dX9_value_41 : decode cX9_value 41 = .ok (.invokevirtual 193, 3) := by decide +kernel
theorem dX9_value_44 : decode cX9_value 44 = .ok (.ifCond .ne 13, 3) := by decide +kernel
theorem dX9_value_47 : decode cX9_value 47 = .ok (.new 221, 3) := by decide +kernel
theorem dX9_value_50 : decode cX9_value 50 = .ok (.dup, 1) := by decide +kernel
theorem dX9_value_51 : decode cX9_value 51 = .ok (.ldc 235, 2) := by decide +kernel
theorem dX9_value_53 : decode cX9_value 53 = .ok (.invokespecial 225, 3) := by decide +kernel
theorem dX9_value_56 : decode cX9_value 56 = .ok (.athrow, 1) := by decide +kernel
theorem dX9_value_57 : decode cX9_value 57 = .ok (.aload_n 0, 1) := by decide +kernel
theorem dX9_value_58 : decode cX9_value 58 = .ok (.getfield 40, 3) := by decide +kernel
theorem dX9_value_61 : decode cX9_value 61 = .ok (.aload_n 2, 1) := by decide +kernel
theorem dX9_value_62 : decode cX9_value 62 = .ok (.invokevirtual 237, 3) := by decide +kernel
theorem dX9_value_65 : decode cX9_value 65 = .ok (.lreturn, 1) := by decide +kernel
theorem dX9_octet_0 : decode cX9_octet 0 = .ok (.aload_n 0, 1) := by decide +kernel
theorem dX9_octet_1 : decode cX9_octet 1 = .ok (.getfield 190, 3) := by decide +kernel
theorem dX9_octet_4 : decode cX9_octet 4 = .ok (.ifCond .ne 6, 3) := by decide +kernel
theorem dX9_octet_7 : decode cX9_octet 7 = .ok (.bipush (-103), 2) := by decide +kernel
theorem dX9_octet_9 : decode cX9_octet 9 = .ok (.ireturn, 1) := by decide +kernel
theorem dX9_octet_10 : decode cX9_octet 10 = .ok (.iconst 0, 1) := by decide +kernel
theorem dX9_octet_11 : decode cX9_octet 11 = .ok (.istore_n 3, 1) := by decide +kernel
theorem dX9_octet_12 : decode cX9_octet 12 = .ok (.iload_n 3, 1) := by decide +kernel
theorem dX9_octet_13 : decode cX9_octet 13 = .ok (.aload_n 0, 1) := by decide +kernel
theorem dX9_octet_14 : decode cX9_octet 14 = .ok (.getfield 10, 3) := by decide +kernel
theorem dX9_octet_17 : decode cX9_octet 17 = .ok (.getfield 62, 3) := by decide +kernel
theorem dX9_octet_20 : decode cX9_octet 20 = .ok (.invokevirtual 66, 3) := by decide +kernel
theorem dX9_octet_23 : decode cX9_octet 23 = .ok (.if_icmp .ge 64, 3) := by decide +kernel
theorem dX9_octet_26 : decode cX9_octet 26 = .ok (.aload_n 0, 1) := by decide +kernel
theorem dX9_octet_27 : decode cX9_octet 27 = .ok (.getfield 10, 3) := by decide +kernel
theorem dX9_octet_30 : decode cX9_octet 30 = .ok (.getfield 62, 3) := by decide +kernel
theorem dX9_octet_33 : decode cX9_octet 33 = .ok (.iload_n 3, 1) := by decide +kernel
theorem dX9_octet_34 : decode cX9_octet 34 = .ok (.invokevirtual 241, 3) := by decide +kernel
theorem dX9_octet_37 : decode cX9_octet 37 = .ok (.checkcast 76, 3) := by decide +kernel
theorem dX9_octet_40 : decode cX9_octet 40 = .ok (.astore 4, 2) := by decide +kernel
theorem dX9_octet_42 : decode cX9_octet 42 = .ok (.aload 4, 2) := by decide +kernel
theorem dX9_octet_44 : decode cX9_octet 44 = .ok (.invokevirtual 245, 3) := by decide +kernel
theorem dX9_octet_47 : decode cX9_octet 47 = .ok (.ifCond .eq 34, 3) := by decide +kernel
theorem dX9_octet_50 : decode cX9_octet 50 = .ok (.lload_n 1, 1) := by decide +kernel
theorem dX9_octet_51 : decode cX9_octet 51 = .ok (.aload 4, 2) := by decide +kernel
theorem dX9_octet_53 : decode cX9_octet 53 = .ok (.getfield 248, 3) := by decide +kernel
theorem dX9_octet_56 : decode cX9_octet 56 = .ok (.lcmp, 1) := by decide +kernel
theorem dX9_octet_57 : decode cX9_octet 57 = .ok (.ifCond .lt 24, 3) := by decide +kernel
theorem dX9_octet_60 : decode cX9_octet 60 = .ok (.lload_n 1, 1) := by decide +kernel
theorem dX9_octet_61 : decode cX9_octet 61 = .ok (.aload 4, 2) := by decide +kernel
theorem dX9_octet_63 : decode cX9_octet 63 = .ok (.invokevirtual 252, 3) := by decide +kernel
theorem dX9_octet_66 : decode cX9_octet 66 = .ok (.lcmp, 1) := by decide +kernel
theorem dX9_octet_67 : decode cX9_octet 67 = .ok (.ifCond .ge 14, 3) := by decide +kernel
theorem dX9_octet_70 : decode cX9_octet 70 = .ok (.aload_n 0, 1) := by decide +kernel
theorem dX9_octet_71 : decode cX9_octet 71 = .ok (.getfield 40, 3) := by decide +kernel
theorem dX9_octet_74 : decode cX9_octet 74 = .ok (.aload 4, 2) := by decide +kernel
theorem dX9_octet_76 : decode cX9_octet 76 = .ok (.lload_n 1, 1) := by decide +kernel
theorem dX9_octet_77 : decode cX9_octet 77 = .ok (.invokevirtual 255, 3) := by decide +kernel
theorem dX9_octet_80 : decode cX9_octet 80 = .ok (.ireturn, 1) := by decide +kernel
theorem dX9_octet_81 : decode cX9_octet 81 = .ok (.iinc 3 1, 3) := by decide +kernel
theorem dX9_octet_84 : decode cX9_octet 84 = .ok (.goto (-72), 3) := by decide +kernel
theorem dX9_octet_87 : decode cX9_octet 87 = .ok (.iconst (-1), 1) := by decide +kernel
theorem dX9_octet_88 : decode cX9_octet 88 = .ok (.ireturn, 1) := by decide +kernel
theorem dX9_range_0 : decode cX9_range 0 = .ok (.iload_n 1, 1) := by decide +kernel
theorem dX9_range_1 : decode cX9_range 1 = .ok (.iconst 0, 1) := by decide +kernel
theorem dX9_range_2 : decode cX9_range 2 = .ok (.iconst 3, 1) := by decide +kernel
theorem dX9_range_3 : decode cX9_range 3 = .ok (.invokestatic 58, 3) := by decide +kernel
theorem dX9_range_6 : decode cX9_range 6 = .ok (.ifCond .ne 14, 3) := by decide +kernel
theorem dX9_range_9 : decode cX9_range 9 = .ok (.new 214, 3) := by decide +kernel
theorem dX9_range_12 : decode cX9_range 12 = .ok (.dup, 1) := by decide +kernel
theorem dX9_range_13 : decode cX9_range 13 = .ok (.ldc_w 259, 3) := by decide +kernel
theorem dX9_range_16 : decode cX9_range 16 = .ok (.invokespecial 218, 3) := by decide +kernel
theorem dX9_range_19 : decode cX9_range 19 = .ok (.athrow, 1) := by decide +kernel
theorem dX9_range_20 : decode cX9_range 20 = .ok (.aload_n 0, 1) := by decide +kernel
theorem dX9_range_21 : decode cX9_range 21 = .ok (.getfield 190, 3) := by decide +kernel
theorem dX9_range_24 : decode cX9_range 24 = .ok (.ifCond .ne 14, 3) := by decide +kernel
theorem dX9_range_27 : decode cX9_range 27 = .ok (.new 221, 3) := by decide +kernel
theorem dX9_range_30 : decode cX9_range 30 = .ok (.dup, 1) := by decide +kernel
theorem dX9_range_31 : decode cX9_range 31 = .ok (.ldc_w 261, 3) := by decide +kernel
theorem dX9_range_34 : decode cX9_range 34 = .ok (.invokespecial 225, 3) := by decide +kernel
theorem dX9_range_37 : decode cX9_range 37 = .ok (.athrow, 1) := by decide +kernel
theorem dX9_range_38 : decode cX9_range 38 = .ok (.iload_n 2, 1) := by decide +kernel
theorem dX9_range_39 : decode cX9_range 39 = .ok (.ifCond .eq 15, 3) := by decide +kernel
theorem dX9_range_42 : decode cX9_range 42 = .ok (.aload_n 0, 1) := by decide +kernel
theorem dX9_range_43 : decode cX9_range 43 = .ok (.getfield 40, 3) := by decide +kernel
theorem dX9_range_46 : decode cX9_range 46 = .ok (.getfield 263, 3) := by decide +kernel
theorem dX9_range_49 : decode cX9_range 49 = .ok (.iload_n 1, 1) := by decide +kernel
theorem dX9_range_50 : decode cX9_range 50 = .ok (.laload, 1) := by decide +kernel
theorem dX9_range_51 : decode cX9_range 51 = .ok (.goto 12, 3) := by decide +kernel
theorem dX9_range_54 : decode cX9_range 54 = .ok (.aload_n 0, 1) := by decide +kernel
theorem dX9_range_55 : decode cX9_range 55 = .ok (.getfield 40, 3) := by decide +kernel
theorem dX9_range_58 : decode cX9_range 58 = .ok (.getfield 267, 3) := by decide +kernel
theorem dX9_range_61 : decode cX9_range 61 = .ok (.iload_n 1, 1) := by decide +kernel
theorem dX9_range_62 : decode cX9_range 62 = .ok (.laload, 1) := by decide +kernel
theorem dX9_range_63 : decode cX9_range 63 = .ok (.lreturn, 1) := by decide +kernel
theorem dX9_veneers_0 : decode cX9_veneers 0 = .ok (.aload_n 0, 1) := by decide +kernel
theorem dX9_veneers_1 : decode cX9_veneers 1 = .ok (.getfield 10, 3) := by decide +kernel
theorem dX9_veneers_4 : decode cX9_veneers 4 = .ok (.iload_n 1, 1) := by decide +kernel
theorem dX9_veneers_5 : decode cX9_veneers 5 = .ok (.invokevirtual 88, 3) := by decide +kernel
theorem dX9_veneers_8 : decode cX9_veneers 8 = .ok (.astore_n 2, 1) := by decide +kernel
theorem dX9_veneers_9 : decode cX9_veneers 9 = .ok (.aload_n 2, 1) := by decide +kernel
theorem dX9_veneers_10 : decode cX9_veneers 10 = .ok (.ifnonnull 6, 3) := by decide +kernel
theorem dX9_veneers_13 : decode cX9_veneers 13 = .ok (.bipush (-101), 2) := by decide +kernel
theorem dX9_veneers_15 : decode cX9_veneers 15 = .ok (.ireturn, 1) := by decide +kernel
theorem dX9_veneers_16 : decode cX9_veneers 16 = .ok (.aload_n 0, 1) := by decide +kernel
theorem dX9_veneers_17 : decode cX9_veneers 17 = .ok (.getfield 190, 3) := by decide +kernel
theorem dX9_veneers_20 : decode cX9_veneers 20 = .ok (.ifCond .eq 10, 3) := by decide +kernel
theorem dX9_veneers_23 : decode cX9_veneers 23 = .ok (.aload_n 2, 1) := by decide +kernel
theorem dX9_veneers_24 : decode cX9_veneers 24 = .ok (.getfield 270, 3) := by decide +kernel
theorem dX9_veneers_27 : decode cX9_veneers 27 = .ok (.goto 5, 3) := by decide +kernel
theorem dX9_veneers_30 : decode cX9_veneers 30 = .ok (.bipush (-103), 2) := by decide +kernel
theorem dX9_veneers_32 : decode cX9_veneers 32 = .ok (.ireturn, 1) := by decide +kernel
theorem dX9_count_0 : decode cX9_count 0 = .ok (.iload_n 1, 1) := by decide +kernel
theorem dX9_count_1 : decode cX9_count 1 = .ok (.tableswitch 179 0 8 #[51, 59, 70, 81, 92, 100, 122, 141, 160], 51) := by decide +kernel
theorem dX9_count_52 : decode cX9_count 52 = .ok (.aload_n 0, 1) := by decide +kernel
theorem dX9_count_53 : decode cX9_count 53 = .ok (.getfield 10, 3) := by decide +kernel
theorem dX9_count_56 : decode cX9_count 56 = .ok (.getfield 48, 3) := by decide +kernel
theorem dX9_count_59 : decode cX9_count 59 = .ok (.ireturn, 1) := by decide +kernel
theorem dX9_count_60 : decode cX9_count 60 = .ok (.aload_n 0, 1) := by decide +kernel
theorem dX9_count_61 : decode cX9_count 61 = .ok (.getfield 10, 3) := by decide +kernel
theorem dX9_count_64 : decode cX9_count 64 = .ok (.getfield 62, 3) := by decide +kernel
theorem dX9_count_67 : decode cX9_count 67 = .ok (.invokevirtual 66, 3) := by decide +kernel
theorem dX9_count_70 : decode cX9_count 70 = .ok (.ireturn, 1) := by decide +kernel
theorem dX9_count_71 : decode cX9_count 71 = .ok (.aload_n 0, 1) := by decide +kernel
theorem dX9_count_72 : decode cX9_count 72 = .ok (.getfield 10, 3) := by decide +kernel
theorem dX9_count_75 : decode cX9_count 75 = .ok (.getfield 119, 3) := by decide +kernel
theorem dX9_count_78 : decode cX9_count 78 = .ok (.invokevirtual 66, 3) := by decide +kernel
theorem dX9_count_81 : decode cX9_count 81 = .ok (.ireturn, 1) := by decide +kernel
theorem dX9_count_82 : decode cX9_count 82 = .ok (.aload_n 0, 1) := by decide +kernel
theorem dX9_count_83 : decode cX9_count 83 = .ok (.getfield 10, 3) := by decide +kernel
theorem dX9_count_86 : decode cX9_count 86 = .ok (.getfield 145, 3) := by decide +kernel
theorem dX9_count_89 : decode cX9_count 89 = .ok (.invokevirtual 66, 3) := by decide +kernel
theorem dX9_count_92 : decode cX9_count 92 = .ok (.ireturn, 1) := by decide +kernel
theorem dX9_count_93 : decode cX9_count 93 = .ok (.aload_n 0, 1) := by decide +kernel
theorem dX9_count_94 : decode cX9_count 94 = .ok (.getfield 10, 3) := by decide +kernel
theorem dX9_count_97 : decode cX9_count 97 = .ok (.getfield 157, 3) := by decide +kernel
theorem dX9_count_100 : decode cX9_count 100 = .ok (.ireturn, 1) := by decide +kernel
theorem dX9_count_101 : decode cX9_count 101 = .ok (.aload_n 0, 1) := by decide +kernel
theorem dX9_count_102 : decode cX9_count 102 = .ok (.getfield 176, 3) := by decide +kernel
theorem dX9_count_105 : decode cX9_count 105 = .ok (.ifCond .eq 16, 3) := by decide +kernel
theorem dX9_count_108 : decode cX9_count 108 = .ok (.aload_n 0, 1) := by decide +kernel
theorem dX9_count_109 : decode cX9_count 109 = .ok (.getfield 26, 3) := by decide +kernel
theorem dX9_count_112 : decode cX9_count 112 = .ok (.getfield 273, 3) := by decide +kernel
theorem dX9_count_115 : decode cX9_count 115 = .ok (.invokevirtual 66, 3) := by decide +kernel
theorem dX9_count_118 : decode cX9_count 118 = .ok (.goto 4, 3) := by decide +kernel
theorem dX9_count_121 : decode cX9_count 121 = .ok (.iconst 0, 1) := by decide +kernel
theorem dX9_count_122 : decode cX9_count 122 = .ok (.ireturn, 1) := by decide +kernel
theorem dX9_count_123 : decode cX9_count 123 = .ok (.aload_n 0, 1) := by decide +kernel
theorem dX9_count_124 : decode cX9_count 124 = .ok (.getfield 176, 3) := by decide +kernel
theorem dX9_count_127 : decode cX9_count 127 = .ok (.ifCond .eq 13, 3) := by decide +kernel
theorem dX9_count_130 : decode cX9_count 130 = .ok (.aload_n 0, 1) := by decide +kernel
theorem dX9_count_131 : decode cX9_count 131 = .ok (.getfield 33, 3) := by decide +kernel
theorem dX9_count_134 : decode cX9_count 134 = .ok (.getfield 276, 3) := by decide +kernel
theorem dX9_count_137 : decode cX9_count 137 = .ok (.goto 4, 3) := by decide +kernel
theorem dX9_count_140 : decode cX9_count 140 = .ok (.iconst 0, 1) := by decide +kernel
theorem dX9_count_141 : decode cX9_count 141 = .ok (.ireturn, 1) := by decide +kernel
theorem dX9_count_142 : decode cX9_count 142 = .ok (.aload_n 0, 1) := by decide +kernel
theorem dX9_count_143 : decode cX9_count 143 = .ok (.getfield 190, 3) := by decide +kernel
theorem dX9_count_146 : decode cX9_count 146 = .ok (.ifCond .eq 13, 3) := by decide +kernel
theorem dX9_count_149 : decode cX9_count 149 = .ok (.aload_n 0, 1) := by decide +kernel
theorem dX9_count_150 : decode cX9_count 150 = .ok (.getfield 40, 3) := by decide +kernel
theorem dX9_count_153 : decode cX9_count 153 = .ok (.getfield 279, 3) := by decide +kernel
theorem dX9_count_156 : decode cX9_count 156 = .ok (.goto 4, 3) := by decide +kernel
theorem dX9_count_159 : decode cX9_count 159 = .ok (.iconst 0, 1) := by decide +kernel
theorem dX9_count_160 : decode cX9_count 160 = .ok (.ireturn, 1) := by decide +kernel
theorem dX9_count_161 : decode cX9_count 161 = .ok (.aload_n 0, 1) := by decide +kernel
theorem dX9_count_162 : decode cX9_count 162 = .ok (.getfield 190, 3) := by decide +kernel
theorem dX9_count_165 : decode cX9_count 165 = .ok (.ifCond .eq 13, 3) := by decide +kernel
theorem dX9_count_168 : decode cX9_count 168 = .ok (.aload_n 0, 1) := by decide +kernel
theorem dX9_count_169 : decode cX9_count 169 = .ok (.getfield 40, 3) := by decide +kernel
theorem dX9_count_172 : decode cX9_count 172 = .ok (.getfield 282, 3) := by decide +kernel
theorem dX9_count_175 : decode cX9_count 175 = .ok (.goto 4, 3) := by decide +kernel
theorem dX9_count_178 : decode cX9_count 178 = .ok (.iconst 0, 1) := by decide +kernel
theorem dX9_count_179 : decode cX9_count 179 = .ok (.ireturn, 1) := by decide +kernel
theorem dX9_count_180 : decode cX9_count 180 = .ok (.bipush (-102), 2) := by decide +kernel
theorem dX9_count_182 : decode cX9_count 182 = .ok (.ireturn, 1) := by decide +kernel
theorem dX9_forgetLink_0 : decode cX9_forgetLink 0 = .ok (.aload_n 0, 1) := by decide +kernel
theorem dX9_forgetLink_1 : decode cX9_forgetLink 1 = .ok (.iconst 0, 1) := by decide +kernel
theorem dX9_forgetLink_2 : decode cX9_forgetLink 2 = .ok (.putfield 176, 3) := by decide +kernel
theorem dX9_forgetLink_5 : decode cX9_forgetLink 5 = .ok (.aload_n 0, 1) := by decide +kernel
theorem dX9_forgetLink_6 : decode cX9_forgetLink 6 = .ok (.iconst 0, 1) := by decide +kernel
theorem dX9_forgetLink_7 : decode cX9_forgetLink 7 = .ok (.putfield 190, 3) := by decide +kernel
theorem dX9_forgetLink_10 : decode cX9_forgetLink 10 = .ok (.aload_n 0, 1) := by decide +kernel
theorem dX9_forgetLink_11 : decode cX9_forgetLink 11 = .ok (.iconst (-1), 1) := by decide +kernel
theorem dX9_forgetLink_12 : decode cX9_forgetLink 12 = .ok (.putfield 44, 3) := by decide +kernel
theorem dX9_forgetLink_15 : decode cX9_forgetLink 15 = .ok (.return_, 1) := by decide +kernel
theorem dX9_faultBeforePlacing_0 : decode cX9_faultBeforePlacing 0 = .ok (.aload_n 0, 1) := by decide +kernel
theorem dX9_faultBeforePlacing_1 : decode cX9_faultBeforePlacing 1 = .ok (.aload_n 0, 1) := by decide +kernel
theorem dX9_faultBeforePlacing_2 : decode cX9_faultBeforePlacing 2 = .ok (.getfield 19, 3) := by decide +kernel
theorem dX9_faultBeforePlacing_5 : decode cX9_faultBeforePlacing 5 = .ok (.aload_n 0, 1) := by decide +kernel
theorem dX9_faultBeforePlacing_6 : decode cX9_faultBeforePlacing 6 = .ok (.getfield 10, 3) := by decide +kernel
theorem dX9_faultBeforePlacing_9 : decode cX9_faultBeforePlacing 9 = .ok (.invokevirtual 285, 3) := by decide +kernel
theorem dX9_faultBeforePlacing_12 : decode cX9_faultBeforePlacing 12 = .ok (.putfield 44, 3) := by decide +kernel
theorem dX9_faultBeforePlacing_15 : decode cX9_faultBeforePlacing 15 = .ok (.aload_n 0, 1) := by decide +kernel
theorem dX9_faultBeforePlacing_16 : decode cX9_faultBeforePlacing 16 = .ok (.getfield 44, 3) := by decide +kernel
theorem dX9_faultBeforePlacing_19 : decode cX9_faultBeforePlacing 19 = .ok (.iconst (-1), 1) := by decide +kernel
theorem dX9_faultBeforePlacing_20 : decode cX9_faultBeforePlacing 20 = .ok (.if_icmp .eq 5, 3) := by decide +kernel
theorem dX9_faultBeforePlacing_23 : decode cX9_faultBeforePlacing 23 = .ok (.iconst 2, 1) := by decide +kernel
theorem dX9_faultBeforePlacing_24 : decode cX9_faultBeforePlacing 24 = .ok (.ireturn, 1) := by decide +kernel
theorem dX9_faultBeforePlacing_25 : decode cX9_faultBeforePlacing 25 = .ok (.aload_n 0, 1) := by decide +kernel
theorem dX9_faultBeforePlacing_26 : decode cX9_faultBeforePlacing 26 = .ok (.aload_n 0, 1) := by decide +kernel
theorem dX9_faultBeforePlacing_27 : decode cX9_faultBeforePlacing 27 = .ok (.getfield 26, 3) := by decide +kernel
theorem dX9_faultBeforePlacing_30 : decode cX9_faultBeforePlacing 30 = .ok (.aload_n 0, 1) := by decide +kernel
theorem dX9_faultBeforePlacing_31 : decode cX9_faultBeforePlacing 31 = .ok (.getfield 10, 3) := by decide +kernel
theorem dX9_faultBeforePlacing_34 : decode cX9_faultBeforePlacing 34 = .ok (.getfield 145, 3) := by decide +kernel
theorem dX9_faultBeforePlacing_37 : decode cX9_faultBeforePlacing 37 = .ok (.invokevirtual 288, 3) := by decide +kernel
theorem dX9_faultBeforePlacing_40 : decode cX9_faultBeforePlacing 40 = .ok (.putfield 44, 3) := by decide +kernel
theorem dX9_faultBeforePlacing_43 : decode cX9_faultBeforePlacing 43 = .ok (.aload_n 0, 1) := by decide +kernel
theorem dX9_faultBeforePlacing_44 : decode cX9_faultBeforePlacing 44 = .ok (.getfield 44, 3) := by decide +kernel
theorem dX9_faultBeforePlacing_47 : decode cX9_faultBeforePlacing 47 = .ok (.iconst (-1), 1) := by decide +kernel
theorem dX9_faultBeforePlacing_48 : decode cX9_faultBeforePlacing 48 = .ok (.if_icmp .eq 5, 3) := by decide +kernel
theorem dX9_faultBeforePlacing_51 : decode cX9_faultBeforePlacing 51 = .ok (.iconst 3, 1) := by decide +kernel
theorem dX9_faultBeforePlacing_52 : decode cX9_faultBeforePlacing 52 = .ok (.ireturn, 1) := by decide +kernel
theorem dX9_faultBeforePlacing_53 : decode cX9_faultBeforePlacing 53 = .ok (.aload_n 0, 1) := by decide +kernel
theorem dX9_faultBeforePlacing_54 : decode cX9_faultBeforePlacing 54 = .ok (.aload_n 0, 1) := by decide +kernel
theorem dX9_faultBeforePlacing_55 : decode cX9_faultBeforePlacing 55 = .ok (.getfield 26, 3) := by decide +kernel
theorem dX9_faultBeforePlacing_58 : decode cX9_faultBeforePlacing 58 = .ok (.aload_n 0, 1) := by decide +kernel
theorem dX9_faultBeforePlacing_59 : decode cX9_faultBeforePlacing 59 = .ok (.getfield 10, 3) := by decide +kernel
theorem dX9_faultBeforePlacing_62 : decode cX9_faultBeforePlacing 62 = .ok (.getfield 145, 3) := by decide +kernel
theorem dX9_faultBeforePlacing_65 : decode cX9_faultBeforePlacing 65 = .ok (.invokevirtual 292, 3) := by decide +kernel
theorem dX9_faultBeforePlacing_68 : decode cX9_faultBeforePlacing 68 = .ok (.putfield 44, 3) := by decide +kernel
theorem dX9_faultBeforePlacing_71 : decode cX9_faultBeforePlacing 71 = .ok (.aload_n 0, 1) := by decide +kernel
theorem dX9_faultBeforePlacing_72 : decode cX9_faultBeforePlacing 72 = .ok (.getfield 44, 3) := by decide +kernel
theorem dX9_faultBeforePlacing_75 : decode cX9_faultBeforePlacing 75 = .ok (.iconst (-1), 1) := by decide +kernel
theorem dX9_faultBeforePlacing_76 : decode cX9_faultBeforePlacing 76 = .ok (.if_icmp .eq 7, 3) := by decide +kernel
theorem dX9_faultBeforePlacing_79 : decode cX9_faultBeforePlacing 79 = .ok (.iconst 4, 1) := by decide +kernel
theorem dX9_faultBeforePlacing_80 : decode cX9_faultBeforePlacing 80 = .ok (.goto 4, 3) := by decide +kernel
theorem dX9_faultBeforePlacing_83 : decode cX9_faultBeforePlacing 83 = .ok (.iconst 0, 1) := by decide +kernel
theorem dX9_faultBeforePlacing_84 : decode cX9_faultBeforePlacing 84 = .ok (.ireturn, 1) := by decide +kernel
theorem dX9_faultOfPlaces_0 : decode cX9_faultOfPlaces 0 = .ok (.aload_n 0, 1) := by decide +kernel
theorem dX9_faultOfPlaces_1 : decode cX9_faultOfPlaces 1 = .ok (.aload_n 0, 1) := by decide +kernel
theorem dX9_faultOfPlaces_2 : decode cX9_faultOfPlaces 2 = .ok (.getfield 40, 3) := by decide +kernel
theorem dX9_faultOfPlaces_5 : decode cX9_faultOfPlaces 5 = .ok (.invokevirtual 295, 3) := by decide +kernel
theorem dX9_faultOfPlaces_8 : decode cX9_faultOfPlaces 8 = .ok (.putfield 44, 3) := by decide +kernel
theorem dX9_faultOfPlaces_11 : decode cX9_faultOfPlaces 11 = .ok (.aload_n 0, 1) := by decide +kernel
theorem dX9_faultOfPlaces_12 : decode cX9_faultOfPlaces 12 = .ok (.getfield 44, 3) := by decide +kernel
theorem dX9_faultOfPlaces_15 : decode cX9_faultOfPlaces 15 = .ok (.iconst (-1), 1) := by decide +kernel
theorem dX9_faultOfPlaces_16 : decode cX9_faultOfPlaces 16 = .ok (.if_icmp .eq 5, 3) := by decide +kernel
theorem dX9_faultOfPlaces_19 : decode cX9_faultOfPlaces 19 = .ok (.iconst 5, 1) := by decide +kernel
theorem dX9_faultOfPlaces_20 : decode cX9_faultOfPlaces 20 = .ok (.ireturn, 1) := by decide +kernel
theorem dX9_faultOfPlaces_21 : decode cX9_faultOfPlaces 21 = .ok (.aload_n 0, 1) := by decide +kernel
theorem dX9_faultOfPlaces_22 : decode cX9_faultOfPlaces 22 = .ok (.aload_n 0, 1) := by decide +kernel
theorem dX9_faultOfPlaces_23 : decode cX9_faultOfPlaces 23 = .ok (.getfield 40, 3) := by decide +kernel
theorem dX9_faultOfPlaces_26 : decode cX9_faultOfPlaces 26 = .ok (.aload_n 0, 1) := by decide +kernel
theorem dX9_faultOfPlaces_27 : decode cX9_faultOfPlaces 27 = .ok (.getfield 10, 3) := by decide +kernel
theorem dX9_faultOfPlaces_30 : decode cX9_faultOfPlaces 30 = .ok (.getfield 145, 3) := by decide +kernel
theorem dX9_faultOfPlaces_33 : decode cX9_faultOfPlaces 33 = .ok (.invokevirtual 298, 3) := by decide +kernel
theorem dX9_faultOfPlaces_36 : decode cX9_faultOfPlaces 36 = .ok (.putfield 44, 3) := by decide +kernel
theorem dX9_faultOfPlaces_39 : decode cX9_faultOfPlaces 39 = .ok (.aload_n 0, 1) := by decide +kernel
theorem dX9_faultOfPlaces_40 : decode cX9_faultOfPlaces 40 = .ok (.getfield 44, 3) := by decide +kernel
theorem dX9_faultOfPlaces_43 : decode cX9_faultOfPlaces 43 = .ok (.iconst (-1), 1) := by decide +kernel
theorem dX9_faultOfPlaces_44 : decode cX9_faultOfPlaces 44 = .ok (.if_icmp .eq 8, 3) := by decide +kernel
theorem dX9_faultOfPlaces_47 : decode cX9_faultOfPlaces 47 = .ok (.bipush 6, 2) := by decide +kernel
theorem dX9_faultOfPlaces_49 : decode cX9_faultOfPlaces 49 = .ok (.goto 4, 3) := by decide +kernel
theorem dX9_faultOfPlaces_52 : decode cX9_faultOfPlaces 52 = .ok (.iconst 0, 1) := by decide +kernel
theorem dX9_faultOfPlaces_53 : decode cX9_faultOfPlaces 53 = .ok (.ireturn, 1) := by decide +kernel
theorem dX9_isWithin_0 : decode cX9_isWithin 0 = .ok (.iload_n 0, 1) := by decide +kernel
theorem dX9_isWithin_1 : decode cX9_isWithin 1 = .ok (.iload_n 1, 1) := by decide +kernel
theorem dX9_isWithin_2 : decode cX9_isWithin 2 = .ok (.if_icmp .lt 12, 3) := by decide +kernel
theorem dX9_isWithin_5 : decode cX9_isWithin 5 = .ok (.iload_n 0, 1) := by decide +kernel
theorem dX9_isWithin_6 : decode cX9_isWithin 6 = .ok (.iload_n 2, 1) := by decide +kernel
theorem dX9_isWithin_7 : decode cX9_isWithin 7 = .ok (.if_icmp .gt 7, 3) := by decide +kernel
theorem dX9_isWithin_10 : decode cX9_isWithin 10 = .ok (.iconst 1, 1) := by decide +kernel
theorem dX9_isWithin_11 : decode cX9_isWithin 11 = .ok (.goto 4, 3) := by decide +kernel
theorem dX9_isWithin_14 : decode cX9_isWithin 14 = .ok (.iconst 0, 1) := by decide +kernel
theorem dX9_isWithin_15 : decode cX9_isWithin 15 = .ok (.ireturn, 1) := by decide +kernel
theorem dX9_isMark_0 : decode cX9_isMark 0 = .ok (.iload_n 0, 1) := by decide +kernel
theorem dX9_isMark_1 : decode cX9_isMark 1 = .ok (.tableswitch 50 0 2 #[27, 34, 42], 27) := by decide +kernel
theorem dX9_isMark_28 : decode cX9_isMark 28 = .ok (.iload_n 1, 1) := by decide +kernel
theorem dX9_isMark_29 : decode cX9_isMark 29 = .ok (.iconst 0, 1) := by decide +kernel
theorem dX9_isMark_30 : decode cX9_isMark 30 = .ok (.iconst 1, 1) := by decide +kernel
theorem dX9_isMark_31 : decode cX9_isMark 31 = .ok (.invokestatic 58, 3) := by decide +kernel
theorem dX9_isMark_34 : decode cX9_isMark 34 = .ok (.ireturn, 1) := by decide +kernel
theorem dX9_isMark_35 : decode cX9_isMark 35 = .ok (.iload_n 1, 1) := by decide +kernel
theorem dX9_isMark_36 : decode cX9_isMark 36 = .ok (.iconst (-1), 1) := by decide +kernel
theorem dX9_isMark_37 : decode cX9_isMark 37 = .ok (.bipush 7, 2) := by decide +kernel
theorem dX9_isMark_39 : decode cX9_isMark 39 = .ok (.invokestatic 58, 3) := by decide +kernel
theorem dX9_isMark_42 : decode cX9_isMark 42 = .ok (.ireturn, 1) := by decide +kernel
theorem dX9_isMark_43 : decode cX9_isMark 43 = .ok (.iload_n 1, 1) := by decide +kernel
theorem dX9_isMark_44 : decode cX9_isMark 44 = .ok (.iconst (-1), 1) := by decide +kernel
theorem dX9_isMark_45 : decode cX9_isMark 45 = .ok (.bipush 15, 2) := by decide +kernel
theorem dX9_isMark_47 : decode cX9_isMark 47 = .ok (.invokestatic 58, 3) := by decide +kernel
theorem dX9_isMark_50 : decode cX9_isMark 50 = .ok (.ireturn, 1) := by decide +kernel
theorem dX9_isMark_51 : decode cX9_isMark 51 = .ok (.iconst 0, 1) := by decide +kernel
theorem dX9_isMark_52 : decode cX9_isMark 52 = .ok (.ireturn, 1) := by decide +kernel
theorem dX9_isSortFor_0 : decode cX9_isSortFor 0 = .ok (.iload_n 0, 1) := by decide +kernel
theorem dX9_isSortFor_1 : decode cX9_isSortFor 1 = .ok (.ifCond .lt 10, 3) := by decide +kernel
theorem dX9_isSortFor_4 : decode cX9_isSortFor 4 = .ok (.iload_n 1, 1) := by decide +kernel
theorem dX9_isSortFor_5 : decode cX9_isSortFor 5 = .ok (.iconst 0, 1) := by decide +kernel
theorem dX9_isSortFor_6 : decode cX9_isSortFor 6 = .ok (.iconst 2, 1) := by decide +kernel
theorem dX9_isSortFor_7 : decode cX9_isSortFor 7 = .ok (.invokestatic 58, 3) := by decide +kernel
theorem dX9_isSortFor_10 : decode cX9_isSortFor 10 = .ok (.ireturn, 1) := by decide +kernel
theorem dX9_isSortFor_11 : decode cX9_isSortFor 11 = .ok (.iload_n 0, 1) := by decide +kernel
theorem dX9_isSortFor_12 : decode cX9_isSortFor 12 = .ok (.iconst (-1), 1) := by decide +kernel
theorem dX9_isSortFor_13 : decode cX9_isSortFor 13 = .ok (.if_icmp .ne 12, 3) := by decide +kernel
theorem dX9_isSortFor_16 : decode cX9_isSortFor 16 = .ok (.iload_n 1, 1) := by decide +kernel
theorem dX9_isSortFor_17 : decode cX9_isSortFor 17 = .ok (.iconst 1, 1) := by decide +kernel
theorem dX9_isSortFor_18 : decode cX9_isSortFor 18 = .ok (.iconst 2, 1) := by decide +kernel
theorem dX9_isSortFor_19 : decode cX9_isSortFor 19 = .ok (.invokestatic 58, 3) := by decide +kernel
theorem dX9_isSortFor_22 : decode cX9_isSortFor 22 = .ok (.goto 12, 3) := by decide +kernel
theorem dX9_isSortFor_25 : decode cX9_isSortFor 25 = .ok (.iload_n 1, 1) := by decide +kernel
theorem dX9_isSortFor_26 : decode cX9_isSortFor 26 = .ok (.ifCond .ne 7, 3) := by decide +kernel
theorem dX9_isSortFor_29 : decode cX9_isSortFor 29 = .ok (.iconst 1, 1) := by decide +kernel
theorem dX9_isSortFor_30 : decode cX9_isSortFor 30 = .ok (.goto 4, 3) := by decide +kernel
theorem dX9_isSortFor_33 : decode cX9_isSortFor 33 = .ok (.iconst 0, 1) := by decide +kernel
theorem dX9_isSortFor_34 : decode cX9_isSortFor 34 = .ok (.ireturn, 1) := by decide +kernel
theorem dX9_typeAt_0 : decode cX9_typeAt 0 = .ok (.iload_n 0, 1) := by decide +kernel
theorem dX9_typeAt_1 : decode cX9_typeAt 1 = .ok (.iconst 0, 1) := by decide +kernel
theorem dX9_typeAt_2 : decode cX9_typeAt 2 = .ok (.getstatic 301, 3) := by decide +kernel
theorem dX9_typeAt_5 : decode cX9_typeAt 5 = .ok (.arraylength, 1) := by decide +kernel
theorem dX9_typeAt_6 : decode cX9_typeAt 6 = .ok (.iconst 1, 1) := by decide +kernel
theorem dX9_typeAt_7 : decode cX9_typeAt 7 = .ok (.isub, 1) := by decide +kernel
theorem dX9_typeAt_8 : decode cX9_typeAt 8 = .ok (.invokestatic 58, 3) := by decide +kernel
theorem dX9_typeAt_11 : decode cX9_typeAt 11 = .ok (.ifCond .eq 11, 3) := by decide +kernel
theorem dX9_typeAt_14 : decode cX9_typeAt 14 = .ok (.getstatic 301, 3) := by decide +kernel
theorem dX9_typeAt_17 : decode cX9_typeAt 17 = .ok (.iload_n 0, 1) := by decide +kernel
theorem dX9_typeAt_18 : decode cX9_typeAt 18 = .ok (.aaload, 1) := by decide +kernel
theorem dX9_typeAt_19 : decode cX9_typeAt 19 = .ok (.goto 4, 3) := by decide +kernel
theorem dX9_typeAt_22 : decode cX9_typeAt 22 = .ok (.aconst_null, 1) := by decide +kernel
theorem dX9_typeAt_23 : decode cX9_typeAt 23 = .ok (.areturn, 1) := by decide +kernel
theorem dX9_numberOf_0 : decode cX9_numberOf 0 = .ok (.aload_n 0, 1) := by decide +kernel
theorem dX9_numberOf_1 : decode cX9_numberOf 1 = .ok (.ifnonnull 7, 3) := by decide +kernel
theorem dX9_numberOf_4 : decode cX9_numberOf 4 = .ok (.iconst (-1), 1) := by decide +kernel
theorem dX9_numberOf_5 : decode cX9_numberOf 5 = .ok (.goto 7, 3) := by decide +kernel
theorem dX9_numberOf_8 : decode cX9_numberOf 8 = .ok (.aload_n 0, 1) := by decide +kernel
theorem dX9_numberOf_9 : decode cX9_numberOf 9 = .ok (.getfield 85, 3) := by decide +kernel
theorem dX9_numberOf_12 : decode cX9_numberOf 12 = .ok (.ireturn, 1) := by decide +kernel
theorem dX10_thrown_0 : decode cX10_thrown 0 = .ok (.aload_n 0, 1) := by decide +kernel
theorem dX10_thrown_1 : decode cX10_thrown 1 = .ok (.getfield 1, 3) := by decide +kernel
theorem dX10_thrown_4 : decode cX10_thrown 4 = .ok (.ireturn, 1) := by decide +kernel
theorem dX10_init_0 : decode cX10_init 0 = .ok (.aload_n 0, 1) := by decide +kernel
theorem dX10_init_1 : decode cX10_init 1 = .ok (.invokespecial 7, 3) := by decide +kernel
theorem dX10_init_4 : decode cX10_init 4 = .ok (.aload_n 0, 1) := by decide +kernel
theorem dX10_init_5 : decode cX10_init 5 = .ok (.bipush 60, 2) := by decide +kernel
theorem dX10_init_7 : decode cX10_init 7 = .ok (.newarray .int, 2) := by decide +kernel
theorem dX10_init_9 : decode cX10_init 9 = .ok (.putfield 13, 3) := by decide +kernel
theorem dX10_init_12 : decode cX10_init 12 = .ok (.aload_n 0, 1) := by decide +kernel
theorem dX10_init_13 : decode cX10_init 13 = .ok (.bipush 60, 2) := by decide +kernel
theorem dX10_init_15 : decode cX10_init 15 = .ok (.newarray .int, 2) := by decide +kernel
theorem dX10_init_17 : decode cX10_init 17 = .ok (.putfield 17, 3) := by decide +kernel
theorem dX10_init_20 : decode cX10_init 20 = .ok (.aload_n 0, 1) := by decide +kernel
theorem dX10_init_21 : decode cX10_init 21 = .ok (.bipush 60, 2) := by decide +kernel
theorem dX10_init_23 : decode cX10_init 23 = .ok (.newarray .int, 2) := by decide +kernel
theorem dX10_init_25 : decode cX10_init 25 = .ok (.putfield 20, 3) := by decide +kernel
theorem dX10_init_28 : decode cX10_init 28 = .ok (.aload_n 0, 1) := by decide +kernel
theorem dX10_init_29 : decode cX10_init 29 = .ok (.bipush 60, 2) := by decide +kernel
theorem dX10_init_31 : decode cX10_init 31 = .ok (.newarray .int, 2) := by decide +kernel
theorem dX10_init_33 : decode cX10_init 33 = .ok (.putfield 23, 3) := by decide +kernel
theorem dX10_init_36 : decode cX10_init 36 = .ok (.aload_n 0, 1) := by decide +kernel
theorem dX10_init_37 : decode cX10_init 37 = .ok (.bipush 60, 2) := by decide +kernel
theorem dX10_init_39 : decode cX10_init 39 = .ok (.newarray .int, 2) := by decide +kernel
theorem dX10_init_41 : decode cX10_init 41 = .ok (.putfield 26, 3) := by decide +kernel
theorem dX10_init_44 : decode cX10_init 44 = .ok (.aload_n 0, 1) := by decide +kernel
theorem dX10_init_45 : decode cX10_init 45 = .ok (.bipush 60, 2) := by decide +kernel
theorem dX10_init_47 : decode cX10_init 47 = .ok (.newarray .boolean, 2) := by decide +kernel
theorem dX10_init_49 : decode cX10_init 49 = .ok (.putfield 29, 3) := by decide +kernel
theorem dX10_init_52 : decode cX10_init 52 = .ok (.aload_n 0, 1) := by decide +kernel
theorem dX10_init_53 : decode cX10_init 53 = .ok (.bipush 60, 2) := by decide +kernel
theorem dX10_init_55 : decode cX10_init 55 = .ok (.newarray .int, 2) := by decide +kernel
theorem dX10_init_57 : decode cX10_init 57 = .ok (.putfield 33, 3) := by decide +kernel
theorem dX10_init_60 : decode cX10_init 60 = .ok (.aload_n 0, 1) := by decide +kernel
theorem dX10_init_61 : decode cX10_init 61 = .ok (.bipush 60, 2) := by decide +kernel
theorem dX10_init_63 : decode cX10_init 63 = .ok (.newarray .int, 2) := by decide +kernel
theorem dX10_init_65 : decode cX10_init 65 = .ok (.putfield 36, 3) := by decide +kernel
theorem dX10_init_68 : decode cX10_init 68 = .ok (.aload_n 0, 1) := by decide +kernel
theorem dX10_init_69 : decode cX10_init 69 = .ok (.ldc 39, 2) := by decide +kernel
theorem dX10_init_71 : decode cX10_init 71 = .ok (.newarray .int, 2) := by decide +kernel
theorem dX10_init_73 : decode cX10_init 73 = .ok (.putfield 40, 3) := by decide +kernel
theorem dX10_init_76 : decode cX10_init 76 = .ok (.aload_n 0, 1) := by decide +kernel
theorem dX10_init_77 : decode cX10_init 77 = .ok (.bipush 120, 2) := by decide +kernel
theorem dX10_init_79 : decode cX10_init 79 = .ok (.newarray .int, 2) := by decide +kernel
theorem dX10_init_81 : decode cX10_init 81 = .ok (.putfield 43, 3) := by decide +kernel
theorem dX10_init_84 : decode cX10_init 84 = .ok (.aload_n 0, 1) := by decide +kernel
theorem dX10_init_85 : decode cX10_init 85 = .ok (.bipush 120, 2) := by decide +kernel
theorem dX10_init_87 : decode cX10_init 87 = .ok (.newarray .int, 2) := by decide +kernel
theorem dX10_init_89 : decode cX10_init 89 = .ok (.putfield 46, 3) := by decide +kernel
theorem dX10_init_92 : decode cX10_init 92 = .ok (.aload_n 0, 1) := by decide +kernel
theorem dX10_init_93 : decode cX10_init 93 = .ok (.bipush 120, 2) := by decide +kernel
theorem dX10_init_95 : decode cX10_init 95 = .ok (.newarray .int, 2) := by decide +kernel
theorem dX10_init_97 : decode cX10_init 97 = .ok (.putfield 49, 3) := by decide +kernel
theorem dX10_init_100 : decode cX10_init 100 = .ok (.aload_n 0, 1) := by decide +kernel
theorem dX10_init_101 : decode cX10_init 101 = .ok (.bipush 120, 2) := by decide +kernel
theorem dX10_init_103 : decode cX10_init 103 = .ok (.newarray .int, 2) := by decide +kernel
theorem dX10_init_105 : decode cX10_init 105 = .ok (.putfield 52, 3) := by decide +kernel
theorem dX10_init_108 : decode cX10_init 108 = .ok (.aload_n 0, 1) := by decide +kernel
theorem dX10_init_109 : decode cX10_init 109 = .ok (.bipush 120, 2) := by decide +kernel
theorem dX10_init_111 : decode cX10_init 111 = .ok (.newarray .int, 2) := by decide +kernel
theorem dX10_init_113 : decode cX10_init 113 = .ok (.putfield 55, 3) := by decide +kernel
theorem dX10_init_116 : decode cX10_init 116 = .ok (.aload_n 0, 1) := by decide +kernel
theorem dX10_init_117 : decode cX10_init 117 = .ok (.sipush 200, 3) := by decide +kernel
theorem dX10_init_120 : decode cX10_init 120 = .ok (.newarray .int, 2) := by decide +kernel
theorem dX10_init_122 : decode cX10_init 122 = .ok (.putfield 58, 3) := by decide +kernel
theorem dX10_init_125 : decode cX10_init 125 = .ok (.aload_n 0, 1) := by decide +kernel
theorem dX10_init_126 : decode cX10_init 126 = .ok (.sipush 200, 3) := by decide +kernel
theorem dX10_init_129 : decode cX10_init 129 = .ok (.newarray .int, 2) := by decide +kernel
theorem dX10_init_131 : decode cX10_init 131 = .ok (.putfield 61, 3) := by decide +kernel
theorem dX10_init_134 : decode cX10_init 134 = .ok (.aload_n 0, 1) := by decide +kernel
theorem dX10_init_135 : decode cX10_init 135 = .ok (.sipush 200, 3) := by decide +kernel
theorem dX10_init_138 : decode cX10_init 138 = .ok (.newarray .int, 2) := by decide +kernel
theorem dX10_init_140 : decode cX10_init 140 = .ok (.putfield 64, 3) := by decide +kernel
theorem dX10_init_143 : decode cX10_init 143 = .ok (.aload_n 0, 1) := by decide +kernel
theorem dX10_init_144 : decode cX10_init 144 = .ok (.sipush 200, 3) := by decide +kernel
theorem dX10_init_147 : decode cX10_init 147 = .ok (.newarray .int, 2) := by decide +kernel
theorem dX10_init_149 : decode cX10_init 149 = .ok (.putfield 67, 3) := by decide +kernel
theorem dX10_init_152 : decode cX10_init 152 = .ok (.aload_n 0, 1) := by decide +kernel
theorem dX10_init_153 : decode cX10_init 153 = .ok (.sipush 200, 3) := by decide +kernel
theorem dX10_init_156 : decode cX10_init 156 = .ok (.newarray .int, 2) := by decide +kernel
theorem dX10_init_158 : decode cX10_init 158 = .ok (.putfield 70, 3) := by decide +kernel
theorem dX10_init_161 : decode cX10_init 161 = .ok (.aload_n 0, 1) := by decide +kernel
theorem dX10_init_162 : decode cX10_init 162 = .ok (.bipush 8, 2) := by decide +kernel
theorem dX10_init_164 : decode cX10_init 164 = .ok (.newarray .int, 2) := by decide +kernel
theorem dX10_init_166 : decode cX10_init 166 = .ok (.putfield 73, 3) := by decide +kernel
theorem dX10_init_169 : decode cX10_init 169 = .ok (.aload_n 0, 1) := by decide +kernel
theorem dX10_init_170 : decode cX10_init 170 = .ok (.iconst 4, 1) := by decide +kernel
theorem dX10_init_171 : decode cX10_init 171 = .ok (.newarray .long, 2) := by decide +kernel
theorem dX10_init_173 : decode cX10_init 173 = .ok (.dup, 1) := by decide +kernel
theorem dX10_init_174 : decode cX10_init 174 = .ok (.iconst 0, 1) := by decide +kernel
theorem dX10_init_175 : decode cX10_init 175 = .ok (.ldc2_w 76, 3) := by decide +kernel
theorem dX10_init_178 : decode cX10_init 178 = .ok (.lastore, 1) := by decide +kernel
theorem dX10_init_179 : decode cX10_init 179 = .ok (.dup, 1) := by decide +kernel
theorem dX10_init_180 : decode cX10_init 180 = .ok (.iconst 1, 1) := by decide +kernel
theorem dX10_init_181 : decode cX10_init 181 = .ok (.ldc2_w 76, 3) := by decide +kernel
theorem dX10_init_184 : decode cX10_init 184 = .ok (.lastore, 1) := by decide +kernel
theorem dX10_init_185 : decode cX10_init 185 = .ok (.dup, 1) := by decide +kernel
theorem dX10_init_186 : decode cX10_init 186 = .ok (.iconst 2, 1) := by decide +kernel
theorem dX10_init_187 : decode cX10_init 187 = .ok (.ldc2_w 76, 3) := by decide +kernel
theorem dX10_init_190 : decode cX10_init 190 = .ok (.lastore, 1) := by decide +kernel
theorem dX10_init_191 : decode cX10_init 191 = .ok (.dup, 1) := by decide +kernel
theorem dX10_init_192 : decode cX10_init 192 = .ok (.iconst 3, 1) := by decide +kernel
theorem dX10_init_193 : decode cX10_init 193 = .ok (.ldc2_w 76, 3) := by decide +kernel
theorem dX10_init_196 : decode cX10_init 196 = .ok (.lastore, 1) := by decide +kernel
theorem dX10_init_197 : decode cX10_init 197 = .ok (.putfield 78, 3) := by decide +kernel
theorem dX10_init_200 : decode cX10_init 200 = .ok (.aload_n 0, 1) := by decide +kernel
theorem dX10_init_201 : decode cX10_init 201 = .ok (.iconst (-1), 1) := by decide +kernel
theorem dX10_init_202 : decode cX10_init 202 = .ok (.putfield 82, 3) := by decide +kernel
theorem dX10_init_205 : decode cX10_init 205 = .ok (.aload_n 0, 1) := by decide +kernel
theorem dX10_init_206 : decode cX10_init 206 = .ok (.bipush 60, 2) := by decide +kernel
theorem dX10_init_208 : decode cX10_init 208 = .ok (.newarray .boolean, 2) := by decide +kernel
theorem dX10_init_210 : decode cX10_init 210 = .ok (.putfield 85, 3) := by decide +kernel
theorem dX10_init_213 : decode cX10_init 213 = .ok (.aload_n 0, 1) := by decide +kernel
theorem dX10_init_214 : decode cX10_init 214 = .ok (.bipush 64, 2) := by decide +kernel
theorem dX10_init_216 : decode cX10_init 216 = .ok (.newarray .int, 2) := by decide +kernel
theorem dX10_init_218 : decode cX10_init 218 = .ok (.putfield 88, 3) := by decide +kernel
theorem dX10_init_221 : decode cX10_init 221 = .ok (.aload_n 0, 1) := by decide +kernel
theorem dX10_init_222 : decode cX10_init 222 = .ok (.bipush 120, 2) := by decide +kernel
theorem dX10_init_224 : decode cX10_init 224 = .ok (.newarray .int, 2) := by decide +kernel
theorem dX10_init_226 : decode cX10_init 226 = .ok (.putfield 91, 3) := by decide +kernel
theorem dX10_init_229 : decode cX10_init 229 = .ok (.aload_n 0, 1) := by decide +kernel
theorem dX10_init_230 : decode cX10_init 230 = .ok (.bipush 120, 2) := by decide +kernel
theorem dX10_init_232 : decode cX10_init 232 = .ok (.newarray .int, 2) := by decide +kernel
theorem dX10_init_234 : decode cX10_init 234 = .ok (.putfield 94, 3) := by decide +kernel
theorem dX10_init_237 : decode cX10_init 237 = .ok (.aload_n 0, 1) := by decide +kernel
theorem dX10_init_238 : decode cX10_init 238 = .ok (.bipush 120, 2) := by decide +kernel
theorem dX10_init_240 : decode cX10_init 240 = .ok (.newarray .int, 2) := by decide +kernel
theorem dX10_init_242 : decode cX10_init 242 = .ok (.putfield 97, 3) := by decide +kernel
theorem dX10_init_245 : decode cX10_init 245 = .ok (.aload_n 0, 1) := by decide +kernel
theorem dX10_init_246 : decode cX10_init 246 = .ok (.bipush 60, 2) := by decide +kernel
theorem dX10_init_248 : decode cX10_init 248 = .ok (.newarray .int, 2) := by decide +kernel
theorem dX10_init_250 : decode cX10_init 250 = .ok (.putfield 100, 3) := by decide +kernel
theorem dX10_init_253 : decode cX10_init 253 = .ok (.aload_n 0, 1) := by decide +kernel
theorem dX10_init_254 : decode cX10_init 254 = .ok (.bipush 60, 2) := by decide +kernel
theorem dX10_init_256 : decode cX10_init 256 = .ok (.newarray .boolean, 2) := by decide +kernel
theorem dX10_init_258 : decode cX10_init 258 = .ok (.putfield 103, 3) := by decide +kernel
theorem dX10_init_261 : decode cX10_init 261 = .ok (.aload_n 0, 1) := by decide +kernel
theorem dX10_init_262 : decode cX10_init 262 = .ok (.bipush 60, 2) := by decide +kernel
theorem dX10_init_264 : decode cX10_init 264 = .ok (.newarray .int, 2) := by decide +kernel
theorem dX10_init_266 : decode cX10_init 266 = .ok (.putfield 106, 3) := by decide +kernel
theorem dX10_init_269 : decode cX10_init 269 = .ok (.aload_n 0, 1) := by decide +kernel
theorem dX10_init_270 : decode cX10_init 270 = .ok (.bipush 60, 2) := by decide +kernel
theorem dX10_init_272 : decode cX10_init 272 = .ok (.newarray .int, 2) := by decide +kernel
theorem dX10_init_274 : decode cX10_init 274 = .ok (.putfield 109, 3) := by decide +kernel
theorem dX10_init_277 : decode cX10_init 277 = .ok (.aload_n 0, 1) := by decide +kernel
theorem dX10_init_278 : decode cX10_init 278 = .ok (.bipush 60, 2) := by decide +kernel
theorem dX10_init_280 : decode cX10_init 280 = .ok (.newarray .int, 2) := by decide +kernel
theorem dX10_init_282 : decode cX10_init 282 = .ok (.putfield 112, 3) := by decide +kernel
theorem dX10_init_285 : decode cX10_init 285 = .ok (.aload_n 0, 1) := by decide +kernel
theorem dX10_init_286 : decode cX10_init 286 = .ok (.bipush 60, 2) := by decide +kernel
theorem dX10_init_288 : decode cX10_init 288 = .ok (.newarray .boolean, 2) := by decide +kernel
theorem dX10_init_290 : decode cX10_init 290 = .ok (.putfield 115, 3) := by decide +kernel
theorem dX10_init_293 : decode cX10_init 293 = .ok (.aload_n 0, 1) := by decide +kernel
theorem dX10_init_294 : decode cX10_init 294 = .ok (.sipush 3600, 3) := by decide +kernel
theorem dX10_init_297 : decode cX10_init 297 = .ok (.newarray .boolean, 2) := by decide +kernel
theorem dX10_init_299 : decode cX10_init 299 = .ok (.putfield 118, 3) := by decide +kernel
theorem dX10_init_302 : decode cX10_init 302 = .ok (.aload_n 0, 1) := by decide +kernel
theorem dX10_init_303 : decode cX10_init 303 = .ok (.bipush 60, 2) := by decide +kernel
theorem dX10_init_305 : decode cX10_init 305 = .ok (.newarray .long, 2) := by decide +kernel
theorem dX10_init_307 : decode cX10_init 307 = .ok (.putfield 121, 3) := by decide +kernel
theorem dX10_init_310 : decode cX10_init 310 = .ok (.aload_n 0, 1) := by decide +kernel
theorem dX10_init_311 : decode cX10_init 311 = .ok (.iconst 4, 1) := by decide +kernel
theorem dX10_init_312 : decode cX10_init 312 = .ok (.newarray .long, 2) := by decide +kernel
theorem dX10_init_314 : decode cX10_init 314 = .ok (.putfield 124, 3) := by decide +kernel
theorem dX10_init_317 : decode cX10_init 317 = .ok (.aload_n 0, 1) := by decide +kernel
theorem dX10_init_318 : decode cX10_init 318 = .ok (.iconst 4, 1) := by decide +kernel
theorem dX10_init_319 : decode cX10_init 319 = .ok (.newarray .long, 2) := by decide +kernel
theorem dX10_init_321 : decode cX10_init 321 = .ok (.putfield 127, 3) := by decide +kernel
theorem dX10_init_324 : decode cX10_init 324 = .ok (.aload_n 0, 1) := by decide +kernel
theorem dX10_init_325 : decode cX10_init 325 = .ok (.sipush 200, 3) := by decide +kernel
theorem dX10_init_328 : decode cX10_init 328 = .ok (.newarray .int, 2) := by decide +kernel
theorem dX10_init_330 : decode cX10_init 330 = .ok (.putfield 130, 3) := by decide +kernel
theorem dX10_init_333 : decode cX10_init 333 = .ok (.aload_n 0, 1) := by decide +kernel
theorem dX10_init_334 : decode cX10_init 334 = .ok (.sipush 200, 3) := by decide +kernel
theorem dX10_init_337 : decode cX10_init 337 = .ok (.newarray .int, 2) := by decide +kernel
theorem dX10_init_339 : decode cX10_init 339 = .ok (.putfield 133, 3) := by decide +kernel
theorem dX10_init_342 : decode cX10_init 342 = .ok (.aload_n 0, 1) := by decide +kernel
theorem dX10_init_343 : decode cX10_init 343 = .ok (.sipush 200, 3) := by decide +kernel
theorem dX10_init_346 : decode cX10_init 346 = .ok (.newarray .int, 2) := by decide +kernel
theorem dX10_init_348 : decode cX10_init 348 = .ok (.putfield 136, 3) := by decide +kernel
theorem dX10_init_351 : decode cX10_init 351 = .ok (.return_, 1) := by decide +kernel
theorem dX10_in_0 : decode cX10_in 0 = .ok (.lload_n 2, 1) := by decide +kernel
theorem dX10_in_1 : decode cX10_in 1 = .ok (.lload_n 0, 1) := by decide +kernel
theorem dX10_in_2 : decode cX10_in 2 = .ok (.lcmp, 1) := by decide +kernel
theorem dX10_in_3 : decode cX10_in 3 = .ok (.ifCond .gt 14, 3) := by decide +kernel
theorem dX10_in_6 : decode cX10_in 6 = .ok (.lload_n 0, 1) := by decide +kernel
theorem dX10_in_7 : decode cX10_in 7 = .ok (.lload 4, 2) := by decide +kernel
theorem dX10_in_9 : decode cX10_in 9 = .ok (.lcmp, 1) := by decide +kernel
theorem dX10_in_10 : decode cX10_in 10 = .ok (.ifCond .gt 7, 3) := by decide +kernel
theorem dX10_in_13 : decode cX10_in 13 = .ok (.iconst 1, 1) := by decide +kernel
theorem dX10_in_14 : decode cX10_in 14 = .ok (.goto 4, 3) := by decide +kernel
theorem dX10_in_17 : decode cX10_in 17 = .ok (.iconst 0, 1) := by decide +kernel
theorem dX10_in_18 : decode cX10_in 18 = .ok (.ireturn, 1) := by decide +kernel
theorem dX10_told_0 : decode cX10_told 0 = .ok (.aload_n 0, 1) := by decide +kernel
theorem dX10_told_1 : decode cX10_told 1 = .ok (.iconst 0, 1) := by decide +kernel
theorem dX10_told_2 : decode cX10_told 2 = .ok (.putfield 139, 3) := by decide +kernel
theorem dX10_told_5 : decode cX10_told 5 = .ok (.aload_n 0, 1) := by decide +kernel
theorem dX10_told_6 : decode cX10_told 6 = .ok (.iconst 0, 1) := by decide +kernel
theorem dX10_told_7 : decode cX10_told 7 = .ok (.putfield 143, 3) := by decide +kernel
theorem dX10_told_10 : decode cX10_told 10 = .ok (.aload_n 0, 1) := by decide +kernel
theorem dX10_told_11 : decode cX10_told 11 = .ok (.iconst 0, 1) := by decide +kernel
theorem dX10_told_12 : decode cX10_told 12 = .ok (.putfield 146, 3) := by decide +kernel
theorem dX10_told_15 : decode cX10_told 15 = .ok (.aload_n 0, 1) := by decide +kernel
theorem dX10_told_16 : decode cX10_told 16 = .ok (.iconst (-1), 1) := by decide +kernel
theorem dX10_told_17 : decode cX10_told 17 = .ok (.putfield 82, 3) := by decide +kernel
theorem dX10_told_20 : decode cX10_told 20 = .ok (.return_, 1) := by decide +kernel
theorem dX10_object_0 : decode cX10_object 0 = .ok (.aload_n 0, 1) := by decide +kernel
theorem dX10_object_1 : decode cX10_object 1 = .ok (.getfield 149, 3) := by decide +kernel
theorem dX10_object_4 : decode cX10_object 4 = .ok (.bipush 12, 2) := by decide +kernel
theorem dX10_object_6 : decode cX10_object 6 = .ok (.if_icmp .ne 6, 3) := by decide +kernel
theorem dX10_object_9 : decode cX10_object 9 = .ok (.bipush (-104), 2) := by decide +kernel
theorem dX10_object_11 : decode cX10_object 11 = .ok (.ireturn, 1) := by decide +kernel
theorem dX10_object_12 : decode cX10_object 12 = .ok (.aload_n 0, 1) := by decide +kernel
theorem dX10_object_13 : decode cX10_object 13 = .ok (.invokevirtual 152, 3) := by decide +kernel
theorem dX10_object_16 : decode cX10_object 16 = .ok (.aload_n 0, 1) := by decide +kernel
theorem dX10_object_17 : decode cX10_object 17 = .ok (.dup, 1) := by decide +kernel
theorem dX10_object_18 : decode cX10_object 18 = .ok (.getfield 149, 3) := by decide +kernel
theorem dX10_object_21 : decode cX10_object 21 = .ok (.iconst 1, 1) := by decide +kernel
theorem dX10_object_22 : decode cX10_object 22 = .ok (.iadd, 1) := by decide +kernel
theorem dX10_object_23 : decode cX10_object 23 = .ok (.putfield 149, 3) := by decide +kernel
theorem dX10_object_26 : decode cX10_object 26 = .ok (.aload_n 0, 1) := by decide +kernel
theorem dX10_object_27 : decode cX10_object 27 = .ok (.getfield 149, 3) := by decide +kernel
theorem dX10_object_30 : decode cX10_object 30 = .ok (.iconst 1, 1) := by decide +kernel
theorem dX10_object_31 : decode cX10_object 31 = .ok (.isub, 1) := by decide +kernel
theorem dX10_object_32 : decode cX10_object 32 = .ok (.ireturn, 1) := by decide +kernel
theorem dX10_section_0 : decode cX10_section 0 = .ok (.iload_n 1, 1) := by decide +kernel
theorem dX10_section_1 : decode cX10_section 1 = .ok (.i2l, 1) := by decide +kernel
theorem dX10_section_2 : decode cX10_section 2 = .ok (.lconst 0, 1) := by decide +kernel
theorem dX10_section_3 : decode cX10_section 3 = .ok (.aload_n 0, 1) := by decide +kernel
theorem dX10_section_4 : decode cX10_section 4 = .ok (.getfield 149, 3) := by decide +kernel
theorem dX10_section_7 : decode cX10_section 7 = .ok (.iconst 1, 1) := by decide +kernel
theorem dX10_section_8 : decode cX10_section 8 = .ok (.isub, 1) := by decide +kernel
theorem dX10_section_9 : decode cX10_section 9 = .ok (.i2l, 1) := by decide +kernel
theorem dX10_section_10 : decode cX10_section 10 = .ok (.invokestatic 155, 3) := by decide +kernel
theorem dX10_section_13 : decode cX10_section 13 = .ok (.ifCond .ne 6, 3) := by decide +kernel
theorem dX10_section_16 : decode cX10_section 16 = .ok (.bipush (-101), 2) := by decide +kernel
theorem dX10_section_18 : decode cX10_section 18 = .ok (.ireturn, 1) := by decide +kernel
theorem dX10_section_19 : decode cX10_section 19 = .ok (.iload_n 2, 1) := by decide +kernel
theorem dX10_section_20 : decode cX10_section 20 = .ok (.i2l, 1) := by decide +kernel
theorem dX10_section_21 : decode cX10_section 21 = .ok (.lconst 0, 1) := by decide +kernel
theorem dX10_section_22 : decode cX10_section 22 = .ok (.ldc2_w 159, 3) := by decide +kernel
theorem dX10_section_25 : decode cX10_section 25 = .ok (.invokestatic 155, 3) := by decide +kernel
theorem dX10_section_28 : decode cX10_section 28 = .ok (.ifCond .eq 28, 3) := by decide +kernel
theorem dX10_section_31 : decode cX10_section 31 = .ok (.iload_n 3, 1) := by decide +kernel
theorem dX10_section_32 : decode cX10_section 32 = .ok (.i2l, 1) := by decide +kernel
theorem dX10_section_33 : decode cX10_section 33 = .ok (.lconst 0, 1) := by decide +kernel
theorem dX10_section_34 : decode cX10_section 34 = .ok (.ldc2_w 161, 3) := by decide +kernel
theorem dX10_section_37 : decode cX10_section 37 = .ok (.invokestatic 155, 3) := by decide +kernel
theorem dX10_section_40 : decode cX10_section 40 = .ok (.ifCond .eq 16, 3) := by decide +kernel
theorem dX10_section_43 : decode cX10_section 43 = .ok (.iload 4, 2) := by decide +kernel
theorem dX10_section_45 : decode cX10_section 45 = .ok (.i2l, 1) := by decide +kernel
theorem dX10_section_46 : decode cX10_section 46 = .ok (.lconst 0, 1) := by decide +kernel
theorem dX10_section_47 : decode cX10_section 47 = .ok (.ldc2_w 163, 3) := by decide +kernel
theorem dX10_section_50 : decode cX10_section 50 = .ok (.invokestatic 155, 3) := by decide +kernel
theorem dX10_section_53 : decode cX10_section 53 = .ok (.ifCond .ne 6, 3) := by decide +kernel
theorem dX10_section_56 : decode cX10_section 56 = .ok (.bipush (-102), 2) := by decide +kernel
theorem dX10_section_58 : decode cX10_section 58 = .ok (.ireturn, 1) := by decide +kernel
theorem dX10_section_59 : decode cX10_section 59 = .ok (.aload_n 0, 1) := by decide +kernel
theorem dX10_section_60 : decode cX10_section 60 = .ok (.getfield 165, 3) := by decide +kernel
theorem dX10_section_63 : decode cX10_section 63 = .ok (.bipush 60, 2) := by decide +kernel
theorem dX10_section_65 : decode cX10_section 65 = .ok (.if_icmp .eq 14, 3) := by decide +kernel
theorem dX10_section_68 : decode cX10_section 68 = .ok (.aload_n 0, 1) := by decide +kernel
theorem dX10_section_69 : decode cX10_section 69 = .ok (.getfield 168, 3) := by decide +kernel
theorem dX10_section_72 : decode cX10_section 72 = .ok (.iload_n 3, 1) := by decide +kernel
theorem dX10_section_73 : decode cX10_section 73 = .ok (.iadd, 1) := by decide +kernel
theorem dX10_section_74 : decode cX10_section 74 = .ok (.ldc 39, 2) := by decide +kernel
theorem dX10_section_76 : decode cX10_section 76 = .ok (.if_icmp .le 6, 3) := by decide +kernel
theorem dX10_section_79 : decode cX10_section 79 = .ok (.bipush (-104), 2) := by decide +kernel
theorem dX10_section_81 : decode cX10_section 81 = .ok (.ireturn, 1) := by decide +kernel
theorem dX10_section_82 : decode cX10_section 82 = .ok (.aload_n 0, 1) := by decide +kernel
theorem dX10_section_83 : decode cX10_section 83 = .ok (.invokevirtual 152, 3) := by decide +kernel
theorem dX10_section_86 : decode cX10_section 86 = .ok (.aload_n 0, 1) := by decide +kernel
theorem dX10_section_87 : decode cX10_section 87 = .ok (.getfield 165, 3) := by decide +kernel
theorem dX10_section_90 : decode cX10_section 90 = .ok (.istore 6, 2) := by decide +kernel
theorem dX10_section_92 : decode cX10_section 92 = .ok (.aload_n 0, 1) := by decide +kernel
theorem dX10_section_93 : decode cX10_section 93 = .ok (.getfield 13, 3) := by decide +kernel
theorem dX10_section_96 : decode cX10_section 96 = .ok (.iload 6, 2) := by decide +kernel
theorem dX10_section_98 : decode cX10_section 98 = .ok (.iload_n 1, 1) := by decide +kernel
theorem dX10_section_99 : decode cX10_section 99 = .ok (.iastore, 1) := by decide +kernel
theorem dX10_section_100 : decode cX10_section 100 = .ok (.aload_n 0, 1) := by decide +kernel
theorem dX10_section_101 : decode cX10_section 101 = .ok (.getfield 17, 3) := by decide +kernel
theorem dX10_section_104 : decode cX10_section 104 = .ok (.iload 6, 2) := by decide +kernel
theorem dX10_section_106 : decode cX10_section 106 = .ok (.iload_n 2, 1) := by decide +kernel
theorem dX10_section_107 : decode cX10_section 107 = .ok (.iastore, 1) := by decide +kernel
theorem dX10_section_108 : decode cX10_section 108 = .ok (.aload_n 0, 1) := by decide +kernel
theorem dX10_section_109 : decode cX10_section 109 = .ok (.getfield 20, 3) := by decide +kernel
theorem dX10_section_112 : decode cX10_section 112 = .ok (.iload 6, 2) := by decide +kernel
theorem dX10_section_114 : decode cX10_section 114 = .ok (.iload_n 3, 1) := by decide +kernel
theorem dX10_section_115 : decode cX10_section 115 = .ok (.iastore, 1) := by decide +kernel
theorem dX10_section_116 : decode cX10_section 116 = .ok (.aload_n 0, 1) := by decide +kernel
theorem dX10_section_117 : decode cX10_section 117 = .ok (.getfield 23, 3) := by decide +kernel
theorem dX10_section_120 : decode cX10_section 120 = .ok (.iload 6, 2) := by decide +kernel
theorem dX10_section_122 : decode cX10_section 122 = .ok (.iload 4, 2) := by decide +kernel
theorem dX10_section_124 : decode cX10_section 124 = .ok (.iastore, 1) := by decide +kernel
theorem dX10_section_125 : decode cX10_section 125 = .ok (.aload_n 0, 1) := by decide +kernel
theorem dX10_section_126 : decode cX10_section 126 = .ok (.getfield 26, 3) := by decide +kernel
theorem dX10_section_129 : decode cX10_section 129 = .ok (.iload 6, 2) := by decide +kernel
theorem dX10_section_131 : decode cX10_section 131 = .ok (.aload_n 0, 1) := by decide +kernel
theorem dX10_section_132 : decode cX10_section 132 = .ok (.getfield 171, 3) := by decide +kernel
theorem dX10_section_135 : decode cX10_section 135 = .ok (.iastore, 1) := by decide +kernel
theorem dX10_section_136 : decode cX10_section 136 = .ok (.aload_n 0, 1) := by decide +kernel
theorem dX10_section_137 : decode cX10_section 137 = .ok (.getfield 29, 3) := by decide +kernel
theorem dX10_section_140 : decode cX10_section 140 = .ok (.iload 6, 2) := by decide +kernel
theorem dX10_section_142 : decode cX10_section 142 = .ok (.iconst 0, 1) := by decide +kernel
theorem dX10_section_143 : decode cX10_section 143 = .ok (.bastore, 1) := by decide +kernel
theorem dX10_section_144 : decode cX10_section 144 = .ok (.aload_n 0, 1) := by decide +kernel
theorem dX10_section_145 : decode cX10_section 145 = .ok (.getfield 33, 3) := by decide +kernel
theorem dX10_section_148 : decode cX10_section 148 = .ok (.iload 6, 2) := by decide +kernel
theorem dX10_section_150 : decode cX10_section 150 = .ok (.iconst (-1), 1) := by decide +kernel
theorem dX10_section_151 : decode cX10_section 151 = .ok (.iastore, 1) := by decide +kernel
theorem dX10_section_152 : decode cX10_section 152 = .ok (.aload_n 0, 1) := by decide +kernel
theorem dX10_section_153 : decode cX10_section 153 = .ok (.getfield 36, 3) := by decide +kernel
theorem dX10_section_156 : decode cX10_section 156 = .ok (.iload 6, 2) := by decide +kernel
theorem dX10_section_158 : decode cX10_section 158 = .ok (.iconst (-1), 1) := by decide +kernel
theorem dX10_section_159 : decode cX10_section 159 = .ok (.iastore, 1) := by decide +kernel
theorem dX10_section_160 : decode cX10_section 160 = .ok (.iconst 0, 1) := by decide +kernel
theorem dX10_section_161 : decode cX10_section 161 = .ok (.istore 7, 2) := by decide +kernel
theorem dX10_section_163 : decode cX10_section 163 = .ok (.iload 7, 2) := by decide +kernel
theorem dX10_section_165 : decode cX10_section 165 = .ok (.iload_n 3, 1) := by decide +kernel
theorem dX10_section_166 : decode cX10_section 166 = .ok (.if_icmp .ge 42, 3) := by decide +kernel
theorem dX10_section_169 : decode cX10_section 169 = .ok (.iload_n 2, 1) := by decide +kernel
theorem dX10_section_170 : decode cX10_section 170 = .ok (.iconst 3, 1) := by decide +kernel
theorem dX10_section_171 : decode cX10_section 171 = .ok (.if_icmp .ge 37, 3) := by decide +kernel
theorem dX10_section_174 : decode cX10_section 174 = .ok (.aload_n 0, 1) := by decide +kernel
theorem dX10_section_175 : decode cX10_section 175 = .ok (.getfield 40, 3) := by decide +kernel
theorem dX10_section_178 : decode cX10_section 178 = .ok (.aload_n 0, 1) := by decide +kernel
theorem dX10_section_179 : decode cX10_section 179 = .ok (.getfield 171, 3) := by decide +kernel
theorem dX10_section_182 : decode cX10_section 182 = .ok (.iload 5, 2) := by decide +kernel
theorem dX10_section_184 : decode cX10_section 184 = .ok (.iload 7, 2) := by decide +kernel
theorem dX10_section_186 : decode cX10_section 186 = .ok (.iadd, 1) := by decide +kernel
theorem dX10_section_187 : decode cX10_section 187 = .ok (.sipush 255, 3) := by decide +kernel
theorem dX10_section_190 : decode cX10_section 190 = .ok (.iand, 1) := by decide +kernel
theorem dX10_section_191 : decode cX10_section 191 = .ok (.iastore, 1) := by decide +kernel
theorem dX10_section_192 : decode cX10_section 192 = .ok (.aload_n 0, 1) := by decide +kernel
theorem dX10_section_193 : decode cX10_section 193 = .ok (.dup, 1) := by decide +kernel
theorem dX10_section_194 : decode cX10_section 194 = .ok (.getfield 171, 3) := by decide +kernel
theorem dX10_section_197 : decode cX10_section 197 = .ok (.iconst 1, 1) := by decide +kernel
theorem dX10_section_198 : decode cX10_section 198 = .ok (.iadd, 1) := by decide +kernel
theorem dX10_section_199 : decode cX10_section 199 = .ok (.putfield 171, 3) := by decide +kernel
theorem dX10_section_202 : decode cX10_section 202 = .ok (.iinc 7 1, 3) := by decide +kernel
theorem dX10_section_205 : decode cX10_section 205 = .ok (.goto (-42), 3) := by decide +kernel
theorem dX10_section_208 : decode cX10_section 208 = .ok (.aload_n 0, 1) := by decide +kernel
theorem dX10_section_209 : decode cX10_section 209 = .ok (.dup, 1) := by decide +kernel
theorem dX10_section_210 : decode cX10_section 210 = .ok (.getfield 168, 3) := by decide +kernel
theorem dX10_section_213 : decode cX10_section 213 = .ok (.iload_n 3, 1) := by decide +kernel
theorem dX10_section_214 : decode cX10_section 214 = .ok (.iadd, 1) := by decide +kernel
theorem dX10_section_215 : decode cX10_section 215 = .ok (.putfield 168, 3) := by decide +kernel
theorem dX10_section_218 : decode cX10_section 218 = .ok (.aload_n 0, 1) := by decide +kernel
theorem dX10_section_219 : decode cX10_section 219 = .ok (.dup, 1) := by decide +kernel
theorem dX10_section_220 : decode cX10_section 220 = .ok (.getfield 165, 3) := by decide +kernel
theorem dX10_section_223 : decode cX10_section 223 = .ok (.iconst 1, 1) := by decide +kernel
theorem dX10_section_224 : decode cX10_section 224 = .ok (.iadd, 1) := by decide +kernel
theorem dX10_section_225 : decode cX10_section 225 = .ok (.putfield 165, 3) := by decide +kernel
theorem dX10_section_228 : decode cX10_section 228 = .ok (.iload 6, 2) := by decide +kernel
theorem dX10_section_230 : decode cX10_section 230 = .ok (.ireturn, 1) := by decide +kernel
theorem dX10_hasBytes_0 : decode cX10_hasBytes 0 = .ok (.iload_n 1, 1) := by decide +kernel
theorem dX10_hasBytes_1 : decode cX10_hasBytes 1 = .ok (.i2l, 1) := by decide +kernel
theorem dX10_hasBytes_2 : decode cX10_hasBytes 2 = .ok (.lconst 0, 1) := by decide +kernel
theorem dX10_hasBytes_3 : decode cX10_hasBytes 3 = .ok (.aload_n 0, 1) := by decide +kernel
theorem dX10_hasBytes_4 : decode cX10_hasBytes 4 = .ok (.getfield 165, 3) := by decide +kernel
theorem dX10_hasBytes_7 : decode cX10_hasBytes 7 = .ok (.iconst 1, 1) := by decide +kernel
theorem dX10_hasBytes_8 : decode cX10_hasBytes 8 = .ok (.isub, 1) := by decide +kernel
theorem dX10_hasBytes_9 : decode cX10_hasBytes 9 = .ok (.i2l, 1) := by decide +kernel
theorem dX10_hasBytes_10 : decode cX10_hasBytes 10 = .ok (.invokestatic 155, 3) := by decide +kernel
theorem dX10_hasBytes_13 : decode cX10_hasBytes 13 = .ok (.ifCond .eq 17, 3) := by decide +kernel
theorem dX10_hasBytes_16 : decode cX10_hasBytes 16 = .ok (.aload_n 0, 1) := by decide +kernel
theorem dX10_hasBytes_17 : decode cX10_hasBytes 17 = .ok (.getfield 17, 3) := by decide +kernel
theorem dX10_hasBytes_20 : decode cX10_hasBytes 20 = .ok (.iload_n 1, 1) := by decide +kernel
theorem dX10_hasBytes_21 : decode cX10_hasBytes 21 = .ok (.iaload, 1) := by decide +kernel
theorem dX10_hasBytes_22 : decode cX10_hasBytes 22 = .ok (.iconst 3, 1) := by decide +kernel
theorem dX10_hasBytes_23 : decode cX10_hasBytes 23 = .ok (.if_icmp .ge 7, 3) := by decide +kernel
theorem dX10_hasBytes_26 : decode cX10_hasBytes 26 = .ok (.iconst 1, 1) := by decide +kernel
theorem dX10_hasBytes_27 : decode cX10_hasBytes 27 = .ok (.goto 4, 3) := by decide +kernel
theorem dX10_hasBytes_30 : decode cX10_hasBytes 30 = .ok (.iconst 0, 1) := by decide +kernel
theorem dX10_hasBytes_31 : decode cX10_hasBytes 31 = .ok (.ireturn, 1) := by decide +kernel
theorem dX10_patch_0 : decode cX10_patch 0 = .ok (.aload_n 0, 1) := by decide +kernel
theorem dX10_patch_1 : decode cX10_patch 1 = .ok (.iload_n 1, 1) := by decide +kernel
theorem dX10_patch_2 : decode cX10_patch 2 = .ok (.invokevirtual 174, 3) := by decide +kernel
theorem dX10_patch_5 : decode cX10_patch 5 = .ok (.ifCond .ne 6, 3) := by decide +kernel
theorem dX10_patch_8 : decode cX10_patch 8 = .ok (.bipush (-101), 2) := by decide +kernel
theorem dX10_patch_10 : decode cX10_patch 10 = .ok (.ireturn, 1) := by decide +kernel
theorem dX10_patch_11 : decode cX10_patch 11 = .ok (.iload_n 2, 1) := by decide +kernel
theorem dX10_patch_12 : decode cX10_patch 12 = .ok (.i2l, 1) := by decide +kernel
theorem dX10_patch_13 : decode cX10_patch 13 = .ok (.lconst 0, 1) := by decide +kernel
theorem dX10_patch_14 : decode cX10_patch 14 = .ok (.aload_n 0, 1) := by decide +kernel
theorem dX10_patch_15 : decode cX10_patch 15 = .ok (.getfield 20, 3) := by decide +kernel
theorem dX10_patch_18 : decode cX10_patch 18 = .ok (.iload_n 1, 1) := by decide +kernel
theorem dX10_patch_19 : decode cX10_patch 19 = .ok (.iaload, 1) := by decide +kernel
theorem dX10_patch_20 : decode cX10_patch 20 = .ok (.iconst 1, 1) := by decide +kernel
theorem dX10_patch_21 : decode cX10_patch 21 = .ok (.isub, 1) := by decide +kernel
theorem dX10_patch_22 : decode cX10_patch 22 = .ok (.i2l, 1) := by decide +kernel
theorem dX10_patch_23 : decode cX10_patch 23 = .ok (.invokestatic 155, 3) := by decide +kernel
theorem dX10_patch_26 : decode cX10_patch 26 = .ok (.ifCond .ne 6, 3) := by decide +kernel
theorem dX10_patch_29 : decode cX10_patch 29 = .ok (.bipush (-102), 2) := by decide +kernel
theorem dX10_patch_31 : decode cX10_patch 31 = .ok (.ireturn, 1) := by decide +kernel
theorem dX10_patch_32 : decode cX10_patch 32 = .ok (.aload_n 0, 1) := by decide +kernel
theorem dX10_patch_33 : decode cX10_patch 33 = .ok (.invokevirtual 152, 3) := by decide +kernel
theorem dX10_patch_36 : decode cX10_patch 36 = .ok (.aload_n 0, 1) := by decide +kernel
theorem dX10_patch_37 : decode cX10_patch 37 = .ok (.getfield 26, 3) := by decide +kernel
theorem dX10_patch_40 : decode cX10_patch 40 = .ok (.iload_n 1, 1) := by decide +kernel
theorem dX10_patch_41 : decode cX10_patch 41 = .ok (.iaload, 1) := by decide +kernel
theorem dX10_patch_42 : decode cX10_patch 42 = .ok (.iload_n 2, 1) := by decide +kernel
theorem dX10_patch_43 : decode cX10_patch 43 = .ok (.iadd, 1) := by decide +kernel
theorem dX10_patch_44 : decode cX10_patch 44 = .ok (.istore 4, 2) := by decide +kernel
theorem dX10_patch_46 : decode cX10_patch 46 = .ok (.aload_n 0, 1) := by decide +kernel
theorem dX10_patch_47 : decode cX10_patch 47 = .ok (.getfield 40, 3) := by decide +kernel
theorem dX10_patch_50 : decode cX10_patch 50 = .ok (.iload 4, 2) := by decide +kernel
theorem dX10_patch_52 : decode cX10_patch 52 = .ok (.iaload, 1) := by decide +kernel
theorem dX10_patch_53 : decode cX10_patch 53 = .ok (.istore 5, 2) := by decide +kernel
theorem dX10_patch_55 : decode cX10_patch 55 = .ok (.aload_n 0, 1) := by decide +kernel
theorem dX10_patch_56 : decode cX10_patch 56 = .ok (.getfield 40, 3) := by decide +kernel
theorem dX10_patch_59 : decode cX10_patch 59 = .ok (.iload 4, 2) := by decide +kernel
theorem dX10_patch_61 : decode cX10_patch 61 = .ok (.iload_n 3, 1) := by decide +kernel
theorem dX10_patch_62 : decode cX10_patch 62 = .ok (.sipush 255, 3) := by decide +kernel
theorem dX10_patch_65 : decode cX10_patch 65 = .ok (.iand, 1) := by decide +kernel
theorem dX10_patch_66 : decode cX10_patch 66 = .ok (.iastore, 1) := by decide +kernel
theorem dX10_patch_67 : decode cX10_patch 67 = .ok (.iload 5, 2) := by decide +kernel
theorem dX10_patch_69 : decode cX10_patch 69 = .ok (.ireturn, 1) := by decide +kernel
theorem dX10_mark_0 : decode cX10_mark 0 = .ok (.iload_n 1, 1) := by decide +kernel
theorem dX10_mark_1 : decode cX10_mark 1 = .ok (.i2l, 1) := by decide +kernel
theorem dX10_mark_2 : decode cX10_mark 2 = .ok (.lconst 0, 1) := by decide +kernel
theorem dX10_mark_3 : decode cX10_mark 3 = .ok (.aload_n 0, 1) := by decide +kernel
theorem dX10_mark_4 : decode cX10_mark 4 = .ok (.getfield 165, 3) := by decide +kernel
theorem dX10_mark_7 : decode cX10_mark 7 = .ok (.iconst 1, 1) := by decide +kernel
theorem dX10_mark_8 : decode cX10_mark 8 = .ok (.isub, 1) := by decide +kernel
theorem dX10_mark_9 : decode cX10_mark 9 = .ok (.i2l, 1) := by decide +kernel
theorem dX10_mark_10 : decode cX10_mark 10 = .ok (.invokestatic 155, 3) := by decide +kernel
theorem dX10_mark_13 : decode cX10_mark 13 = .ok (.ifCond .ne 6, 3) := by decide +kernel
theorem dX10_mark_16 : decode cX10_mark 16 = .ok (.bipush (-101), 2) := by decide +kernel
theorem dX10_mark_18 : decode cX10_mark 18 = .ok (.ireturn, 1) := by decide +kernel
theorem dX10_mark_19 : decode cX10_mark 19 = .ok (.iload_n 2, 1) := by decide +kernel
theorem dX10_mark_20 : decode cX10_mark 20 = .ok (.i2l, 1) := by decide +kernel
theorem dX10_mark_21 : decode cX10_mark 21 = .ok (.lconst 0, 1) := by decide +kernel
theorem dX10_mark_22 : decode cX10_mark 22 = .ok (.ldc2_w 178, 3) := by decide +kernel
theorem dX10_mark_25 : decode cX10_mark 25 = .ok (.invokestatic 155, 3) := by decide +kernel
theorem dX10_mark_28 : decode cX10_mark 28 = .ok (.ifCond .eq 44, 3) := by decide +kernel
theorem dX10_mark_31 : decode cX10_mark 31 = .ok (.iload_n 3, 1) := by decide +kernel
theorem dX10_mark_32 : decode cX10_mark 32 = .ok (.i2l, 1) := by decide +kernel
theorem dX10_mark_33 : decode cX10_mark 33 = .ok (.iload_n 2, 1) := by decide +kernel
theorem dX10_mark_34 : decode cX10_mark 34 = .ok (.ifCond .ne 7, 3) := by decide +kernel
theorem dX10_mark_37 : decode cX10_mark 37 = .ok (.lconst 0, 1) := by decide +kernel
theorem dX10_mark_38 : decode cX10_mark 38 = .ok (.goto 6, 3) := by decide +kernel
theorem dX10_mark_41 : decode cX10_mark 41 = .ok (.ldc2_w 76, 3) := by decide +kernel
theorem dX10_mark_44 : decode cX10_mark 44 = .ok (.iload_n 2, 1) := by decide +kernel
theorem dX10_mark_45 : decode cX10_mark 45 = .ok (.ifCond .ne 7, 3) := by decide +kernel
theorem dX10_mark_48 : decode cX10_mark 48 = .ok (.lconst 1, 1) := by decide +kernel
theorem dX10_mark_49 : decode cX10_mark 49 = .ok (.goto 17, 3) := by decide +kernel
theorem dX10_mark_52 : decode cX10_mark 52 = .ok (.iload_n 2, 1) := by decide +kernel
theorem dX10_mark_53 : decode cX10_mark 53 = .ok (.iconst 1, 1) := by decide +kernel
theorem dX10_mark_54 : decode cX10_mark 54 = .ok (.if_icmp .ne 9, 3) := by decide +kernel
theorem dX10_mark_57 : decode cX10_mark 57 = .ok (.ldc2_w 180, 3) := by decide +kernel
theorem dX10_mark_60 : decode cX10_mark 60 = .ok (.goto 6, 3) := by decide +kernel
theorem dX10_mark_63 : decode cX10_mark 63 = .ok (.ldc2_w 182, 3) := by decide +kernel
theorem dX10_mark_66 : decode cX10_mark 66 = .ok (.invokestatic 155, 3) := by decide +kernel
theorem dX10_mark_69 : decode cX10_mark 69 = .ok (.ifCond .ne 6, 3) := by decide +kernel
theorem dX10_mark_72 : decode cX10_mark 72 = .ok (.bipush (-102), 2) := by decide +kernel
theorem dX10_mark_74 : decode cX10_mark 74 = .ok (.ireturn, 1) := by decide +kernel
theorem dX10_mark_75 : decode cX10_mark 75 = .ok (.aload_n 0, 1) := by decide +kernel
theorem dX10_mark_76 : decode cX10_mark 76 = .ok (.invokevirtual 152, 3) := by decide +kernel
theorem dX10_mark_79 : decode cX10_mark 79 = .ok (.iload_n 2, 1) := by decide +kernel
theorem dX10_mark_80 : decode cX10_mark 80 = .ok (.ifCond .ne 20, 3) := by decide +kernel
theorem dX10_mark_83 : decode cX10_mark 83 = .ok (.aload_n 0, 1) := by decide +kernel
theorem dX10_mark_84 : decode cX10_mark 84 = .ok (.getfield 29, 3) := by decide +kernel
theorem dX10_mark_87 : decode cX10_mark 87 = .ok (.iload_n 1, 1) := by decide +kernel
theorem dX10_mark_88 : decode cX10_mark 88 = .ok (.baload, 1) := by decide +kernel
theorem dX10_mark_89 : decode cX10_mark 89 = .ok (.ifCond .eq 7, 3) := by decide +kernel
theorem dX10_mark_92 : decode cX10_mark 92 = .ok (.iconst 1, 1) := by decide +kernel
theorem dX10_mark_93 : decode cX10_mark 93 = .ok (.goto 27, 3) := by decide +kernel
theorem dX10_mark_96 : decode cX10_mark 96 = .ok (.iconst 0, 1) := by decide +kernel
theorem dX10_mark_97 : decode cX10_mark 97 = .ok (.goto 23, 3) := by decide +kernel
theorem dX10_mark_100 : decode cX10_mark 100 = .ok (.iload_n 2, 1) := by decide +kernel
theorem dX10_mark_101 : decode cX10_mark 101 = .ok (.iconst 1, 1) := by decide +kernel
theorem dX10_mark_102 : decode cX10_mark 102 = .ok (.if_icmp .ne 12, 3) := by decide +kernel
theorem dX10_mark_105 : decode cX10_mark 105 = .ok (.aload_n 0, 1) := by decide +kernel
theorem dX10_mark_106 : decode cX10_mark 106 = .ok (.getfield 33, 3) := by decide +kernel
theorem dX10_mark_109 : decode cX10_mark 109 = .ok (.iload_n 1, 1) := by decide +kernel
theorem dX10_mark_110 : decode cX10_mark 110 = .ok (.iaload, 1) := by decide +kernel
theorem dX10_mark_111 : decode cX10_mark 111 = .ok (.goto 9, 3) := by decide +kernel
theorem dX10_mark_114 : decode cX10_mark 114 = .ok (.aload_n 0, 1) := by decide +kernel
theorem dX10_mark_115 : decode cX10_mark 115 = .ok (.getfield 36, 3) := by decide +kernel
theorem dX10_mark_118 : decode cX10_mark 118 = .ok (.iload_n 1, 1) := by decide +kernel
theorem dX10_mark_119 : decode cX10_mark 119 = .ok (.iaload, 1) := by decide +kernel
end
section
theorem dX10_mark_120 : decode cX10_mark 120 = .ok (.istore 4, 2) := by decide +kernel
theorem dX10_mark_122 : decode cX10_mark 122 = .ok (.iload_n 2, 1) := by decide +kernel
theorem dX10_mark_123 : decode cX10_mark 123 = .ok (.ifCond .ne 22, 3) := by decide +kernel
theorem dX10_mark_126 : decode cX10_mark 126 = .ok (.aload_n 0, 1) := by decide +kernel
theorem dX10_mark_127 : decode cX10_mark 127 = .ok (.getfield 29, 3) := by decide +kernel
theorem dX10_mark_130 : decode cX10_mark 130 = .ok (.iload_n 1, 1) := by decide +kernel
theorem dX10_mark_131 : decode cX10_mark 131 = .ok (.iload_n 3, 1) := by decide +kernel
theorem dX10_mark_132 : decode cX10_mark 132 = .ok (.iconst 1, 1) := by decide +kernel
theorem dX10_mark_133 : decode cX10_mark 133 = .ok (.if_icmp .ne 7, 3) := by decide +kernel
theorem dX10_mark_136 : decode cX10_mark 136 = .ok (.iconst 1, 1) := by decide +kernel
theorem dX10_mark_137 : decode cX10_mark 137 = .ok (.goto 4, 3) := by decide +kernel
theorem dX10_mark_140 : decode cX10_mark 140 = .ok (.iconst 0, 1) := by decide +kernel
theorem dX10_mark_141 : decode cX10_mark 141 = .ok (.bastore, 1) := by decide +kernel
theorem dX10_mark_142 : decode cX10_mark 142 = .ok (.goto 25, 3) := by decide +kernel
theorem dX10_mark_145 : decode cX10_mark 145 = .ok (.iload_n 2, 1) := by decide +kernel
theorem dX10_mark_146 : decode cX10_mark 146 = .ok (.iconst 1, 1) := by decide +kernel
theorem dX10_mark_147 : decode cX10_mark 147 = .ok (.if_icmp .ne 13, 3) := by decide +kernel
theorem dX10_mark_150 : decode cX10_mark 150 = .ok (.aload_n 0, 1) := by decide +kernel
theorem dX10_mark_151 : decode cX10_mark 151 = .ok (.getfield 33, 3) := by decide +kernel
theorem dX10_mark_154 : decode cX10_mark 154 = .ok (.iload_n 1, 1) := by decide +kernel
theorem dX10_mark_155 : decode cX10_mark 155 = .ok (.iload_n 3, 1) := by decide +kernel
theorem dX10_mark_156 : decode cX10_mark 156 = .ok (.iastore, 1) := by decide +kernel
theorem dX10_mark_157 : decode cX10_mark 157 = .ok (.goto 10, 3) := by decide +kernel
theorem dX10_mark_160 : decode cX10_mark 160 = .ok (.aload_n 0, 1) := by decide +kernel
theorem dX10_mark_161 : decode cX10_mark 161 = .ok (.getfield 36, 3) := by decide +kernel
theorem dX10_mark_164 : decode cX10_mark 164 = .ok (.iload_n 1, 1) := by decide +kernel
theorem dX10_mark_165 : decode cX10_mark 165 = .ok (.iload_n 3, 1) := by decide +kernel
theorem dX10_mark_166 : decode cX10_mark 166 = .ok (.iastore, 1) := by decide +kernel
theorem dX10_mark_167 : decode cX10_mark 167 = .ok (.iload 4, 2) := by decide +kernel
theorem dX10_mark_169 : decode cX10_mark 169 = .ok (.ireturn, 1) := by decide +kernel
theorem dX10_symbol_0 : decode cX10_symbol 0 = .ok (.iload_n 1, 1) := by decide +kernel
theorem dX10_symbol_1 : decode cX10_symbol 1 = .ok (.i2l, 1) := by decide +kernel
theorem dX10_symbol_2 : decode cX10_symbol 2 = .ok (.lconst 0, 1) := by decide +kernel
theorem dX10_symbol_3 : decode cX10_symbol 3 = .ok (.aload_n 0, 1) := by decide +kernel
theorem dX10_symbol_4 : decode cX10_symbol 4 = .ok (.getfield 149, 3) := by decide +kernel
theorem dX10_symbol_7 : decode cX10_symbol 7 = .ok (.iconst 1, 1) := by decide +kernel
theorem dX10_symbol_8 : decode cX10_symbol 8 = .ok (.isub, 1) := by decide +kernel
theorem dX10_symbol_9 : decode cX10_symbol 9 = .ok (.i2l, 1) := by decide +kernel
theorem dX10_symbol_10 : decode cX10_symbol 10 = .ok (.invokestatic 155, 3) := by decide +kernel
theorem dX10_symbol_13 : decode cX10_symbol 13 = .ok (.ifCond .eq 31, 3) := by decide +kernel
theorem dX10_symbol_16 : decode cX10_symbol 16 = .ok (.iload_n 3, 1) := by decide +kernel
theorem dX10_symbol_17 : decode cX10_symbol 17 = .ok (.bipush (-17), 2) := by decide +kernel
theorem dX10_symbol_19 : decode cX10_symbol 19 = .ok (.if_icmp .lt 25, 3) := by decide +kernel
theorem dX10_symbol_22 : decode cX10_symbol 22 = .ok (.iload_n 3, 1) := by decide +kernel
theorem dX10_symbol_23 : decode cX10_symbol 23 = .ok (.aload_n 0, 1) := by decide +kernel
theorem dX10_symbol_24 : decode cX10_symbol 24 = .ok (.getfield 165, 3) := by decide +kernel
theorem dX10_symbol_27 : decode cX10_symbol 27 = .ok (.if_icmp .ge 17, 3) := by decide +kernel
theorem dX10_symbol_30 : decode cX10_symbol 30 = .ok (.iload_n 3, 1) := by decide +kernel
theorem dX10_symbol_31 : decode cX10_symbol 31 = .ok (.ifCond .lt 16, 3) := by decide +kernel
theorem dX10_symbol_34 : decode cX10_symbol 34 = .ok (.aload_n 0, 1) := by decide +kernel
theorem dX10_symbol_35 : decode cX10_symbol 35 = .ok (.getfield 13, 3) := by decide +kernel
theorem dX10_symbol_38 : decode cX10_symbol 38 = .ok (.iload_n 3, 1) := by decide +kernel
theorem dX10_symbol_39 : decode cX10_symbol 39 = .ok (.iaload, 1) := by decide +kernel
theorem dX10_symbol_40 : decode cX10_symbol 40 = .ok (.iload_n 1, 1) := by decide +kernel
theorem dX10_symbol_41 : decode cX10_symbol 41 = .ok (.if_icmp .eq 6, 3) := by decide +kernel
theorem dX10_symbol_44 : decode cX10_symbol 44 = .ok (.bipush (-101), 2) := by decide +kernel
theorem dX10_symbol_46 : decode cX10_symbol 46 = .ok (.ireturn, 1) := by decide +kernel
theorem dX10_symbol_47 : decode cX10_symbol 47 = .ok (.iload_n 3, 1) := by decide +kernel
theorem dX10_symbol_48 : decode cX10_symbol 48 = .ok (.ifCond .lt 7, 3) := by decide +kernel
theorem dX10_symbol_51 : decode cX10_symbol 51 = .ok (.iconst 1, 1) := by decide +kernel
theorem dX10_symbol_52 : decode cX10_symbol 52 = .ok (.goto 4, 3) := by decide +kernel
theorem dX10_symbol_55 : decode cX10_symbol 55 = .ok (.iconst 0, 1) := by decide +kernel
theorem dX10_symbol_56 : decode cX10_symbol 56 = .ok (.istore 6, 2) := by decide +kernel
theorem dX10_symbol_58 : decode cX10_symbol 58 = .ok (.iload 6, 2) := by decide +kernel
theorem dX10_symbol_60 : decode cX10_symbol 60 = .ok (.ifCond .eq 16, 3) := by decide +kernel
theorem dX10_symbol_63 : decode cX10_symbol 63 = .ok (.iload 5, 2) := by decide +kernel
theorem dX10_symbol_65 : decode cX10_symbol 65 = .ok (.i2l, 1) := by decide +kernel
theorem dX10_symbol_66 : decode cX10_symbol 66 = .ok (.lconst 0, 1) := by decide +kernel
theorem dX10_symbol_67 : decode cX10_symbol 67 = .ok (.ldc2_w 178, 3) := by decide +kernel
theorem dX10_symbol_70 : decode cX10_symbol 70 = .ok (.invokestatic 155, 3) := by decide +kernel
theorem dX10_symbol_73 : decode cX10_symbol 73 = .ok (.goto 31, 3) := by decide +kernel
theorem dX10_symbol_76 : decode cX10_symbol 76 = .ok (.iload_n 3, 1) := by decide +kernel
theorem dX10_symbol_77 : decode cX10_symbol 77 = .ok (.iconst (-1), 1) := by decide +kernel
theorem dX10_symbol_78 : decode cX10_symbol 78 = .ok (.if_icmp .ne 16, 3) := by decide +kernel
theorem dX10_symbol_81 : decode cX10_symbol 81 = .ok (.iload 5, 2) := by decide +kernel
theorem dX10_symbol_83 : decode cX10_symbol 83 = .ok (.i2l, 1) := by decide +kernel
theorem dX10_symbol_84 : decode cX10_symbol 84 = .ok (.lconst 1, 1) := by decide +kernel
theorem dX10_symbol_85 : decode cX10_symbol 85 = .ok (.ldc2_w 178, 3) := by decide +kernel
theorem dX10_symbol_88 : decode cX10_symbol 88 = .ok (.invokestatic 155, 3) := by decide +kernel
theorem dX10_symbol_91 : decode cX10_symbol 91 = .ok (.goto 13, 3) := by decide +kernel
theorem dX10_symbol_94 : decode cX10_symbol 94 = .ok (.iload 5, 2) := by decide +kernel
theorem dX10_symbol_96 : decode cX10_symbol 96 = .ok (.ifCond .ne 7, 3) := by decide +kernel
theorem dX10_symbol_99 : decode cX10_symbol 99 = .ok (.iconst 1, 1) := by decide +kernel
theorem dX10_symbol_100 : decode cX10_symbol 100 = .ok (.goto 4, 3) := by decide +kernel
theorem dX10_symbol_103 : decode cX10_symbol 103 = .ok (.iconst 0, 1) := by decide +kernel
theorem dX10_symbol_104 : decode cX10_symbol 104 = .ok (.istore 7, 2) := by decide +kernel
theorem dX10_symbol_106 : decode cX10_symbol 106 = .ok (.iload_n 2, 1) := by decide +kernel
theorem dX10_symbol_107 : decode cX10_symbol 107 = .ok (.i2l, 1) := by decide +kernel
theorem dX10_symbol_108 : decode cX10_symbol 108 = .ok (.lconst 0, 1) := by decide +kernel
theorem dX10_symbol_109 : decode cX10_symbol 109 = .ok (.ldc2_w 184, 3) := by decide +kernel
theorem dX10_symbol_112 : decode cX10_symbol 112 = .ok (.invokestatic 155, 3) := by decide +kernel
theorem dX10_symbol_115 : decode cX10_symbol 115 = .ok (.ifCond .eq 34, 3) := by decide +kernel
theorem dX10_symbol_118 : decode cX10_symbol 118 = .ok (.iload 4, 2) := by decide +kernel
theorem dX10_symbol_120 : decode cX10_symbol 120 = .ok (.i2l, 1) := by decide +kernel
theorem dX10_symbol_121 : decode cX10_symbol 121 = .ok (.lconst 0, 1) := by decide +kernel
theorem dX10_symbol_122 : decode cX10_symbol 122 = .ok (.iload 6, 2) := by decide +kernel
theorem dX10_symbol_124 : decode cX10_symbol 124 = .ok (.ifCond .eq 13, 3) := by decide +kernel
theorem dX10_symbol_127 : decode cX10_symbol 127 = .ok (.aload_n 0, 1) := by decide +kernel
theorem dX10_symbol_128 : decode cX10_symbol 128 = .ok (.getfield 20, 3) := by decide +kernel
theorem dX10_symbol_131 : decode cX10_symbol 131 = .ok (.iload_n 3, 1) := by decide +kernel
theorem dX10_symbol_132 : decode cX10_symbol 132 = .ok (.iaload, 1) := by decide +kernel
theorem dX10_symbol_133 : decode cX10_symbol 133 = .ok (.i2l, 1) := by decide +kernel
theorem dX10_symbol_134 : decode cX10_symbol 134 = .ok (.goto 4, 3) := by decide +kernel
theorem dX10_symbol_137 : decode cX10_symbol 137 = .ok (.lconst 0, 1) := by decide +kernel
theorem dX10_symbol_138 : decode cX10_symbol 138 = .ok (.invokestatic 155, 3) := by decide +kernel
theorem dX10_symbol_141 : decode cX10_symbol 141 = .ok (.ifCond .eq 8, 3) := by decide +kernel
theorem dX10_symbol_144 : decode cX10_symbol 144 = .ok (.iload 7, 2) := by decide +kernel
theorem dX10_symbol_146 : decode cX10_symbol 146 = .ok (.ifCond .ne 6, 3) := by decide +kernel
theorem dX10_symbol_149 : decode cX10_symbol 149 = .ok (.bipush (-102), 2) := by decide +kernel
theorem dX10_symbol_151 : decode cX10_symbol 151 = .ok (.ireturn, 1) := by decide +kernel
theorem dX10_symbol_152 : decode cX10_symbol 152 = .ok (.aload_n 0, 1) := by decide +kernel
theorem dX10_symbol_153 : decode cX10_symbol 153 = .ok (.getfield 186, 3) := by decide +kernel
theorem dX10_symbol_156 : decode cX10_symbol 156 = .ok (.bipush 120, 2) := by decide +kernel
theorem dX10_symbol_158 : decode cX10_symbol 158 = .ok (.if_icmp .ne 6, 3) := by decide +kernel
theorem dX10_symbol_161 : decode cX10_symbol 161 = .ok (.bipush (-104), 2) := by decide +kernel
theorem dX10_symbol_163 : decode cX10_symbol 163 = .ok (.ireturn, 1) := by decide +kernel
theorem dX10_symbol_164 : decode cX10_symbol 164 = .ok (.aload_n 0, 1) := by decide +kernel
theorem dX10_symbol_165 : decode cX10_symbol 165 = .ok (.invokevirtual 152, 3) := by decide +kernel
theorem dX10_symbol_168 : decode cX10_symbol 168 = .ok (.aload_n 0, 1) := by decide +kernel
theorem dX10_symbol_169 : decode cX10_symbol 169 = .ok (.getfield 186, 3) := by decide +kernel
theorem dX10_symbol_172 : decode cX10_symbol 172 = .ok (.istore 8, 2) := by decide +kernel
theorem dX10_symbol_174 : decode cX10_symbol 174 = .ok (.aload_n 0, 1) := by decide +kernel
theorem dX10_symbol_175 : decode cX10_symbol 175 = .ok (.getfield 43, 3) := by decide +kernel
theorem dX10_symbol_178 : decode cX10_symbol 178 = .ok (.iload 8, 2) := by decide +kernel
theorem dX10_symbol_180 : decode cX10_symbol 180 = .ok (.iload_n 1, 1) := by decide +kernel
theorem dX10_symbol_181 : decode cX10_symbol 181 = .ok (.iastore, 1) := by decide +kernel
theorem dX10_symbol_182 : decode cX10_symbol 182 = .ok (.aload_n 0, 1) := by decide +kernel
theorem dX10_symbol_183 : decode cX10_symbol 183 = .ok (.getfield 46, 3) := by decide +kernel
theorem dX10_symbol_186 : decode cX10_symbol 186 = .ok (.iload 8, 2) := by decide +kernel
theorem dX10_symbol_188 : decode cX10_symbol 188 = .ok (.iload_n 2, 1) := by decide +kernel
theorem dX10_symbol_189 : decode cX10_symbol 189 = .ok (.iastore, 1) := by decide +kernel
theorem dX10_symbol_190 : decode cX10_symbol 190 = .ok (.aload_n 0, 1) := by decide +kernel
theorem dX10_symbol_191 : decode cX10_symbol 191 = .ok (.getfield 49, 3) := by decide +kernel
theorem dX10_symbol_194 : decode cX10_symbol 194 = .ok (.iload 8, 2) := by decide +kernel
theorem dX10_symbol_196 : decode cX10_symbol 196 = .ok (.iload_n 3, 1) := by decide +kernel
theorem dX10_symbol_197 : decode cX10_symbol 197 = .ok (.iastore, 1) := by decide +kernel
theorem dX10_symbol_198 : decode cX10_symbol 198 = .ok (.aload_n 0, 1) := by decide +kernel
theorem dX10_symbol_199 : decode cX10_symbol 199 = .ok (.getfield 52, 3) := by decide +kernel
theorem dX10_symbol_202 : decode cX10_symbol 202 = .ok (.iload 8, 2) := by decide +kernel
theorem dX10_symbol_204 : decode cX10_symbol 204 = .ok (.iload 4, 2) := by decide +kernel
theorem dX10_symbol_206 : decode cX10_symbol 206 = .ok (.iastore, 1) := by decide +kernel
theorem dX10_symbol_207 : decode cX10_symbol 207 = .ok (.aload_n 0, 1) := by decide +kernel
theorem dX10_symbol_208 : decode cX10_symbol 208 = .ok (.getfield 55, 3) := by decide +kernel
theorem dX10_symbol_211 : decode cX10_symbol 211 = .ok (.iload 8, 2) := by decide +kernel
theorem dX10_symbol_213 : decode cX10_symbol 213 = .ok (.iload 5, 2) := by decide +kernel
theorem dX10_symbol_215 : decode cX10_symbol 215 = .ok (.iastore, 1) := by decide +kernel
theorem dX10_symbol_216 : decode cX10_symbol 216 = .ok (.aload_n 0, 1) := by decide +kernel
theorem dX10_symbol_217 : decode cX10_symbol 217 = .ok (.dup, 1) := by decide +kernel
theorem dX10_symbol_218 : decode cX10_symbol 218 = .ok (.getfield 186, 3) := by decide +kernel
theorem dX10_symbol_221 : decode cX10_symbol 221 = .ok (.iconst 1, 1) := by decide +kernel
theorem dX10_symbol_222 : decode cX10_symbol 222 = .ok (.iadd, 1) := by decide +kernel
theorem dX10_symbol_223 : decode cX10_symbol 223 = .ok (.putfield 186, 3) := by decide +kernel
theorem dX10_symbol_226 : decode cX10_symbol 226 = .ok (.iload 8, 2) := by decide +kernel
theorem dX10_symbol_228 : decode cX10_symbol 228 = .ok (.ireturn, 1) := by decide +kernel
theorem dX10_wide_0 : decode cX10_wide 0 = .ok (.iload_n 0, 1) := by decide +kernel
theorem dX10_wide_1 : decode cX10_wide 1 = .ok (.ifCond .eq 8, 3) := by decide +kernel
theorem dX10_wide_4 : decode cX10_wide 4 = .ok (.iload_n 0, 1) := by decide +kernel
theorem dX10_wide_5 : decode cX10_wide 5 = .ok (.iconst 2, 1) := by decide +kernel
theorem dX10_wide_6 : decode cX10_wide 6 = .ok (.if_icmp .ne 7, 3) := by decide +kernel
theorem dX10_wide_9 : decode cX10_wide 9 = .ok (.iconst 4, 1) := by decide +kernel
theorem dX10_wide_10 : decode cX10_wide 10 = .ok (.goto 13, 3) := by decide +kernel
theorem dX10_wide_13 : decode cX10_wide 13 = .ok (.iload_n 0, 1) := by decide +kernel
theorem dX10_wide_14 : decode cX10_wide 14 = .ok (.iconst 4, 1) := by decide +kernel
theorem dX10_wide_15 : decode cX10_wide 15 = .ok (.if_icmp .ne 7, 3) := by decide +kernel
theorem dX10_wide_18 : decode cX10_wide 18 = .ok (.iconst 1, 1) := by decide +kernel
theorem dX10_wide_19 : decode cX10_wide 19 = .ok (.goto 4, 3) := by decide +kernel
theorem dX10_wide_22 : decode cX10_wide 22 = .ok (.iconst 2, 1) := by decide +kernel
theorem dX10_wide_23 : decode cX10_wide 23 = .ok (.ireturn, 1) := by decide +kernel
theorem dX10_relocation_0 : decode cX10_relocation 0 = .ok (.aload_n 0, 1) := by decide +kernel
theorem dX10_relocation_1 : decode cX10_relocation 1 = .ok (.iload_n 1, 1) := by decide +kernel
theorem dX10_relocation_2 : decode cX10_relocation 2 = .ok (.invokevirtual 174, 3) := by decide +kernel
theorem dX10_relocation_5 : decode cX10_relocation 5 = .ok (.ifCond .eq 36, 3) := by decide +kernel
theorem dX10_relocation_8 : decode cX10_relocation 8 = .ok (.iload 4, 2) := by decide +kernel
theorem dX10_relocation_10 : decode cX10_relocation 10 = .ok (.i2l, 1) := by decide +kernel
theorem dX10_relocation_11 : decode cX10_relocation 11 = .ok (.lconst 0, 1) := by decide +kernel
theorem dX10_relocation_12 : decode cX10_relocation 12 = .ok (.aload_n 0, 1) := by decide +kernel
theorem dX10_relocation_13 : decode cX10_relocation 13 = .ok (.getfield 186, 3) := by decide +kernel
theorem dX10_relocation_16 : decode cX10_relocation 16 = .ok (.iconst 1, 1) := by decide +kernel
theorem dX10_relocation_17 : decode cX10_relocation 17 = .ok (.isub, 1) := by decide +kernel
theorem dX10_relocation_18 : decode cX10_relocation 18 = .ok (.i2l, 1) := by decide +kernel
theorem dX10_relocation_19 : decode cX10_relocation 19 = .ok (.invokestatic 155, 3) := by decide +kernel
theorem dX10_relocation_22 : decode cX10_relocation 22 = .ok (.ifCond .eq 19, 3) := by decide +kernel
theorem dX10_relocation_25 : decode cX10_relocation 25 = .ok (.aload_n 0, 1) := by decide +kernel
theorem dX10_relocation_26 : decode cX10_relocation 26 = .ok (.getfield 43, 3) := by decide +kernel
theorem dX10_relocation_29 : decode cX10_relocation 29 = .ok (.iload 4, 2) := by decide +kernel
theorem dX10_relocation_31 : decode cX10_relocation 31 = .ok (.iaload, 1) := by decide +kernel
theorem dX10_relocation_32 : decode cX10_relocation 32 = .ok (.aload_n 0, 1) := by decide +kernel
theorem dX10_relocation_33 : decode cX10_relocation 33 = .ok (.getfield 13, 3) := by decide +kernel
theorem dX10_relocation_36 : decode cX10_relocation 36 = .ok (.iload_n 1, 1) := by decide +kernel
theorem dX10_relocation_37 : decode cX10_relocation 37 = .ok (.iaload, 1) := by decide +kernel
theorem dX10_relocation_38 : decode cX10_relocation 38 = .ok (.if_icmp .eq 6, 3) := by decide +kernel
theorem dX10_relocation_41 : decode cX10_relocation 41 = .ok (.bipush (-101), 2) := by decide +kernel
theorem dX10_relocation_43 : decode cX10_relocation 43 = .ok (.ireturn, 1) := by decide +kernel
theorem dX10_relocation_44 : decode cX10_relocation 44 = .ok (.iload_n 3, 1) := by decide +kernel
theorem dX10_relocation_45 : decode cX10_relocation 45 = .ok (.i2l, 1) := by decide +kernel
theorem dX10_relocation_46 : decode cX10_relocation 46 = .ok (.lconst 0, 1) := by decide +kernel
theorem dX10_relocation_47 : decode cX10_relocation 47 = .ok (.ldc2_w 189, 3) := by decide +kernel
theorem dX10_relocation_50 : decode cX10_relocation 50 = .ok (.invokestatic 155, 3) := by decide +kernel
theorem dX10_relocation_53 : decode cX10_relocation 53 = .ok (.ifCond .eq 38, 3) := by decide +kernel
theorem dX10_relocation_56 : decode cX10_relocation 56 = .ok (.iload_n 2, 1) := by decide +kernel
theorem dX10_relocation_57 : decode cX10_relocation 57 = .ok (.i2l, 1) := by decide +kernel
theorem dX10_relocation_58 : decode cX10_relocation 58 = .ok (.lconst 0, 1) := by decide +kernel
theorem dX10_relocation_59 : decode cX10_relocation 59 = .ok (.aload_n 0, 1) := by decide +kernel
theorem dX10_relocation_60 : decode cX10_relocation 60 = .ok (.getfield 20, 3) := by decide +kernel
theorem dX10_relocation_63 : decode cX10_relocation 63 = .ok (.iload_n 1, 1) := by decide +kernel
theorem dX10_relocation_64 : decode cX10_relocation 64 = .ok (.iaload, 1) := by decide +kernel
theorem dX10_relocation_65 : decode cX10_relocation 65 = .ok (.iload_n 3, 1) := by decide +kernel
theorem dX10_relocation_66 : decode cX10_relocation 66 = .ok (.invokestatic 191, 3) := by decide +kernel
theorem dX10_relocation_69 : decode cX10_relocation 69 = .ok (.isub, 1) := by decide +kernel
theorem dX10_relocation_70 : decode cX10_relocation 70 = .ok (.i2l, 1) := by decide +kernel
theorem dX10_relocation_71 : decode cX10_relocation 71 = .ok (.invokestatic 155, 3) := by decide +kernel
theorem dX10_relocation_74 : decode cX10_relocation 74 = .ok (.ifCond .eq 17, 3) := by decide +kernel
theorem dX10_relocation_77 : decode cX10_relocation 77 = .ok (.iload_n 3, 1) := by decide +kernel
theorem dX10_relocation_78 : decode cX10_relocation 78 = .ok (.iconst 3, 1) := by decide +kernel
theorem dX10_relocation_79 : decode cX10_relocation 79 = .ok (.if_icmp .ne 15, 3) := by decide +kernel
theorem dX10_relocation_82 : decode cX10_relocation 82 = .ok (.aload_n 0, 1) := by decide +kernel
theorem dX10_relocation_83 : decode cX10_relocation 83 = .ok (.getfield 17, 3) := by decide +kernel
theorem dX10_relocation_86 : decode cX10_relocation 86 = .ok (.iload_n 1, 1) := by decide +kernel
theorem dX10_relocation_87 : decode cX10_relocation 87 = .ok (.iaload, 1) := by decide +kernel
theorem dX10_relocation_88 : decode cX10_relocation 88 = .ok (.ifCond .eq 6, 3) := by decide +kernel
theorem dX10_relocation_91 : decode cX10_relocation 91 = .ok (.bipush (-102), 2) := by decide +kernel
theorem dX10_relocation_93 : decode cX10_relocation 93 = .ok (.ireturn, 1) := by decide +kernel
theorem dX10_relocation_94 : decode cX10_relocation 94 = .ok (.aload_n 0, 1) := by decide +kernel
theorem dX10_relocation_95 : decode cX10_relocation 95 = .ok (.getfield 195, 3) := by decide +kernel
theorem dX10_relocation_98 : decode cX10_relocation 98 = .ok (.sipush 200, 3) := by decide +kernel
theorem dX10_relocation_101 : decode cX10_relocation 101 = .ok (.if_icmp .ne 6, 3) := by decide +kernel
theorem dX10_relocation_104 : decode cX10_relocation 104 = .ok (.bipush (-104), 2) := by decide +kernel
theorem dX10_relocation_106 : decode cX10_relocation 106 = .ok (.ireturn, 1) := by decide +kernel
theorem dX10_relocation_107 : decode cX10_relocation 107 = .ok (.aload_n 0, 1) := by decide +kernel
theorem dX10_relocation_108 : decode cX10_relocation 108 = .ok (.invokevirtual 152, 3) := by decide +kernel
theorem dX10_relocation_111 : decode cX10_relocation 111 = .ok (.aload_n 0, 1) := by decide +kernel
theorem dX10_relocation_112 : decode cX10_relocation 112 = .ok (.getfield 195, 3) := by decide +kernel
theorem dX10_relocation_115 : decode cX10_relocation 115 = .ok (.istore 6, 2) := by decide +kernel
theorem dX10_relocation_117 : decode cX10_relocation 117 = .ok (.aload_n 0, 1) := by decide +kernel
theorem dX10_relocation_118 : decode cX10_relocation 118 = .ok (.getfield 58, 3) := by decide +kernel
theorem dX10_relocation_121 : decode cX10_relocation 121 = .ok (.iload 6, 2) := by decide +kernel
theorem dX10_relocation_123 : decode cX10_relocation 123 = .ok (.iload_n 1, 1) := by decide +kernel
theorem dX10_relocation_124 : decode cX10_relocation 124 = .ok (.iastore, 1) := by decide +kernel
theorem dX10_relocation_125 : decode cX10_relocation 125 = .ok (.aload_n 0, 1) := by decide +kernel
theorem dX10_relocation_126 : decode cX10_relocation 126 = .ok (.getfield 61, 3) := by decide +kernel
theorem dX10_relocation_129 : decode cX10_relocation 129 = .ok (.iload 6, 2) := by decide +kernel
theorem dX10_relocation_131 : decode cX10_relocation 131 = .ok (.iload_n 2, 1) := by decide +kernel
theorem dX10_relocation_132 : decode cX10_relocation 132 = .ok (.iastore, 1) := by decide +kernel
theorem dX10_relocation_133 : decode cX10_relocation 133 = .ok (.aload_n 0, 1) := by decide +kernel
theorem dX10_relocation_134 : decode cX10_relocation 134 = .ok (.getfield 64, 3) := by decide +kernel
theorem dX10_relocation_137 : decode cX10_relocation 137 = .ok (.iload 6, 2) := by decide +kernel
theorem dX10_relocation_139 : decode cX10_relocation 139 = .ok (.iload_n 3, 1) := by decide +kernel
theorem dX10_relocation_140 : decode cX10_relocation 140 = .ok (.iastore, 1) := by decide +kernel
theorem dX10_relocation_141 : decode cX10_relocation 141 = .ok (.aload_n 0, 1) := by decide +kernel
theorem dX10_relocation_142 : decode cX10_relocation 142 = .ok (.getfield 67, 3) := by decide +kernel
theorem dX10_relocation_145 : decode cX10_relocation 145 = .ok (.iload 6, 2) := by decide +kernel
theorem dX10_relocation_147 : decode cX10_relocation 147 = .ok (.iload 4, 2) := by decide +kernel
theorem dX10_relocation_149 : decode cX10_relocation 149 = .ok (.iastore, 1) := by decide +kernel
theorem dX10_relocation_150 : decode cX10_relocation 150 = .ok (.aload_n 0, 1) := by decide +kernel
theorem dX10_relocation_151 : decode cX10_relocation 151 = .ok (.getfield 70, 3) := by decide +kernel
theorem dX10_relocation_154 : decode cX10_relocation 154 = .ok (.iload 6, 2) := by decide +kernel
theorem dX10_relocation_156 : decode cX10_relocation 156 = .ok (.iload 5, 2) := by decide +kernel
theorem dX10_relocation_158 : decode cX10_relocation 158 = .ok (.iastore, 1) := by decide +kernel
theorem dX10_relocation_159 : decode cX10_relocation 159 = .ok (.aload_n 0, 1) := by decide +kernel
theorem dX10_relocation_160 : decode cX10_relocation 160 = .ok (.dup, 1) := by decide +kernel
theorem dX10_relocation_161 : decode cX10_relocation 161 = .ok (.getfield 195, 3) := by decide +kernel
theorem dX10_relocation_164 : decode cX10_relocation 164 = .ok (.iconst 1, 1) := by decide +kernel
theorem dX10_relocation_165 : decode cX10_relocation 165 = .ok (.iadd, 1) := by decide +kernel
theorem dX10_relocation_166 : decode cX10_relocation 166 = .ok (.putfield 195, 3) := by decide +kernel
theorem dX10_relocation_169 : decode cX10_relocation 169 = .ok (.iload 6, 2) := by decide +kernel
theorem dX10_relocation_171 : decode cX10_relocation 171 = .ok (.ireturn, 1) := by decide +kernel
theorem dX10_root_0 : decode cX10_root 0 = .ok (.iload_n 1, 1) := by decide +kernel
theorem dX10_root_1 : decode cX10_root 1 = .ok (.i2l, 1) := by decide +kernel
theorem dX10_root_2 : decode cX10_root 2 = .ok (.lconst 0, 1) := by decide +kernel
theorem dX10_root_3 : decode cX10_root 3 = .ok (.ldc2_w 184, 3) := by decide +kernel
theorem dX10_root_6 : decode cX10_root 6 = .ok (.invokestatic 155, 3) := by decide +kernel
theorem dX10_root_9 : decode cX10_root 9 = .ok (.ifCond .ne 6, 3) := by decide +kernel
theorem dX10_root_12 : decode cX10_root 12 = .ok (.bipush (-102), 2) := by decide +kernel
theorem dX10_root_14 : decode cX10_root 14 = .ok (.ireturn, 1) := by decide +kernel
theorem dX10_root_15 : decode cX10_root 15 = .ok (.aload_n 0, 1) := by decide +kernel
theorem dX10_root_16 : decode cX10_root 16 = .ok (.getfield 198, 3) := by decide +kernel
theorem dX10_root_19 : decode cX10_root 19 = .ok (.bipush 8, 2) := by decide +kernel
theorem dX10_root_21 : decode cX10_root 21 = .ok (.if_icmp .ne 6, 3) := by decide +kernel
theorem dX10_root_24 : decode cX10_root 24 = .ok (.bipush (-104), 2) := by decide +kernel
theorem dX10_root_26 : decode cX10_root 26 = .ok (.ireturn, 1) := by decide +kernel
theorem dX10_root_27 : decode cX10_root 27 = .ok (.aload_n 0, 1) := by decide +kernel
theorem dX10_root_28 : decode cX10_root 28 = .ok (.invokevirtual 152, 3) := by decide +kernel
theorem dX10_root_31 : decode cX10_root 31 = .ok (.aload_n 0, 1) := by decide +kernel
theorem dX10_root_32 : decode cX10_root 32 = .ok (.getfield 73, 3) := by decide +kernel
theorem dX10_root_35 : decode cX10_root 35 = .ok (.aload_n 0, 1) := by decide +kernel
theorem dX10_root_36 : decode cX10_root 36 = .ok (.getfield 198, 3) := by decide +kernel
theorem dX10_root_39 : decode cX10_root 39 = .ok (.iload_n 1, 1) := by decide +kernel
theorem dX10_root_40 : decode cX10_root 40 = .ok (.iastore, 1) := by decide +kernel
theorem dX10_root_41 : decode cX10_root 41 = .ok (.aload_n 0, 1) := by decide +kernel
theorem dX10_root_42 : decode cX10_root 42 = .ok (.dup, 1) := by decide +kernel
theorem dX10_root_43 : decode cX10_root 43 = .ok (.getfield 198, 3) := by decide +kernel
theorem dX10_root_46 : decode cX10_root 46 = .ok (.iconst 1, 1) := by decide +kernel
theorem dX10_root_47 : decode cX10_root 47 = .ok (.iadd, 1) := by decide +kernel
theorem dX10_root_48 : decode cX10_root 48 = .ok (.putfield 198, 3) := by decide +kernel
theorem dX10_root_51 : decode cX10_root 51 = .ok (.aload_n 0, 1) := by decide +kernel
theorem dX10_root_52 : decode cX10_root 52 = .ok (.getfield 198, 3) := by decide +kernel
theorem dX10_root_55 : decode cX10_root 55 = .ok (.ireturn, 1) := by decide +kernel
theorem dX10_base_0 : decode cX10_base 0 = .ok (.iload_n 1, 1) := by decide +kernel
theorem dX10_base_1 : decode cX10_base 1 = .ok (.i2l, 1) := by decide +kernel
theorem dX10_base_2 : decode cX10_base 2 = .ok (.lconst 0, 1) := by decide +kernel
theorem dX10_base_3 : decode cX10_base 3 = .ok (.ldc2_w 159, 3) := by decide +kernel
theorem dX10_base_6 : decode cX10_base 6 = .ok (.invokestatic 155, 3) := by decide +kernel
theorem dX10_base_9 : decode cX10_base 9 = .ok (.ifCond .eq 17, 3) := by decide +kernel
theorem dX10_base_12 : decode cX10_base 12 = .ok (.iload_n 2, 1) := by decide +kernel
theorem dX10_base_13 : decode cX10_base 13 = .ok (.i2l, 1) := by decide +kernel
theorem dX10_base_14 : decode cX10_base 14 = .ok (.ldc2_w 76, 3) := by decide +kernel
theorem dX10_base_17 : decode cX10_base 17 = .ok (.ldc2_w 201, 3) := by decide +kernel
theorem dX10_base_20 : decode cX10_base 20 = .ok (.invokestatic 155, 3) := by decide +kernel
theorem dX10_base_23 : decode cX10_base 23 = .ok (.ifCond .ne 6, 3) := by decide +kernel
theorem dX10_base_26 : decode cX10_base 26 = .ok (.bipush (-102), 2) := by decide +kernel
theorem dX10_base_28 : decode cX10_base 28 = .ok (.ireturn, 1) := by decide +kernel
theorem dX10_base_29 : decode cX10_base 29 = .ok (.aload_n 0, 1) := by decide +kernel
theorem dX10_base_30 : decode cX10_base 30 = .ok (.invokevirtual 152, 3) := by decide +kernel
theorem dX10_base_33 : decode cX10_base 33 = .ok (.aload_n 0, 1) := by decide +kernel
theorem dX10_base_34 : decode cX10_base 34 = .ok (.getfield 78, 3) := by decide +kernel
theorem dX10_base_37 : decode cX10_base 37 = .ok (.iload_n 1, 1) := by decide +kernel
theorem dX10_base_38 : decode cX10_base 38 = .ok (.laload, 1) := by decide +kernel
theorem dX10_base_39 : decode cX10_base 39 = .ok (.l2i, 1) := by decide +kernel
theorem dX10_base_40 : decode cX10_base 40 = .ok (.istore_n 3, 1) := by decide +kernel
theorem dX10_base_41 : decode cX10_base 41 = .ok (.aload_n 0, 1) := by decide +kernel
theorem dX10_base_42 : decode cX10_base 42 = .ok (.getfield 78, 3) := by decide +kernel
theorem dX10_base_45 : decode cX10_base 45 = .ok (.iload_n 1, 1) := by decide +kernel
theorem dX10_base_46 : decode cX10_base 46 = .ok (.iload_n 2, 1) := by decide +kernel
theorem dX10_base_47 : decode cX10_base 47 = .ok (.i2l, 1) := by decide +kernel
theorem dX10_base_48 : decode cX10_base 48 = .ok (.lastore, 1) := by decide +kernel
theorem dX10_base_49 : decode cX10_base 49 = .ok (.iload_n 3, 1) := by decide +kernel
theorem dX10_base_50 : decode cX10_base 50 = .ok (.ireturn, 1) := by decide +kernel
theorem dX10_names_0 : decode cX10_names 0 = .ok (.iconst 0, 1) := by decide +kernel
theorem dX10_names_1 : decode cX10_names 1 = .ok (.istore_n 1, 1) := by decide +kernel
theorem dX10_names_2 : decode cX10_names 2 = .ok (.iload_n 1, 1) := by decide +kernel
theorem dX10_names_3 : decode cX10_names 3 = .ok (.aload_n 0, 1) := by decide +kernel
theorem dX10_names_4 : decode cX10_names 4 = .ok (.getfield 165, 3) := by decide +kernel
theorem dX10_names_7 : decode cX10_names 7 = .ok (.if_icmp .ge 92, 3) := by decide +kernel
theorem dX10_names_10 : decode cX10_names 10 = .ok (.aload_n 0, 1) := by decide +kernel
theorem dX10_names_11 : decode cX10_names 11 = .ok (.getfield 85, 3) := by decide +kernel
theorem dX10_names_14 : decode cX10_names 14 = .ok (.iload_n 1, 1) := by decide +kernel
theorem dX10_names_15 : decode cX10_names 15 = .ok (.iconst 0, 1) := by decide +kernel
theorem dX10_names_16 : decode cX10_names 16 = .ok (.bastore, 1) := by decide +kernel
theorem dX10_names_17 : decode cX10_names 17 = .ok (.iconst 0, 1) := by decide +kernel
theorem dX10_names_18 : decode cX10_names 18 = .ok (.istore_n 2, 1) := by decide +kernel
theorem dX10_names_19 : decode cX10_names 19 = .ok (.iload_n 2, 1) := by decide +kernel
theorem dX10_names_20 : decode cX10_names 20 = .ok (.aload_n 0, 1) := by decide +kernel
theorem dX10_names_21 : decode cX10_names 21 = .ok (.getfield 165, 3) := by decide +kernel
theorem dX10_names_24 : decode cX10_names 24 = .ok (.if_icmp .ge 69, 3) := by decide +kernel
theorem dX10_names_27 : decode cX10_names 27 = .ok (.aload_n 0, 1) := by decide +kernel
theorem dX10_names_28 : decode cX10_names 28 = .ok (.getfield 85, 3) := by decide +kernel
theorem dX10_names_31 : decode cX10_names 31 = .ok (.iload_n 1, 1) := by decide +kernel
theorem dX10_names_32 : decode cX10_names 32 = .ok (.aload_n 0, 1) := by decide +kernel
theorem dX10_names_33 : decode cX10_names 33 = .ok (.getfield 85, 3) := by decide +kernel
theorem dX10_names_36 : decode cX10_names 36 = .ok (.iload_n 1, 1) := by decide +kernel
theorem dX10_names_37 : decode cX10_names 37 = .ok (.baload, 1) := by decide +kernel
theorem dX10_names_38 : decode cX10_names 38 = .ok (.ifCond .ne 43, 3) := by decide +kernel
theorem dX10_names_41 : decode cX10_names 41 = .ok (.aload_n 0, 1) := by decide +kernel
theorem dX10_names_42 : decode cX10_names 42 = .ok (.getfield 36, 3) := by decide +kernel
theorem dX10_names_45 : decode cX10_names 45 = .ok (.iload_n 1, 1) := by decide +kernel
theorem dX10_names_46 : decode cX10_names 46 = .ok (.iaload, 1) := by decide +kernel
theorem dX10_names_47 : decode cX10_names 47 = .ok (.iconst (-1), 1) := by decide +kernel
theorem dX10_names_48 : decode cX10_names 48 = .ok (.if_icmp .eq 37, 3) := by decide +kernel
theorem dX10_names_51 : decode cX10_names 51 = .ok (.aload_n 0, 1) := by decide +kernel
theorem dX10_names_52 : decode cX10_names 52 = .ok (.getfield 36, 3) := by decide +kernel
theorem dX10_names_55 : decode cX10_names 55 = .ok (.iload_n 2, 1) := by decide +kernel
theorem dX10_names_56 : decode cX10_names 56 = .ok (.iaload, 1) := by decide +kernel
theorem dX10_names_57 : decode cX10_names 57 = .ok (.aload_n 0, 1) := by decide +kernel
theorem dX10_names_58 : decode cX10_names 58 = .ok (.getfield 36, 3) := by decide +kernel
theorem dX10_names_61 : decode cX10_names 61 = .ok (.iload_n 1, 1) := by decide +kernel
theorem dX10_names_62 : decode cX10_names 62 = .ok (.iaload, 1) := by decide +kernel
theorem dX10_names_63 : decode cX10_names 63 = .ok (.if_icmp .ne 22, 3) := by decide +kernel
theorem dX10_names_66 : decode cX10_names 66 = .ok (.aload_n 0, 1) := by decide +kernel
theorem dX10_names_67 : decode cX10_names 67 = .ok (.getfield 13, 3) := by decide +kernel
theorem dX10_names_70 : decode cX10_names 70 = .ok (.iload_n 2, 1) := by decide +kernel
theorem dX10_names_71 : decode cX10_names 71 = .ok (.iaload, 1) := by decide +kernel
theorem dX10_names_72 : decode cX10_names 72 = .ok (.aload_n 0, 1) := by decide +kernel
theorem dX10_names_73 : decode cX10_names 73 = .ok (.getfield 13, 3) := by decide +kernel
theorem dX10_names_76 : decode cX10_names 76 = .ok (.iload_n 1, 1) := by decide +kernel
theorem dX10_names_77 : decode cX10_names 77 = .ok (.iaload, 1) := by decide +kernel
theorem dX10_names_78 : decode cX10_names 78 = .ok (.if_icmp .ge 7, 3) := by decide +kernel
theorem dX10_names_81 : decode cX10_names 81 = .ok (.iconst 1, 1) := by decide +kernel
theorem dX10_names_82 : decode cX10_names 82 = .ok (.goto 4, 3) := by decide +kernel
theorem dX10_names_85 : decode cX10_names 85 = .ok (.iconst 0, 1) := by decide +kernel
theorem dX10_names_86 : decode cX10_names 86 = .ok (.bastore, 1) := by decide +kernel
theorem dX10_names_87 : decode cX10_names 87 = .ok (.iinc 2 1, 3) := by decide +kernel
theorem dX10_names_90 : decode cX10_names 90 = .ok (.goto (-71), 3) := by decide +kernel
theorem dX10_names_93 : decode cX10_names 93 = .ok (.iinc 1 1, 3) := by decide +kernel
theorem dX10_names_96 : decode cX10_names 96 = .ok (.goto (-94), 3) := by decide +kernel
theorem dX10_names_99 : decode cX10_names 99 = .ok (.iconst (-1), 1) := by decide +kernel
theorem dX10_names_100 : decode cX10_names 100 = .ok (.istore_n 1, 1) := by decide +kernel
theorem dX10_names_101 : decode cX10_names 101 = .ok (.iconst 0, 1) := by decide +kernel
theorem dX10_names_102 : decode cX10_names 102 = .ok (.istore_n 2, 1) := by decide +kernel
theorem dX10_names_103 : decode cX10_names 103 = .ok (.iload_n 2, 1) := by decide +kernel
theorem dX10_names_104 : decode cX10_names 104 = .ok (.bipush 64, 2) := by decide +kernel
theorem dX10_names_106 : decode cX10_names 106 = .ok (.if_icmp .ge 198, 3) := by decide +kernel
theorem dX10_names_109 : decode cX10_names 109 = .ok (.aload_n 0, 1) := by decide +kernel
theorem dX10_names_110 : decode cX10_names 110 = .ok (.getfield 88, 3) := by decide +kernel
theorem dX10_names_113 : decode cX10_names 113 = .ok (.iload_n 2, 1) := by decide +kernel
theorem dX10_names_114 : decode cX10_names 114 = .ok (.iconst (-1), 1) := by decide +kernel
theorem dX10_names_115 : decode cX10_names 115 = .ok (.iastore, 1) := by decide +kernel
theorem dX10_names_116 : decode cX10_names 116 = .ok (.iconst (-1), 1) := by decide +kernel
theorem dX10_names_117 : decode cX10_names 117 = .ok (.istore_n 3, 1) := by decide +kernel
theorem dX10_names_118 : decode cX10_names 118 = .ok (.iconst 0, 1) := by decide +kernel
theorem dX10_names_119 : decode cX10_names 119 = .ok (.istore 4, 2) := by decide +kernel
theorem dX10_names_121 : decode cX10_names 121 = .ok (.iload 4, 2) := by decide +kernel
theorem dX10_names_123 : decode cX10_names 123 = .ok (.aload_n 0, 1) := by decide +kernel
theorem dX10_names_124 : decode cX10_names 124 = .ok (.getfield 186, 3) := by decide +kernel
theorem dX10_names_127 : decode cX10_names 127 = .ok (.if_icmp .ge 145, 3) := by decide +kernel
theorem dX10_names_130 : decode cX10_names 130 = .ok (.aload_n 0, 1) := by decide +kernel
theorem dX10_names_131 : decode cX10_names 131 = .ok (.getfield 46, 3) := by decide +kernel
theorem dX10_names_134 : decode cX10_names 134 = .ok (.iload 4, 2) := by decide +kernel
theorem dX10_names_136 : decode cX10_names 136 = .ok (.iaload, 1) := by decide +kernel
theorem dX10_names_137 : decode cX10_names 137 = .ok (.iload_n 2, 1) := by decide +kernel
theorem dX10_names_138 : decode cX10_names 138 = .ok (.if_icmp .ne 42, 3) := by decide +kernel
theorem dX10_names_141 : decode cX10_names 141 = .ok (.aload_n 0, 1) := by decide +kernel
theorem dX10_names_142 : decode cX10_names 142 = .ok (.getfield 55, 3) := by decide +kernel
theorem dX10_names_145 : decode cX10_names 145 = .ok (.iload 4, 2) := by decide +kernel
theorem dX10_names_147 : decode cX10_names 147 = .ok (.iaload, 1) := by decide +kernel
theorem dX10_names_148 : decode cX10_names 148 = .ok (.ifCond .le 32, 3) := by decide +kernel
theorem dX10_names_151 : decode cX10_names 151 = .ok (.aload_n 0, 1) := by decide +kernel
theorem dX10_names_152 : decode cX10_names 152 = .ok (.getfield 49, 3) := by decide +kernel
theorem dX10_names_155 : decode cX10_names 155 = .ok (.iload 4, 2) := by decide +kernel
theorem dX10_names_157 : decode cX10_names 157 = .ok (.iaload, 1) := by decide +kernel
theorem dX10_names_158 : decode cX10_names 158 = .ok (.ifCond .lt 22, 3) := by decide +kernel
theorem dX10_names_161 : decode cX10_names 161 = .ok (.aload_n 0, 1) := by decide +kernel
theorem dX10_names_162 : decode cX10_names 162 = .ok (.getfield 85, 3) := by decide +kernel
theorem dX10_names_165 : decode cX10_names 165 = .ok (.aload_n 0, 1) := by decide +kernel
theorem dX10_names_166 : decode cX10_names 166 = .ok (.getfield 49, 3) := by decide +kernel
theorem dX10_names_169 : decode cX10_names 169 = .ok (.iload 4, 2) := by decide +kernel
theorem dX10_names_171 : decode cX10_names 171 = .ok (.iaload, 1) := by decide +kernel
theorem dX10_names_172 : decode cX10_names 172 = .ok (.baload, 1) := by decide +kernel
theorem dX10_names_173 : decode cX10_names 173 = .ok (.ifCond .ne 7, 3) := by decide +kernel
theorem dX10_names_176 : decode cX10_names 176 = .ok (.iconst 1, 1) := by decide +kernel
theorem dX10_names_177 : decode cX10_names 177 = .ok (.goto 4, 3) := by decide +kernel
theorem dX10_names_180 : decode cX10_names 180 = .ok (.iconst 0, 1) := by decide +kernel
theorem dX10_names_181 : decode cX10_names 181 = .ok (.istore 5, 2) := by decide +kernel
theorem dX10_names_183 : decode cX10_names 183 = .ok (.iload 5, 2) := by decide +kernel
theorem dX10_names_185 : decode cX10_names 185 = .ok (.ifCond .eq 53, 3) := by decide +kernel
theorem dX10_names_188 : decode cX10_names 188 = .ok (.aload_n 0, 1) := by decide +kernel
theorem dX10_names_189 : decode cX10_names 189 = .ok (.getfield 55, 3) := by decide +kernel
theorem dX10_names_192 : decode cX10_names 192 = .ok (.iload 4, 2) := by decide +kernel
theorem dX10_names_194 : decode cX10_names 194 = .ok (.iaload, 1) := by decide +kernel
theorem dX10_names_195 : decode cX10_names 195 = .ok (.iconst 1, 1) := by decide +kernel
theorem dX10_names_196 : decode cX10_names 196 = .ok (.if_icmp .ne 42, 3) := by decide +kernel
theorem dX10_names_199 : decode cX10_names 199 = .ok (.aload_n 0, 1) := by decide +kernel
theorem dX10_names_200 : decode cX10_names 200 = .ok (.getfield 88, 3) := by decide +kernel
theorem dX10_names_203 : decode cX10_names 203 = .ok (.iload_n 2, 1) := by decide +kernel
theorem dX10_names_204 : decode cX10_names 204 = .ok (.iaload, 1) := by decide +kernel
theorem dX10_names_205 : decode cX10_names 205 = .ok (.iconst (-1), 1) := by decide +kernel
theorem dX10_names_206 : decode cX10_names 206 = .ok (.if_icmp .ne 14, 3) := by decide +kernel
theorem dX10_names_209 : decode cX10_names 209 = .ok (.aload_n 0, 1) := by decide +kernel
theorem dX10_names_210 : decode cX10_names 210 = .ok (.getfield 88, 3) := by decide +kernel
theorem dX10_names_213 : decode cX10_names 213 = .ok (.iload_n 2, 1) := by decide +kernel
theorem dX10_names_214 : decode cX10_names 214 = .ok (.iload 4, 2) := by decide +kernel
theorem dX10_names_216 : decode cX10_names 216 = .ok (.iastore, 1) := by decide +kernel
theorem dX10_names_217 : decode cX10_names 217 = .ok (.goto 21, 3) := by decide +kernel
theorem dX10_names_220 : decode cX10_names 220 = .ok (.iload_n 1, 1) := by decide +kernel
theorem dX10_names_221 : decode cX10_names 221 = .ok (.iconst (-1), 1) := by decide +kernel
theorem dX10_names_222 : decode cX10_names 222 = .ok (.if_icmp .eq 9, 3) := by decide +kernel
theorem dX10_names_225 : decode cX10_names 225 = .ok (.iload 4, 2) := by decide +kernel
theorem dX10_names_227 : decode cX10_names 227 = .ok (.iload_n 1, 1) := by decide +kernel
theorem dX10_names_228 : decode cX10_names 228 = .ok (.if_icmp .ge 8, 3) := by decide +kernel
theorem dX10_names_231 : decode cX10_names 231 = .ok (.iload 4, 2) := by decide +kernel
theorem dX10_names_233 : decode cX10_names 233 = .ok (.goto 4, 3) := by decide +kernel
theorem dX10_names_236 : decode cX10_names 236 = .ok (.iload_n 1, 1) := by decide +kernel
theorem dX10_names_237 : decode cX10_names 237 = .ok (.istore_n 1, 1) := by decide +kernel
theorem dX10_names_238 : decode cX10_names 238 = .ok (.iload 5, 2) := by decide +kernel
theorem dX10_names_240 : decode cX10_names 240 = .ok (.ifCond .eq 24, 3) := by decide +kernel
theorem dX10_names_243 : decode cX10_names 243 = .ok (.aload_n 0, 1) := by decide +kernel
theorem dX10_names_244 : decode cX10_names 244 = .ok (.getfield 55, 3) := by decide +kernel
theorem dX10_names_247 : decode cX10_names 247 = .ok (.iload 4, 2) := by decide +kernel
theorem dX10_names_249 : decode cX10_names 249 = .ok (.iaload, 1) := by decide +kernel
theorem dX10_names_250 : decode cX10_names 250 = .ok (.iconst 2, 1) := by decide +kernel
theorem dX10_names_251 : decode cX10_names 251 = .ok (.if_icmp .ne 13, 3) := by decide +kernel
theorem dX10_names_254 : decode cX10_names 254 = .ok (.iload_n 3, 1) := by decide +kernel
theorem dX10_names_255 : decode cX10_names 255 = .ok (.iconst (-1), 1) := by decide +kernel
theorem dX10_names_256 : decode cX10_names 256 = .ok (.if_icmp .ne 8, 3) := by decide +kernel
theorem dX10_names_259 : decode cX10_names 259 = .ok (.iload 4, 2) := by decide +kernel
theorem dX10_names_261 : decode cX10_names 261 = .ok (.goto 4, 3) := by decide +kernel
theorem dX10_names_264 : decode cX10_names 264 = .ok (.iload_n 3, 1) := by decide +kernel
theorem dX10_names_265 : decode cX10_names 265 = .ok (.istore_n 3, 1) := by decide +kernel
theorem dX10_names_266 : decode cX10_names 266 = .ok (.iinc 4 1, 3) := by decide +kernel
theorem dX10_names_269 : decode cX10_names 269 = .ok (.goto (-148), 3) := by decide +kernel
theorem dX10_names_272 : decode cX10_names 272 = .ok (.aload_n 0, 1) := by decide +kernel
theorem dX10_names_273 : decode cX10_names 273 = .ok (.getfield 88, 3) := by decide +kernel
theorem dX10_names_276 : decode cX10_names 276 = .ok (.iload_n 2, 1) := by decide +kernel
theorem dX10_names_277 : decode cX10_names 277 = .ok (.aload_n 0, 1) := by decide +kernel
theorem dX10_names_278 : decode cX10_names 278 = .ok (.getfield 88, 3) := by decide +kernel
theorem dX10_names_281 : decode cX10_names 281 = .ok (.iload_n 2, 1) := by decide +kernel
theorem dX10_names_282 : decode cX10_names 282 = .ok (.iaload, 1) := by decide +kernel
theorem dX10_names_283 : decode cX10_names 283 = .ok (.iconst (-1), 1) := by decide +kernel
theorem dX10_names_284 : decode cX10_names 284 = .ok (.if_icmp .ne 7, 3) := by decide +kernel
theorem dX10_names_287 : decode cX10_names 287 = .ok (.iload_n 3, 1) := by decide +kernel
theorem dX10_names_288 : decode cX10_names 288 = .ok (.goto 9, 3) := by decide +kernel
theorem dX10_names_291 : decode cX10_names 291 = .ok (.aload_n 0, 1) := by decide +kernel
theorem dX10_names_292 : decode cX10_names 292 = .ok (.getfield 88, 3) := by decide +kernel
theorem dX10_names_295 : decode cX10_names 295 = .ok (.iload_n 2, 1) := by decide +kernel
theorem dX10_names_296 : decode cX10_names 296 = .ok (.iaload, 1) := by decide +kernel
theorem dX10_names_297 : decode cX10_names 297 = .ok (.iastore, 1) := by decide +kernel
theorem dX10_names_298 : decode cX10_names 298 = .ok (.iinc 2 1, 3) := by decide +kernel
theorem dX10_names_301 : decode cX10_names 301 = .ok (.goto (-198), 3) := by decide +kernel
theorem dX10_names_304 : decode cX10_names 304 = .ok (.iconst 0, 1) := by decide +kernel
theorem dX10_names_305 : decode cX10_names 305 = .ok (.istore_n 2, 1) := by decide +kernel
theorem dX10_names_306 : decode cX10_names 306 = .ok (.iload_n 2, 1) := by decide +kernel
theorem dX10_names_307 : decode cX10_names 307 = .ok (.aload_n 0, 1) := by decide +kernel
theorem dX10_names_308 : decode cX10_names 308 = .ok (.getfield 186, 3) := by decide +kernel
theorem dX10_names_311 : decode cX10_names 311 = .ok (.if_icmp .ge 160, 3) := by decide +kernel
theorem dX10_names_314 : decode cX10_names 314 = .ok (.aload_n 0, 1) := by decide +kernel
theorem dX10_names_315 : decode cX10_names 315 = .ok (.getfield 49, 3) := by decide +kernel
theorem dX10_names_318 : decode cX10_names 318 = .ok (.iload_n 2, 1) := by decide +kernel
theorem dX10_names_319 : decode cX10_names 319 = .ok (.iaload, 1) := by decide +kernel
theorem dX10_names_320 : decode cX10_names 320 = .ok (.istore_n 3, 1) := by decide +kernel
theorem dX10_names_321 : decode cX10_names 321 = .ok (.aload_n 0, 1) := by decide +kernel
theorem dX10_names_322 : decode cX10_names 322 = .ok (.getfield 55, 3) := by decide +kernel
theorem dX10_names_325 : decode cX10_names 325 = .ok (.iload_n 2, 1) := by decide +kernel
theorem dX10_names_326 : decode cX10_names 326 = .ok (.iaload, 1) := by decide +kernel
theorem dX10_names_327 : decode cX10_names 327 = .ok (.ifCond .ne 7, 3) := by decide +kernel
theorem dX10_names_330 : decode cX10_names 330 = .ok (.iload_n 2, 1) := by decide +kernel
theorem dX10_names_331 : decode cX10_names 331 = .ok (.goto 14, 3) := by decide +kernel
theorem dX10_names_334 : decode cX10_names 334 = .ok (.aload_n 0, 1) := by decide +kernel
theorem dX10_names_335 : decode cX10_names 335 = .ok (.getfield 88, 3) := by decide +kernel
theorem dX10_names_338 : decode cX10_names 338 = .ok (.aload_n 0, 1) := by decide +kernel
theorem dX10_names_339 : decode cX10_names 339 = .ok (.getfield 46, 3) := by decide +kernel
theorem dX10_names_342 : decode cX10_names 342 = .ok (.iload_n 2, 1) := by decide +kernel
theorem dX10_names_343 : decode cX10_names 343 = .ok (.iaload, 1) := by decide +kernel
theorem dX10_names_344 : decode cX10_names 344 = .ok (.iaload, 1) := by decide +kernel
theorem dX10_names_345 : decode cX10_names 345 = .ok (.istore 4, 2) := by decide +kernel
theorem dX10_names_347 : decode cX10_names 347 = .ok (.iload_n 3, 1) := by decide +kernel
theorem dX10_names_348 : decode cX10_names 348 = .ok (.iconst (-1), 1) := by decide +kernel
theorem dX10_names_349 : decode cX10_names 349 = .ok (.if_icmp .ge 53, 3) := by decide +kernel
theorem dX10_names_352 : decode cX10_names 352 = .ok (.aload_n 0, 1) := by decide +kernel
theorem dX10_names_353 : decode cX10_names 353 = .ok (.getfield 91, 3) := by decide +kernel
theorem dX10_names_356 : decode cX10_names 356 = .ok (.iload_n 2, 1) := by decide +kernel
theorem dX10_names_357 : decode cX10_names 357 = .ok (.iload_n 3, 1) := by decide +kernel
theorem dX10_names_358 : decode cX10_names 358 = .ok (.bipush (-10), 2) := by decide +kernel
theorem dX10_names_360 : decode cX10_names 360 = .ok (.if_icmp .le 7, 3) := by decide +kernel
theorem dX10_names_363 : decode cX10_names 363 = .ok (.iconst 2, 1) := by decide +kernel
theorem dX10_names_364 : decode cX10_names 364 = .ok (.goto 4, 3) := by decide +kernel
theorem dX10_names_367 : decode cX10_names 367 = .ok (.iconst 3, 1) := by decide +kernel
theorem dX10_names_368 : decode cX10_names 368 = .ok (.iastore, 1) := by decide +kernel
theorem dX10_names_369 : decode cX10_names 369 = .ok (.aload_n 0, 1) := by decide +kernel
theorem dX10_names_370 : decode cX10_names 370 = .ok (.getfield 94, 3) := by decide +kernel
theorem dX10_names_373 : decode cX10_names 373 = .ok (.iload_n 2, 1) := by decide +kernel
theorem dX10_names_374 : decode cX10_names 374 = .ok (.iload_n 3, 1) := by decide +kernel
theorem dX10_names_375 : decode cX10_names 375 = .ok (.bipush (-10), 2) := by decide +kernel
theorem dX10_names_377 : decode cX10_names 377 = .ok (.if_icmp .le 10, 3) := by decide +kernel
theorem dX10_names_380 : decode cX10_names 380 = .ok (.bipush (-2), 2) := by decide +kernel
theorem dX10_names_382 : decode cX10_names 382 = .ok (.iload_n 3, 1) := by decide +kernel
theorem dX10_names_383 : decode cX10_names 383 = .ok (.isub, 1) := by decide +kernel
theorem dX10_names_384 : decode cX10_names 384 = .ok (.goto 7, 3) := by decide +kernel
theorem dX10_names_387 : decode cX10_names 387 = .ok (.bipush (-10), 2) := by decide +kernel
theorem dX10_names_389 : decode cX10_names 389 = .ok (.iload_n 3, 1) := by decide +kernel
theorem dX10_names_390 : decode cX10_names 390 = .ok (.isub, 1) := by decide +kernel
theorem dX10_names_391 : decode cX10_names 391 = .ok (.iastore, 1) := by decide +kernel
theorem dX10_names_392 : decode cX10_names 392 = .ok (.aload_n 0, 1) := by decide +kernel
theorem dX10_names_393 : decode cX10_names 393 = .ok (.getfield 97, 3) := by decide +kernel
theorem dX10_names_396 : decode cX10_names 396 = .ok (.iload_n 2, 1) := by decide +kernel
theorem dX10_names_397 : decode cX10_names 397 = .ok (.iconst 0, 1) := by decide +kernel
theorem dX10_names_398 : decode cX10_names 398 = .ok (.iastore, 1) := by decide +kernel
theorem dX10_names_399 : decode cX10_names 399 = .ok (.goto 66, 3) := by decide +kernel
theorem dX10_names_402 : decode cX10_names 402 = .ok (.aload_n 0, 1) := by decide +kernel
theorem dX10_names_403 : decode cX10_names 403 = .ok (.getfield 91, 3) := by decide +kernel
theorem dX10_names_406 : decode cX10_names 406 = .ok (.iload_n 2, 1) := by decide +kernel
theorem dX10_names_407 : decode cX10_names 407 = .ok (.iload 4, 2) := by decide +kernel
theorem dX10_names_409 : decode cX10_names 409 = .ok (.iconst (-1), 1) := by decide +kernel
theorem dX10_names_410 : decode cX10_names 410 = .ok (.if_icmp .ne 7, 3) := by decide +kernel
theorem dX10_names_413 : decode cX10_names 413 = .ok (.iconst 0, 1) := by decide +kernel
theorem dX10_names_414 : decode cX10_names 414 = .ok (.goto 4, 3) := by decide +kernel
theorem dX10_names_417 : decode cX10_names 417 = .ok (.iconst 1, 1) := by decide +kernel
theorem dX10_names_418 : decode cX10_names 418 = .ok (.iastore, 1) := by decide +kernel
theorem dX10_names_419 : decode cX10_names 419 = .ok (.aload_n 0, 1) := by decide +kernel
theorem dX10_names_420 : decode cX10_names 420 = .ok (.getfield 94, 3) := by decide +kernel
theorem dX10_names_423 : decode cX10_names 423 = .ok (.iload_n 2, 1) := by decide +kernel
theorem dX10_names_424 : decode cX10_names 424 = .ok (.iload 4, 2) := by decide +kernel
theorem dX10_names_426 : decode cX10_names 426 = .ok (.iconst (-1), 1) := by decide +kernel
theorem dX10_names_427 : decode cX10_names 427 = .ok (.if_icmp .ne 7, 3) := by decide +kernel
theorem dX10_names_430 : decode cX10_names 430 = .ok (.iconst (-1), 1) := by decide +kernel
theorem dX10_names_431 : decode cX10_names 431 = .ok (.goto 10, 3) := by decide +kernel
theorem dX10_names_434 : decode cX10_names 434 = .ok (.aload_n 0, 1) := by decide +kernel
theorem dX10_names_435 : decode cX10_names 435 = .ok (.getfield 49, 3) := by decide +kernel
theorem dX10_names_438 : decode cX10_names 438 = .ok (.iload 4, 2) := by decide +kernel
theorem dX10_names_440 : decode cX10_names 440 = .ok (.iaload, 1) := by decide +kernel
theorem dX10_names_441 : decode cX10_names 441 = .ok (.iastore, 1) := by decide +kernel
theorem dX10_names_442 : decode cX10_names 442 = .ok (.aload_n 0, 1) := by decide +kernel
theorem dX10_names_443 : decode cX10_names 443 = .ok (.getfield 97, 3) := by decide +kernel
theorem dX10_names_446 : decode cX10_names 446 = .ok (.iload_n 2, 1) := by decide +kernel
theorem dX10_names_447 : decode cX10_names 447 = .ok (.iload 4, 2) := by decide +kernel
theorem dX10_names_449 : decode cX10_names 449 = .ok (.iconst (-1), 1) := by decide +kernel
theorem dX10_names_450 : decode cX10_names 450 = .ok (.if_icmp .ne 7, 3) := by decide +kernel
theorem dX10_names_453 : decode cX10_names 453 = .ok (.iconst 0, 1) := by decide +kernel
theorem dX10_names_454 : decode cX10_names 454 = .ok (.goto 10, 3) := by decide +kernel
theorem dX10_names_457 : decode cX10_names 457 = .ok (.aload_n 0, 1) := by decide +kernel
theorem dX10_names_458 : decode cX10_names 458 = .ok (.getfield 52, 3) := by decide +kernel
theorem dX10_names_461 : decode cX10_names 461 = .ok (.iload 4, 2) := by decide +kernel
theorem dX10_names_463 : decode cX10_names 463 = .ok (.iaload, 1) := by decide +kernel
theorem dX10_names_464 : decode cX10_names 464 = .ok (.iastore, 1) := by decide +kernel
theorem dX10_names_465 : decode cX10_names 465 = .ok (.iinc 2 1, 3) := by decide +kernel
theorem dX10_names_468 : decode cX10_names 468 = .ok (.goto (-162), 3) := by decide +kernel
theorem dX10_names_471 : decode cX10_names 471 = .ok (.iload_n 1, 1) := by decide +kernel
theorem dX10_names_472 : decode cX10_names 472 = .ok (.ireturn, 1) := by decide +kernel
theorem dX10_keeps_0 : decode cX10_keeps 0 = .ok (.aload_n 0, 1) := by decide +kernel
theorem dX10_keeps_1 : decode cX10_keeps 1 = .ok (.getfield 103, 3) := by decide +kernel
theorem dX10_keeps_4 : decode cX10_keeps 4 = .ok (.iload_n 1, 1) := by decide +kernel
theorem dX10_keeps_5 : decode cX10_keeps 5 = .ok (.baload, 1) := by decide +kernel
theorem dX10_keeps_6 : decode cX10_keeps 6 = .ok (.ifCond .ne 56, 3) := by decide +kernel
theorem dX10_keeps_9 : decode cX10_keeps 9 = .ok (.aload_n 0, 1) := by decide +kernel
theorem dX10_keeps_10 : decode cX10_keeps 10 = .ok (.getfield 85, 3) := by decide +kernel
theorem dX10_keeps_13 : decode cX10_keeps 13 = .ok (.iload_n 1, 1) := by decide +kernel
theorem dX10_keeps_14 : decode cX10_keeps 14 = .ok (.baload, 1) := by decide +kernel
theorem dX10_keeps_15 : decode cX10_keeps 15 = .ok (.ifCond .ne 47, 3) := by decide +kernel
theorem dX10_keeps_18 : decode cX10_keeps 18 = .ok (.aload_n 0, 1) := by decide +kernel
theorem dX10_keeps_19 : decode cX10_keeps 19 = .ok (.getfield 103, 3) := by decide +kernel
theorem dX10_keeps_22 : decode cX10_keeps 22 = .ok (.iload_n 1, 1) := by decide +kernel
theorem dX10_keeps_23 : decode cX10_keeps 23 = .ok (.iconst 1, 1) := by decide +kernel
theorem dX10_keeps_24 : decode cX10_keeps 24 = .ok (.bastore, 1) := by decide +kernel
theorem dX10_keeps_25 : decode cX10_keeps 25 = .ok (.aload_n 0, 1) := by decide +kernel
theorem dX10_keeps_26 : decode cX10_keeps 26 = .ok (.getfield 106, 3) := by decide +kernel
theorem dX10_keeps_29 : decode cX10_keeps 29 = .ok (.iload_n 1, 1) := by decide +kernel
theorem dX10_keeps_30 : decode cX10_keeps 30 = .ok (.iload_n 2, 1) := by decide +kernel
theorem dX10_keeps_31 : decode cX10_keeps 31 = .ok (.iastore, 1) := by decide +kernel
theorem dX10_keeps_32 : decode cX10_keeps 32 = .ok (.aload_n 0, 1) := by decide +kernel
theorem dX10_keeps_33 : decode cX10_keeps 33 = .ok (.getfield 109, 3) := by decide +kernel
theorem dX10_keeps_36 : decode cX10_keeps 36 = .ok (.iload_n 1, 1) := by decide +kernel
theorem dX10_keeps_37 : decode cX10_keeps 37 = .ok (.aload_n 0, 1) := by decide +kernel
theorem dX10_keeps_38 : decode cX10_keeps 38 = .ok (.getfield 203, 3) := by decide +kernel
theorem dX10_keeps_41 : decode cX10_keeps 41 = .ok (.iastore, 1) := by decide +kernel
theorem dX10_keeps_42 : decode cX10_keeps 42 = .ok (.aload_n 0, 1) := by decide +kernel
theorem dX10_keeps_43 : decode cX10_keeps 43 = .ok (.getfield 100, 3) := by decide +kernel
theorem dX10_keeps_46 : decode cX10_keeps 46 = .ok (.aload_n 0, 1) := by decide +kernel
theorem dX10_keeps_47 : decode cX10_keeps 47 = .ok (.getfield 203, 3) := by decide +kernel
theorem dX10_keeps_50 : decode cX10_keeps 50 = .ok (.iload_n 1, 1) := by decide +kernel
theorem dX10_keeps_51 : decode cX10_keeps 51 = .ok (.iastore, 1) := by decide +kernel
theorem dX10_keeps_52 : decode cX10_keeps 52 = .ok (.aload_n 0, 1) := by decide +kernel
theorem dX10_keeps_53 : decode cX10_keeps 53 = .ok (.dup, 1) := by decide +kernel
theorem dX10_keeps_54 : decode cX10_keeps 54 = .ok (.getfield 203, 3) := by decide +kernel
theorem dX10_keeps_57 : decode cX10_keeps 57 = .ok (.iconst 1, 1) := by decide +kernel
theorem dX10_keeps_58 : decode cX10_keeps 58 = .ok (.iadd, 1) := by decide +kernel
theorem dX10_keeps_59 : decode cX10_keeps 59 = .ok (.putfield 203, 3) := by decide +kernel
theorem dX10_keeps_62 : decode cX10_keeps 62 = .ok (.return_, 1) := by decide +kernel
theorem dX10_keepAll_0 : decode cX10_keepAll 0 = .ok (.aload_n 0, 1) := by decide +kernel
theorem dX10_keepAll_1 : decode cX10_keepAll 1 = .ok (.iconst 0, 1) := by decide +kernel
theorem dX10_keepAll_2 : decode cX10_keepAll 2 = .ok (.putfield 203, 3) := by decide +kernel
theorem dX10_keepAll_5 : decode cX10_keepAll 5 = .ok (.iconst 0, 1) := by decide +kernel
theorem dX10_keepAll_6 : decode cX10_keepAll 6 = .ok (.istore_n 1, 1) := by decide +kernel
theorem dX10_keepAll_7 : decode cX10_keepAll 7 = .ok (.iload_n 1, 1) := by decide +kernel
theorem dX10_keepAll_8 : decode cX10_keepAll 8 = .ok (.bipush 60, 2) := by decide +kernel
theorem dX10_keepAll_10 : decode cX10_keepAll 10 = .ok (.if_icmp .ge 30, 3) := by decide +kernel
theorem dX10_keepAll_13 : decode cX10_keepAll 13 = .ok (.aload_n 0, 1) := by decide +kernel
theorem dX10_keepAll_14 : decode cX10_keepAll 14 = .ok (.getfield 103, 3) := by decide +kernel
theorem dX10_keepAll_17 : decode cX10_keepAll 17 = .ok (.iload_n 1, 1) := by decide +kernel
theorem dX10_keepAll_18 : decode cX10_keepAll 18 = .ok (.iconst 0, 1) := by decide +kernel
theorem dX10_keepAll_19 : decode cX10_keepAll 19 = .ok (.bastore, 1) := by decide +kernel
theorem dX10_keepAll_20 : decode cX10_keepAll 20 = .ok (.aload_n 0, 1) := by decide +kernel
theorem dX10_keepAll_21 : decode cX10_keepAll 21 = .ok (.getfield 106, 3) := by decide +kernel
theorem dX10_keepAll_24 : decode cX10_keepAll 24 = .ok (.iload_n 1, 1) := by decide +kernel
theorem dX10_keepAll_25 : decode cX10_keepAll 25 = .ok (.iconst (-1), 1) := by decide +kernel
theorem dX10_keepAll_26 : decode cX10_keepAll 26 = .ok (.iastore, 1) := by decide +kernel
theorem dX10_keepAll_27 : decode cX10_keepAll 27 = .ok (.aload_n 0, 1) := by decide +kernel
theorem dX10_keepAll_28 : decode cX10_keepAll 28 = .ok (.getfield 109, 3) := by decide +kernel
theorem dX10_keepAll_31 : decode cX10_keepAll 31 = .ok (.iload_n 1, 1) := by decide +kernel
theorem dX10_keepAll_32 : decode cX10_keepAll 32 = .ok (.iconst (-1), 1) := by decide +kernel
theorem dX10_keepAll_33 : decode cX10_keepAll 33 = .ok (.iastore, 1) := by decide +kernel
theorem dX10_keepAll_34 : decode cX10_keepAll 34 = .ok (.iinc 1 1, 3) := by decide +kernel
theorem dX10_keepAll_37 : decode cX10_keepAll 37 = .ok (.goto (-30), 3) := by decide +kernel
theorem dX10_keepAll_40 : decode cX10_keepAll 40 = .ok (.iconst 0, 1) := by decide +kernel
theorem dX10_keepAll_41 : decode cX10_keepAll 41 = .ok (.istore_n 1, 1) := by decide +kernel
theorem dX10_keepAll_42 : decode cX10_keepAll 42 = .ok (.iload_n 1, 1) := by decide +kernel
theorem dX10_keepAll_43 : decode cX10_keepAll 43 = .ok (.aload_n 0, 1) := by decide +kernel
theorem dX10_keepAll_44 : decode cX10_keepAll 44 = .ok (.getfield 165, 3) := by decide +kernel
theorem dX10_keepAll_47 : decode cX10_keepAll 47 = .ok (.if_icmp .ge 24, 3) := by decide +kernel
theorem dX10_keepAll_50 : decode cX10_keepAll 50 = .ok (.aload_n 0, 1) := by decide +kernel
theorem dX10_keepAll_51 : decode cX10_keepAll 51 = .ok (.getfield 29, 3) := by decide +kernel
theorem dX10_keepAll_54 : decode cX10_keepAll 54 = .ok (.iload_n 1, 1) := by decide +kernel
theorem dX10_keepAll_55 : decode cX10_keepAll 55 = .ok (.baload, 1) := by decide +kernel
theorem dX10_keepAll_56 : decode cX10_keepAll 56 = .ok (.ifCond .eq 9, 3) := by decide +kernel
theorem dX10_keepAll_59 : decode cX10_keepAll 59 = .ok (.aload_n 0, 1) := by decide +kernel
theorem dX10_keepAll_60 : decode cX10_keepAll 60 = .ok (.iload_n 1, 1) := by decide +kernel
theorem dX10_keepAll_61 : decode cX10_keepAll 61 = .ok (.iconst (-1), 1) := by decide +kernel
theorem dX10_keepAll_62 : decode cX10_keepAll 62 = .ok (.invokevirtual 206, 3) := by decide +kernel
theorem dX10_keepAll_65 : decode cX10_keepAll 65 = .ok (.iinc 1 1, 3) := by decide +kernel
theorem dX10_keepAll_68 : decode cX10_keepAll 68 = .ok (.goto (-26), 3) := by decide +kernel
theorem dX10_keepAll_71 : decode cX10_keepAll 71 = .ok (.iconst 0, 1) := by decide +kernel
theorem dX10_keepAll_72 : decode cX10_keepAll 72 = .ok (.istore_n 1, 1) := by decide +kernel
theorem dX10_keepAll_73 : decode cX10_keepAll 73 = .ok (.iload_n 1, 1) := by decide +kernel
theorem dX10_keepAll_74 : decode cX10_keepAll 74 = .ok (.aload_n 0, 1) := by decide +kernel
theorem dX10_keepAll_75 : decode cX10_keepAll 75 = .ok (.getfield 198, 3) := by decide +kernel
theorem dX10_keepAll_78 : decode cX10_keepAll 78 = .ok (.if_icmp .ge 37, 3) := by decide +kernel
theorem dX10_keepAll_81 : decode cX10_keepAll 81 = .ok (.aload_n 0, 1) := by decide +kernel
theorem dX10_keepAll_82 : decode cX10_keepAll 82 = .ok (.getfield 88, 3) := by decide +kernel
theorem dX10_keepAll_85 : decode cX10_keepAll 85 = .ok (.aload_n 0, 1) := by decide +kernel
theorem dX10_keepAll_86 : decode cX10_keepAll 86 = .ok (.getfield 73, 3) := by decide +kernel
theorem dX10_keepAll_89 : decode cX10_keepAll 89 = .ok (.iload_n 1, 1) := by decide +kernel
theorem dX10_keepAll_90 : decode cX10_keepAll 90 = .ok (.iaload, 1) := by decide +kernel
theorem dX10_keepAll_91 : decode cX10_keepAll 91 = .ok (.iaload, 1) := by decide +kernel
theorem dX10_keepAll_92 : decode cX10_keepAll 92 = .ok (.istore_n 2, 1) := by decide +kernel
theorem dX10_keepAll_93 : decode cX10_keepAll 93 = .ok (.iload_n 2, 1) := by decide +kernel
theorem dX10_keepAll_94 : decode cX10_keepAll 94 = .ok (.iconst (-1), 1) := by decide +kernel
theorem dX10_keepAll_95 : decode cX10_keepAll 95 = .ok (.if_icmp .eq 14, 3) := by decide +kernel
theorem dX10_keepAll_98 : decode cX10_keepAll 98 = .ok (.aload_n 0, 1) := by decide +kernel
theorem dX10_keepAll_99 : decode cX10_keepAll 99 = .ok (.aload_n 0, 1) := by decide +kernel
theorem dX10_keepAll_100 : decode cX10_keepAll 100 = .ok (.getfield 49, 3) := by decide +kernel
theorem dX10_keepAll_103 : decode cX10_keepAll 103 = .ok (.iload_n 2, 1) := by decide +kernel
theorem dX10_keepAll_104 : decode cX10_keepAll 104 = .ok (.iaload, 1) := by decide +kernel
theorem dX10_keepAll_105 : decode cX10_keepAll 105 = .ok (.iconst (-1), 1) := by decide +kernel
theorem dX10_keepAll_106 : decode cX10_keepAll 106 = .ok (.invokevirtual 206, 3) := by decide +kernel
theorem dX10_keepAll_109 : decode cX10_keepAll 109 = .ok (.iinc 1 1, 3) := by decide +kernel
theorem dX10_keepAll_112 : decode cX10_keepAll 112 = .ok (.goto (-39), 3) := by decide +kernel
theorem dX10_keepAll_115 : decode cX10_keepAll 115 = .ok (.iconst 0, 1) := by decide +kernel
theorem dX10_keepAll_116 : decode cX10_keepAll 116 = .ok (.istore_n 1, 1) := by decide +kernel
theorem dX10_keepAll_117 : decode cX10_keepAll 117 = .ok (.iload_n 1, 1) := by decide +kernel
theorem dX10_keepAll_118 : decode cX10_keepAll 118 = .ok (.aload_n 0, 1) := by decide +kernel
theorem dX10_keepAll_119 : decode cX10_keepAll 119 = .ok (.getfield 203, 3) := by decide +kernel
theorem dX10_keepAll_122 : decode cX10_keepAll 122 = .ok (.if_icmp .ge 100, 3) := by decide +kernel
theorem dX10_keepAll_125 : decode cX10_keepAll 125 = .ok (.aload_n 0, 1) := by decide +kernel
theorem dX10_keepAll_126 : decode cX10_keepAll 126 = .ok (.getfield 100, 3) := by decide +kernel
theorem dX10_keepAll_129 : decode cX10_keepAll 129 = .ok (.iload_n 1, 1) := by decide +kernel
theorem dX10_keepAll_130 : decode cX10_keepAll 130 = .ok (.iaload, 1) := by decide +kernel
theorem dX10_keepAll_131 : decode cX10_keepAll 131 = .ok (.istore_n 2, 1) := by decide +kernel
theorem dX10_keepAll_132 : decode cX10_keepAll 132 = .ok (.iconst 0, 1) := by decide +kernel
theorem dX10_keepAll_133 : decode cX10_keepAll 133 = .ok (.istore_n 3, 1) := by decide +kernel
theorem dX10_keepAll_134 : decode cX10_keepAll 134 = .ok (.iload_n 3, 1) := by decide +kernel
theorem dX10_keepAll_135 : decode cX10_keepAll 135 = .ok (.aload_n 0, 1) := by decide +kernel
theorem dX10_keepAll_136 : decode cX10_keepAll 136 = .ok (.getfield 195, 3) := by decide +kernel
theorem dX10_keepAll_139 : decode cX10_keepAll 139 = .ok (.if_icmp .ge 30, 3) := by decide +kernel
theorem dX10_keepAll_142 : decode cX10_keepAll 142 = .ok (.aload_n 0, 1) := by decide +kernel
theorem dX10_keepAll_143 : decode cX10_keepAll 143 = .ok (.getfield 58, 3) := by decide +kernel
theorem dX10_keepAll_146 : decode cX10_keepAll 146 = .ok (.iload_n 3, 1) := by decide +kernel
theorem dX10_keepAll_147 : decode cX10_keepAll 147 = .ok (.iaload, 1) := by decide +kernel
theorem dX10_keepAll_148 : decode cX10_keepAll 148 = .ok (.iload_n 2, 1) := by decide +kernel
theorem dX10_keepAll_149 : decode cX10_keepAll 149 = .ok (.if_icmp .ne 14, 3) := by decide +kernel
theorem dX10_keepAll_152 : decode cX10_keepAll 152 = .ok (.aload_n 0, 1) := by decide +kernel
theorem dX10_keepAll_153 : decode cX10_keepAll 153 = .ok (.iload_n 2, 1) := by decide +kernel
theorem dX10_keepAll_154 : decode cX10_keepAll 154 = .ok (.aload_n 0, 1) := by decide +kernel
theorem dX10_keepAll_155 : decode cX10_keepAll 155 = .ok (.getfield 67, 3) := by decide +kernel
theorem dX10_keepAll_158 : decode cX10_keepAll 158 = .ok (.iload_n 3, 1) := by decide +kernel
theorem dX10_keepAll_159 : decode cX10_keepAll 159 = .ok (.iaload, 1) := by decide +kernel
theorem dX10_keepAll_160 : decode cX10_keepAll 160 = .ok (.invokevirtual 210, 3) := by decide +kernel
theorem dX10_keepAll_163 : decode cX10_keepAll 163 = .ok (.iinc 3 1, 3) := by decide +kernel
theorem dX10_keepAll_166 : decode cX10_keepAll 166 = .ok (.goto (-32), 3) := by decide +kernel
theorem dX10_keepAll_169 : decode cX10_keepAll 169 = .ok (.iconst 0, 1) := by decide +kernel
theorem dX10_keepAll_170 : decode cX10_keepAll 170 = .ok (.istore_n 3, 1) := by decide +kernel
theorem dX10_keepAll_171 : decode cX10_keepAll 171 = .ok (.iload_n 3, 1) := by decide +kernel
theorem dX10_keepAll_172 : decode cX10_keepAll 172 = .ok (.aload_n 0, 1) := by decide +kernel
theorem dX10_keepAll_173 : decode cX10_keepAll 173 = .ok (.getfield 165, 3) := by decide +kernel
theorem dX10_keepAll_176 : decode cX10_keepAll 176 = .ok (.if_icmp .ge 40, 3) := by decide +kernel
theorem dX10_keepAll_179 : decode cX10_keepAll 179 = .ok (.aload_n 0, 1) := by decide +kernel
theorem dX10_keepAll_180 : decode cX10_keepAll 180 = .ok (.getfield 36, 3) := by decide +kernel
theorem dX10_keepAll_183 : decode cX10_keepAll 183 = .ok (.iload_n 2, 1) := by decide +kernel
theorem dX10_keepAll_184 : decode cX10_keepAll 184 = .ok (.iaload, 1) := by decide +kernel
theorem dX10_keepAll_185 : decode cX10_keepAll 185 = .ok (.iconst (-1), 1) := by decide +kernel
theorem dX10_keepAll_186 : decode cX10_keepAll 186 = .ok (.if_icmp .eq 24, 3) := by decide +kernel
theorem dX10_keepAll_189 : decode cX10_keepAll 189 = .ok (.aload_n 0, 1) := by decide +kernel
theorem dX10_keepAll_190 : decode cX10_keepAll 190 = .ok (.getfield 36, 3) := by decide +kernel
theorem dX10_keepAll_193 : decode cX10_keepAll 193 = .ok (.iload_n 3, 1) := by decide +kernel
theorem dX10_keepAll_194 : decode cX10_keepAll 194 = .ok (.iaload, 1) := by decide +kernel
theorem dX10_keepAll_195 : decode cX10_keepAll 195 = .ok (.aload_n 0, 1) := by decide +kernel
theorem dX10_keepAll_196 : decode cX10_keepAll 196 = .ok (.getfield 36, 3) := by decide +kernel
theorem dX10_keepAll_199 : decode cX10_keepAll 199 = .ok (.iload_n 2, 1) := by decide +kernel
theorem dX10_keepAll_200 : decode cX10_keepAll 200 = .ok (.iaload, 1) := by decide +kernel
theorem dX10_keepAll_201 : decode cX10_keepAll 201 = .ok (.if_icmp .ne 9, 3) := by decide +kernel
theorem dX10_keepAll_204 : decode cX10_keepAll 204 = .ok (.aload_n 0, 1) := by decide +kernel
theorem dX10_keepAll_205 : decode cX10_keepAll 205 = .ok (.iload_n 3, 1) := by decide +kernel
theorem dX10_keepAll_206 : decode cX10_keepAll 206 = .ok (.iload_n 2, 1) := by decide +kernel
theorem dX10_keepAll_207 : decode cX10_keepAll 207 = .ok (.invokevirtual 206, 3) := by decide +kernel
theorem dX10_keepAll_210 : decode cX10_keepAll 210 = .ok (.iinc 3 1, 3) := by decide +kernel
theorem dX10_keepAll_213 : decode cX10_keepAll 213 = .ok (.goto (-42), 3) := by decide +kernel
theorem dX10_keepAll_216 : decode cX10_keepAll 216 = .ok (.iinc 1 1, 3) := by decide +kernel
theorem dX10_keepAll_219 : decode cX10_keepAll 219 = .ok (.goto (-102), 3) := by decide +kernel
theorem dX10_keepAll_222 : decode cX10_keepAll 222 = .ok (.return_, 1) := by decide +kernel
theorem dX10_comesBy_0 : decode cX10_comesBy 0 = .ok (.aload_n 0, 1) := by decide +kernel
theorem dX10_comesBy_1 : decode cX10_comesBy 1 = .ok (.getfield 91, 3) := by decide +kernel
theorem dX10_comesBy_4 : decode cX10_comesBy 4 = .ok (.iload_n 2, 1) := by decide +kernel
theorem dX10_comesBy_5 : decode cX10_comesBy 5 = .ok (.iaload, 1) := by decide +kernel
theorem dX10_comesBy_6 : decode cX10_comesBy 6 = .ok (.iconst 1, 1) := by decide +kernel
theorem dX10_comesBy_7 : decode cX10_comesBy 7 = .ok (.if_icmp .ne 14, 3) := by decide +kernel
theorem dX10_comesBy_10 : decode cX10_comesBy 10 = .ok (.aload_n 0, 1) := by decide +kernel
theorem dX10_comesBy_11 : decode cX10_comesBy 11 = .ok (.aload_n 0, 1) := by decide +kernel
theorem dX10_comesBy_12 : decode cX10_comesBy 12 = .ok (.getfield 94, 3) := by decide +kernel
theorem dX10_comesBy_15 : decode cX10_comesBy 15 = .ok (.iload_n 2, 1) := by decide +kernel
theorem dX10_comesBy_16 : decode cX10_comesBy 16 = .ok (.iaload, 1) := by decide +kernel
theorem dX10_comesBy_17 : decode cX10_comesBy 17 = .ok (.iload_n 1, 1) := by decide +kernel
theorem dX10_comesBy_18 : decode cX10_comesBy 18 = .ok (.invokevirtual 206, 3) := by decide +kernel
theorem dX10_comesBy_21 : decode cX10_comesBy 21 = .ok (.iconst 0, 1) := by decide +kernel
theorem dX10_comesBy_22 : decode cX10_comesBy 22 = .ok (.istore_n 3, 1) := by decide +kernel
theorem dX10_comesBy_23 : decode cX10_comesBy 23 = .ok (.iload_n 3, 1) := by decide +kernel
theorem dX10_comesBy_24 : decode cX10_comesBy 24 = .ok (.aload_n 0, 1) := by decide +kernel
theorem dX10_comesBy_25 : decode cX10_comesBy 25 = .ok (.getfield 165, 3) := by decide +kernel
theorem dX10_comesBy_28 : decode cX10_comesBy 28 = .ok (.if_icmp .ge 40, 3) := by decide +kernel
theorem dX10_comesBy_31 : decode cX10_comesBy 31 = .ok (.aload_n 0, 1) := by decide +kernel
theorem dX10_comesBy_32 : decode cX10_comesBy 32 = .ok (.getfield 91, 3) := by decide +kernel
theorem dX10_comesBy_35 : decode cX10_comesBy 35 = .ok (.iload_n 2, 1) := by decide +kernel
theorem dX10_comesBy_36 : decode cX10_comesBy 36 = .ok (.iaload, 1) := by decide +kernel
theorem dX10_comesBy_37 : decode cX10_comesBy 37 = .ok (.iconst 1, 1) := by decide +kernel
theorem dX10_comesBy_38 : decode cX10_comesBy 38 = .ok (.if_icmp .le 24, 3) := by decide +kernel
theorem dX10_comesBy_41 : decode cX10_comesBy 41 = .ok (.aload_n 0, 1) := by decide +kernel
theorem dX10_comesBy_42 : decode cX10_comesBy 42 = .ok (.getfield 33, 3) := by decide +kernel
theorem dX10_comesBy_45 : decode cX10_comesBy 45 = .ok (.iload_n 3, 1) := by decide +kernel
theorem dX10_comesBy_46 : decode cX10_comesBy 46 = .ok (.iaload, 1) := by decide +kernel
theorem dX10_comesBy_47 : decode cX10_comesBy 47 = .ok (.aload_n 0, 1) := by decide +kernel
theorem dX10_comesBy_48 : decode cX10_comesBy 48 = .ok (.getfield 94, 3) := by decide +kernel
theorem dX10_comesBy_51 : decode cX10_comesBy 51 = .ok (.iload_n 2, 1) := by decide +kernel
theorem dX10_comesBy_52 : decode cX10_comesBy 52 = .ok (.iaload, 1) := by decide +kernel
theorem dX10_comesBy_53 : decode cX10_comesBy 53 = .ok (.if_icmp .ne 9, 3) := by decide +kernel
theorem dX10_comesBy_56 : decode cX10_comesBy 56 = .ok (.aload_n 0, 1) := by decide +kernel
theorem dX10_comesBy_57 : decode cX10_comesBy 57 = .ok (.iload_n 3, 1) := by decide +kernel
theorem dX10_comesBy_58 : decode cX10_comesBy 58 = .ok (.iload_n 1, 1) := by decide +kernel
theorem dX10_comesBy_59 : decode cX10_comesBy 59 = .ok (.invokevirtual 206, 3) := by decide +kernel
theorem dX10_comesBy_62 : decode cX10_comesBy 62 = .ok (.iinc 3 1, 3) := by decide +kernel
theorem dX10_comesBy_65 : decode cX10_comesBy 65 = .ok (.goto (-42), 3) := by decide +kernel
theorem dX10_comesBy_68 : decode cX10_comesBy 68 = .ok (.return_, 1) := by decide +kernel
theorem dX10_relocationsOf_0 : decode cX10_relocationsOf 0 = .ok (.iconst 0, 1) := by decide +kernel
theorem dX10_relocationsOf_1 : decode cX10_relocationsOf 1 = .ok (.istore_n 2, 1) := by decide +kernel
theorem dX10_relocationsOf_2 : decode cX10_relocationsOf 2 = .ok (.iconst 0, 1) := by decide +kernel
theorem dX10_relocationsOf_3 : decode cX10_relocationsOf 3 = .ok (.istore_n 3, 1) := by decide +kernel
theorem dX10_relocationsOf_4 : decode cX10_relocationsOf 4 = .ok (.iload_n 3, 1) := by decide +kernel
theorem dX10_relocationsOf_5 : decode cX10_relocationsOf 5 = .ok (.aload_n 0, 1) := by decide +kernel
theorem dX10_relocationsOf_6 : decode cX10_relocationsOf 6 = .ok (.getfield 195, 3) := by decide +kernel
theorem dX10_relocationsOf_9 : decode cX10_relocationsOf 9 = .ok (.if_icmp .ge 27, 3) := by decide +kernel
theorem dX10_relocationsOf_12 : decode cX10_relocationsOf 12 = .ok (.iload_n 2, 1) := by decide +kernel
theorem dX10_relocationsOf_13 : decode cX10_relocationsOf 13 = .ok (.aload_n 0, 1) := by decide +kernel
theorem dX10_relocationsOf_14 : decode cX10_relocationsOf 14 = .ok (.getfield 58, 3) := by decide +kernel
theorem dX10_relocationsOf_17 : decode cX10_relocationsOf 17 = .ok (.iload_n 3, 1) := by decide +kernel
theorem dX10_relocationsOf_18 : decode cX10_relocationsOf 18 = .ok (.iaload, 1) := by decide +kernel
theorem dX10_relocationsOf_19 : decode cX10_relocationsOf 19 = .ok (.iload_n 1, 1) := by decide +kernel
theorem dX10_relocationsOf_20 : decode cX10_relocationsOf 20 = .ok (.if_icmp .ne 7, 3) := by decide +kernel
theorem dX10_relocationsOf_23 : decode cX10_relocationsOf 23 = .ok (.iconst 1, 1) := by decide +kernel
theorem dX10_relocationsOf_24 : decode cX10_relocationsOf 24 = .ok (.goto 4, 3) := by decide +kernel
theorem dX10_relocationsOf_27 : decode cX10_relocationsOf 27 = .ok (.iconst 0, 1) := by decide +kernel
theorem dX10_relocationsOf_28 : decode cX10_relocationsOf 28 = .ok (.iadd, 1) := by decide +kernel
theorem dX10_relocationsOf_29 : decode cX10_relocationsOf 29 = .ok (.istore_n 2, 1) := by decide +kernel
theorem dX10_relocationsOf_30 : decode cX10_relocationsOf 30 = .ok (.iinc 3 1, 3) := by decide +kernel
theorem dX10_relocationsOf_33 : decode cX10_relocationsOf 33 = .ok (.goto (-29), 3) := by decide +kernel
theorem dX10_relocationsOf_36 : decode cX10_relocationsOf 36 = .ok (.iload_n 2, 1) := by decide +kernel
theorem dX10_relocationsOf_37 : decode cX10_relocationsOf 37 = .ok (.ireturn, 1) := by decide +kernel
theorem dX10_nth_0 : decode cX10_nth 0 = .ok (.iload_n 2, 1) := by decide +kernel
theorem dX10_nth_1 : decode cX10_nth 1 = .ok (.istore_n 3, 1) := by decide +kernel
theorem dX10_nth_2 : decode cX10_nth 2 = .ok (.iconst 0, 1) := by decide +kernel
theorem dX10_nth_3 : decode cX10_nth 3 = .ok (.istore 4, 2) := by decide +kernel
theorem dX10_nth_5 : decode cX10_nth 5 = .ok (.iload 4, 2) := by decide +kernel
theorem dX10_nth_7 : decode cX10_nth 7 = .ok (.aload_n 0, 1) := by decide +kernel
theorem dX10_nth_8 : decode cX10_nth 8 = .ok (.getfield 195, 3) := by decide +kernel
theorem dX10_nth_11 : decode cX10_nth 11 = .ok (.if_icmp .ge 30, 3) := by decide +kernel
theorem dX10_nth_14 : decode cX10_nth 14 = .ok (.aload_n 0, 1) := by decide +kernel
theorem dX10_nth_15 : decode cX10_nth 15 = .ok (.getfield 58, 3) := by decide +kernel
theorem dX10_nth_18 : decode cX10_nth 18 = .ok (.iload 4, 2) := by decide +kernel
theorem dX10_nth_20 : decode cX10_nth 20 = .ok (.iaload, 1) := by decide +kernel
theorem dX10_nth_21 : decode cX10_nth 21 = .ok (.iload_n 1, 1) := by decide +kernel
theorem dX10_nth_22 : decode cX10_nth 22 = .ok (.if_icmp .ne 13, 3) := by decide +kernel
theorem dX10_nth_25 : decode cX10_nth 25 = .ok (.iload_n 3, 1) := by decide +kernel
theorem dX10_nth_26 : decode cX10_nth 26 = .ok (.ifCond .ne 6, 3) := by decide +kernel
theorem dX10_nth_29 : decode cX10_nth 29 = .ok (.iload 4, 2) := by decide +kernel
theorem dX10_nth_31 : decode cX10_nth 31 = .ok (.ireturn, 1) := by decide +kernel
theorem dX10_nth_32 : decode cX10_nth 32 = .ok (.iinc 3 (-1), 3) := by decide +kernel
theorem dX10_nth_35 : decode cX10_nth 35 = .ok (.iinc 4 1, 3) := by decide +kernel
theorem dX10_nth_38 : decode cX10_nth 38 = .ok (.goto (-33), 3) := by decide +kernel
theorem dX10_nth_41 : decode cX10_nth 41 = .ok (.iconst (-1), 1) := by decide +kernel
theorem dX10_nth_42 : decode cX10_nth 42 = .ok (.ireturn, 1) := by decide +kernel
theorem dX10_startsAlike_0 : decode cX10_startsAlike 0 = .ok (.aload_n 0, 1) := by decide +kernel
theorem dX10_startsAlike_1 : decode cX10_startsAlike 1 = .ok (.getfield 17, 3) := by decide +kernel
theorem dX10_startsAlike_4 : decode cX10_startsAlike 4 = .ok (.iload_n 1, 1) := by decide +kernel
theorem dX10_startsAlike_5 : decode cX10_startsAlike 5 = .ok (.iaload, 1) := by decide +kernel
theorem dX10_startsAlike_6 : decode cX10_startsAlike 6 = .ok (.aload_n 0, 1) := by decide +kernel
theorem dX10_startsAlike_7 : decode cX10_startsAlike 7 = .ok (.getfield 17, 3) := by decide +kernel
theorem dX10_startsAlike_10 : decode cX10_startsAlike 10 = .ok (.iload_n 2, 1) := by decide +kernel
theorem dX10_startsAlike_11 : decode cX10_startsAlike 11 = .ok (.iaload, 1) := by decide +kernel
theorem dX10_startsAlike_12 : decode cX10_startsAlike 12 = .ok (.if_icmp .ne 46, 3) := by decide +kernel
theorem dX10_startsAlike_15 : decode cX10_startsAlike 15 = .ok (.aload_n 0, 1) := by decide +kernel
theorem dX10_startsAlike_16 : decode cX10_startsAlike 16 = .ok (.getfield 20, 3) := by decide +kernel
theorem dX10_startsAlike_19 : decode cX10_startsAlike 19 = .ok (.iload_n 1, 1) := by decide +kernel
theorem dX10_startsAlike_20 : decode cX10_startsAlike 20 = .ok (.iaload, 1) := by decide +kernel
theorem dX10_startsAlike_21 : decode cX10_startsAlike 21 = .ok (.aload_n 0, 1) := by decide +kernel
theorem dX10_startsAlike_22 : decode cX10_startsAlike 22 = .ok (.getfield 20, 3) := by decide +kernel
theorem dX10_startsAlike_25 : decode cX10_startsAlike 25 = .ok (.iload_n 2, 1) := by decide +kernel
theorem dX10_startsAlike_26 : decode cX10_startsAlike 26 = .ok (.iaload, 1) := by decide +kernel
theorem dX10_startsAlike_27 : decode cX10_startsAlike 27 = .ok (.if_icmp .ne 31, 3) := by decide +kernel
theorem dX10_startsAlike_30 : decode cX10_startsAlike 30 = .ok (.aload_n 0, 1) := by decide +kernel
theorem dX10_startsAlike_31 : decode cX10_startsAlike 31 = .ok (.getfield 23, 3) := by decide +kernel
theorem dX10_startsAlike_34 : decode cX10_startsAlike 34 = .ok (.iload_n 1, 1) := by decide +kernel
theorem dX10_startsAlike_35 : decode cX10_startsAlike 35 = .ok (.iaload, 1) := by decide +kernel
theorem dX10_startsAlike_36 : decode cX10_startsAlike 36 = .ok (.aload_n 0, 1) := by decide +kernel
theorem dX10_startsAlike_37 : decode cX10_startsAlike 37 = .ok (.getfield 23, 3) := by decide +kernel
theorem dX10_startsAlike_40 : decode cX10_startsAlike 40 = .ok (.iload_n 2, 1) := by decide +kernel
theorem dX10_startsAlike_41 : decode cX10_startsAlike 41 = .ok (.iaload, 1) := by decide +kernel
theorem dX10_startsAlike_42 : decode cX10_startsAlike 42 = .ok (.if_icmp .ne 16, 3) := by decide +kernel
theorem dX10_startsAlike_45 : decode cX10_startsAlike 45 = .ok (.aload_n 0, 1) := by decide +kernel
theorem dX10_startsAlike_46 : decode cX10_startsAlike 46 = .ok (.iload_n 1, 1) := by decide +kernel
theorem dX10_startsAlike_47 : decode cX10_startsAlike 47 = .ok (.invokevirtual 213, 3) := by decide +kernel
theorem dX10_startsAlike_50 : decode cX10_startsAlike 50 = .ok (.aload_n 0, 1) := by decide +kernel
theorem dX10_startsAlike_51 : decode cX10_startsAlike 51 = .ok (.iload_n 2, 1) := by decide +kernel
theorem dX10_startsAlike_52 : decode cX10_startsAlike 52 = .ok (.invokevirtual 213, 3) := by decide +kernel
theorem dX10_startsAlike_55 : decode cX10_startsAlike 55 = .ok (.if_icmp .eq 5, 3) := by decide +kernel
theorem dX10_startsAlike_58 : decode cX10_startsAlike 58 = .ok (.iconst 0, 1) := by decide +kernel
theorem dX10_startsAlike_59 : decode cX10_startsAlike 59 = .ok (.ireturn, 1) := by decide +kernel
theorem dX10_startsAlike_60 : decode cX10_startsAlike 60 = .ok (.iconst 0, 1) := by decide +kernel
theorem dX10_startsAlike_61 : decode cX10_startsAlike 61 = .ok (.istore_n 3, 1) := by decide +kernel
theorem dX10_startsAlike_62 : decode cX10_startsAlike 62 = .ok (.iload_n 3, 1) := by decide +kernel
theorem dX10_startsAlike_63 : decode cX10_startsAlike 63 = .ok (.aload_n 0, 1) := by decide +kernel
theorem dX10_startsAlike_64 : decode cX10_startsAlike 64 = .ok (.getfield 20, 3) := by decide +kernel
theorem dX10_startsAlike_67 : decode cX10_startsAlike 67 = .ok (.iload_n 1, 1) := by decide +kernel
theorem dX10_startsAlike_68 : decode cX10_startsAlike 68 = .ok (.iaload, 1) := by decide +kernel
theorem dX10_startsAlike_69 : decode cX10_startsAlike 69 = .ok (.if_icmp .ge 40, 3) := by decide +kernel
theorem dX10_startsAlike_72 : decode cX10_startsAlike 72 = .ok (.aload_n 0, 1) := by decide +kernel
theorem dX10_startsAlike_73 : decode cX10_startsAlike 73 = .ok (.getfield 40, 3) := by decide +kernel
theorem dX10_startsAlike_76 : decode cX10_startsAlike 76 = .ok (.aload_n 0, 1) := by decide +kernel
theorem dX10_startsAlike_77 : decode cX10_startsAlike 77 = .ok (.getfield 26, 3) := by decide +kernel
theorem dX10_startsAlike_80 : decode cX10_startsAlike 80 = .ok (.iload_n 1, 1) := by decide +kernel
theorem dX10_startsAlike_81 : decode cX10_startsAlike 81 = .ok (.iaload, 1) := by decide +kernel
theorem dX10_startsAlike_82 : decode cX10_startsAlike 82 = .ok (.iload_n 3, 1) := by decide +kernel
theorem dX10_startsAlike_83 : decode cX10_startsAlike 83 = .ok (.iadd, 1) := by decide +kernel
theorem dX10_startsAlike_84 : decode cX10_startsAlike 84 = .ok (.iaload, 1) := by decide +kernel
theorem dX10_startsAlike_85 : decode cX10_startsAlike 85 = .ok (.aload_n 0, 1) := by decide +kernel
theorem dX10_startsAlike_86 : decode cX10_startsAlike 86 = .ok (.getfield 40, 3) := by decide +kernel
theorem dX10_startsAlike_89 : decode cX10_startsAlike 89 = .ok (.aload_n 0, 1) := by decide +kernel
theorem dX10_startsAlike_90 : decode cX10_startsAlike 90 = .ok (.getfield 26, 3) := by decide +kernel
theorem dX10_startsAlike_93 : decode cX10_startsAlike 93 = .ok (.iload_n 2, 1) := by decide +kernel
theorem dX10_startsAlike_94 : decode cX10_startsAlike 94 = .ok (.iaload, 1) := by decide +kernel
theorem dX10_startsAlike_95 : decode cX10_startsAlike 95 = .ok (.iload_n 3, 1) := by decide +kernel
theorem dX10_startsAlike_96 : decode cX10_startsAlike 96 = .ok (.iadd, 1) := by decide +kernel
theorem dX10_startsAlike_97 : decode cX10_startsAlike 97 = .ok (.iaload, 1) := by decide +kernel
theorem dX10_startsAlike_98 : decode cX10_startsAlike 98 = .ok (.if_icmp .eq 5, 3) := by decide +kernel
theorem dX10_startsAlike_101 : decode cX10_startsAlike 101 = .ok (.iconst 0, 1) := by decide +kernel
theorem dX10_startsAlike_102 : decode cX10_startsAlike 102 = .ok (.ireturn, 1) := by decide +kernel
theorem dX10_startsAlike_103 : decode cX10_startsAlike 103 = .ok (.iinc 3 1, 3) := by decide +kernel
theorem dX10_startsAlike_106 : decode cX10_startsAlike 106 = .ok (.goto (-44), 3) := by decide +kernel
theorem dX10_startsAlike_109 : decode cX10_startsAlike 109 = .ok (.iconst 1, 1) := by decide +kernel
theorem dX10_startsAlike_110 : decode cX10_startsAlike 110 = .ok (.ireturn, 1) := by decide +kernel
theorem dX10_staysAlike_0 : decode cX10_staysAlike 0 = .ok (.aload_n 0, 1) := by decide +kernel
theorem dX10_staysAlike_1 : decode cX10_staysAlike 1 = .ok (.iload_n 1, 1) := by decide +kernel
theorem dX10_staysAlike_2 : decode cX10_staysAlike 2 = .ok (.invokevirtual 213, 3) := by decide +kernel
theorem dX10_staysAlike_5 : decode cX10_staysAlike 5 = .ok (.istore_n 3, 1) := by decide +kernel
theorem dX10_staysAlike_6 : decode cX10_staysAlike 6 = .ok (.iconst 0, 1) := by decide +kernel
theorem dX10_staysAlike_7 : decode cX10_staysAlike 7 = .ok (.istore 4, 2) := by decide +kernel
theorem dX10_staysAlike_9 : decode cX10_staysAlike 9 = .ok (.iload 4, 2) := by decide +kernel
theorem dX10_staysAlike_11 : decode cX10_staysAlike 11 = .ok (.iload_n 3, 1) := by decide +kernel
theorem dX10_staysAlike_12 : decode cX10_staysAlike 12 = .ok (.if_icmp .ge 210, 3) := by decide +kernel
theorem dX10_staysAlike_15 : decode cX10_staysAlike 15 = .ok (.aload_n 0, 1) := by decide +kernel
theorem dX10_staysAlike_16 : decode cX10_staysAlike 16 = .ok (.iload_n 1, 1) := by decide +kernel
theorem dX10_staysAlike_17 : decode cX10_staysAlike 17 = .ok (.iload 4, 2) := by decide +kernel
theorem dX10_staysAlike_19 : decode cX10_staysAlike 19 = .ok (.invokevirtual 216, 3) := by decide +kernel
theorem dX10_staysAlike_22 : decode cX10_staysAlike 22 = .ok (.istore 5, 2) := by decide +kernel
theorem dX10_staysAlike_24 : decode cX10_staysAlike 24 = .ok (.aload_n 0, 1) := by decide +kernel
theorem dX10_staysAlike_25 : decode cX10_staysAlike 25 = .ok (.iload_n 2, 1) := by decide +kernel
theorem dX10_staysAlike_26 : decode cX10_staysAlike 26 = .ok (.iload 4, 2) := by decide +kernel
theorem dX10_staysAlike_28 : decode cX10_staysAlike 28 = .ok (.invokevirtual 216, 3) := by decide +kernel
theorem dX10_staysAlike_31 : decode cX10_staysAlike 31 = .ok (.istore 6, 2) := by decide +kernel
theorem dX10_staysAlike_33 : decode cX10_staysAlike 33 = .ok (.aload_n 0, 1) := by decide +kernel
theorem dX10_staysAlike_34 : decode cX10_staysAlike 34 = .ok (.getfield 67, 3) := by decide +kernel
theorem dX10_staysAlike_37 : decode cX10_staysAlike 37 = .ok (.iload 5, 2) := by decide +kernel
theorem dX10_staysAlike_39 : decode cX10_staysAlike 39 = .ok (.iaload, 1) := by decide +kernel
theorem dX10_staysAlike_40 : decode cX10_staysAlike 40 = .ok (.istore 7, 2) := by decide +kernel
theorem dX10_staysAlike_42 : decode cX10_staysAlike 42 = .ok (.aload_n 0, 1) := by decide +kernel
theorem dX10_staysAlike_43 : decode cX10_staysAlike 43 = .ok (.getfield 67, 3) := by decide +kernel
theorem dX10_staysAlike_46 : decode cX10_staysAlike 46 = .ok (.iload 6, 2) := by decide +kernel
theorem dX10_staysAlike_48 : decode cX10_staysAlike 48 = .ok (.iaload, 1) := by decide +kernel
theorem dX10_staysAlike_49 : decode cX10_staysAlike 49 = .ok (.istore 8, 2) := by decide +kernel
theorem dX10_staysAlike_51 : decode cX10_staysAlike 51 = .ok (.aload_n 0, 1) := by decide +kernel
theorem dX10_staysAlike_52 : decode cX10_staysAlike 52 = .ok (.getfield 61, 3) := by decide +kernel
theorem dX10_staysAlike_55 : decode cX10_staysAlike 55 = .ok (.iload 5, 2) := by decide +kernel
theorem dX10_staysAlike_57 : decode cX10_staysAlike 57 = .ok (.iaload, 1) := by decide +kernel
theorem dX10_staysAlike_58 : decode cX10_staysAlike 58 = .ok (.aload_n 0, 1) := by decide +kernel
theorem dX10_staysAlike_59 : decode cX10_staysAlike 59 = .ok (.getfield 61, 3) := by decide +kernel
theorem dX10_staysAlike_62 : decode cX10_staysAlike 62 = .ok (.iload 6, 2) := by decide +kernel
theorem dX10_staysAlike_64 : decode cX10_staysAlike 64 = .ok (.iaload, 1) := by decide +kernel
theorem dX10_staysAlike_65 : decode cX10_staysAlike 65 = .ok (.if_icmp .ne 54, 3) := by decide +kernel
theorem dX10_staysAlike_68 : decode cX10_staysAlike 68 = .ok (.aload_n 0, 1) := by decide +kernel
theorem dX10_staysAlike_69 : decode cX10_staysAlike 69 = .ok (.getfield 64, 3) := by decide +kernel
theorem dX10_staysAlike_72 : decode cX10_staysAlike 72 = .ok (.iload 5, 2) := by decide +kernel
theorem dX10_staysAlike_74 : decode cX10_staysAlike 74 = .ok (.iaload, 1) := by decide +kernel
theorem dX10_staysAlike_75 : decode cX10_staysAlike 75 = .ok (.aload_n 0, 1) := by decide +kernel
theorem dX10_staysAlike_76 : decode cX10_staysAlike 76 = .ok (.getfield 64, 3) := by decide +kernel
theorem dX10_staysAlike_79 : decode cX10_staysAlike 79 = .ok (.iload 6, 2) := by decide +kernel
theorem dX10_staysAlike_81 : decode cX10_staysAlike 81 = .ok (.iaload, 1) := by decide +kernel
theorem dX10_staysAlike_82 : decode cX10_staysAlike 82 = .ok (.if_icmp .ne 37, 3) := by decide +kernel
theorem dX10_staysAlike_85 : decode cX10_staysAlike 85 = .ok (.aload_n 0, 1) := by decide +kernel
theorem dX10_staysAlike_86 : decode cX10_staysAlike 86 = .ok (.getfield 70, 3) := by decide +kernel
theorem dX10_staysAlike_89 : decode cX10_staysAlike 89 = .ok (.iload 5, 2) := by decide +kernel
theorem dX10_staysAlike_91 : decode cX10_staysAlike 91 = .ok (.iaload, 1) := by decide +kernel
theorem dX10_staysAlike_92 : decode cX10_staysAlike 92 = .ok (.aload_n 0, 1) := by decide +kernel
theorem dX10_staysAlike_93 : decode cX10_staysAlike 93 = .ok (.getfield 70, 3) := by decide +kernel
theorem dX10_staysAlike_96 : decode cX10_staysAlike 96 = .ok (.iload 6, 2) := by decide +kernel
theorem dX10_staysAlike_98 : decode cX10_staysAlike 98 = .ok (.iaload, 1) := by decide +kernel
theorem dX10_staysAlike_99 : decode cX10_staysAlike 99 = .ok (.if_icmp .ne 20, 3) := by decide +kernel
theorem dX10_staysAlike_102 : decode cX10_staysAlike 102 = .ok (.aload_n 0, 1) := by decide +kernel
theorem dX10_staysAlike_103 : decode cX10_staysAlike 103 = .ok (.getfield 91, 3) := by decide +kernel
theorem dX10_staysAlike_106 : decode cX10_staysAlike 106 = .ok (.iload 7, 2) := by decide +kernel
theorem dX10_staysAlike_108 : decode cX10_staysAlike 108 = .ok (.iaload, 1) := by decide +kernel
theorem dX10_staysAlike_109 : decode cX10_staysAlike 109 = .ok (.aload_n 0, 1) := by decide +kernel
theorem dX10_staysAlike_110 : decode cX10_staysAlike 110 = .ok (.getfield 91, 3) := by decide +kernel
theorem dX10_staysAlike_113 : decode cX10_staysAlike 113 = .ok (.iload 8, 2) := by decide +kernel
theorem dX10_staysAlike_115 : decode cX10_staysAlike 115 = .ok (.iaload, 1) := by decide +kernel
theorem dX10_staysAlike_116 : decode cX10_staysAlike 116 = .ok (.if_icmp .eq 5, 3) := by decide +kernel
theorem dX10_staysAlike_119 : decode cX10_staysAlike 119 = .ok (.iconst 0, 1) := by decide +kernel
theorem dX10_staysAlike_120 : decode cX10_staysAlike 120 = .ok (.ireturn, 1) := by decide +kernel
theorem dX10_staysAlike_121 : decode cX10_staysAlike 121 = .ok (.aload_n 0, 1) := by decide +kernel
theorem dX10_staysAlike_122 : decode cX10_staysAlike 122 = .ok (.getfield 94, 3) := by decide +kernel
theorem dX10_staysAlike_125 : decode cX10_staysAlike 125 = .ok (.iload 7, 2) := by decide +kernel
theorem dX10_staysAlike_127 : decode cX10_staysAlike 127 = .ok (.iaload, 1) := by decide +kernel
theorem dX10_staysAlike_128 : decode cX10_staysAlike 128 = .ok (.aload_n 0, 1) := by decide +kernel
theorem dX10_staysAlike_129 : decode cX10_staysAlike 129 = .ok (.getfield 94, 3) := by decide +kernel
theorem dX10_staysAlike_132 : decode cX10_staysAlike 132 = .ok (.iload 8, 2) := by decide +kernel
theorem dX10_staysAlike_134 : decode cX10_staysAlike 134 = .ok (.iaload, 1) := by decide +kernel
theorem dX10_staysAlike_135 : decode cX10_staysAlike 135 = .ok (.if_icmp .eq 40, 3) := by decide +kernel
theorem dX10_staysAlike_138 : decode cX10_staysAlike 138 = .ok (.aload_n 0, 1) := by decide +kernel
theorem dX10_staysAlike_139 : decode cX10_staysAlike 139 = .ok (.getfield 91, 3) := by decide +kernel
theorem dX10_staysAlike_142 : decode cX10_staysAlike 142 = .ok (.iload 7, 2) := by decide +kernel
theorem dX10_staysAlike_144 : decode cX10_staysAlike 144 = .ok (.iaload, 1) := by decide +kernel
theorem dX10_staysAlike_145 : decode cX10_staysAlike 145 = .ok (.iconst 1, 1) := by decide +kernel
theorem dX10_staysAlike_146 : decode cX10_staysAlike 146 = .ok (.if_icmp .ne 33, 3) := by decide +kernel
theorem dX10_staysAlike_149 : decode cX10_staysAlike 149 = .ok (.aload_n 0, 1) := by decide +kernel
theorem dX10_staysAlike_150 : decode cX10_staysAlike 150 = .ok (.getfield 118, 3) := by decide +kernel
theorem dX10_staysAlike_153 : decode cX10_staysAlike 153 = .ok (.bipush 60, 2) := by decide +kernel
theorem dX10_staysAlike_155 : decode cX10_staysAlike 155 = .ok (.aload_n 0, 1) := by decide +kernel
theorem dX10_staysAlike_156 : decode cX10_staysAlike 156 = .ok (.getfield 94, 3) := by decide +kernel
theorem dX10_staysAlike_159 : decode cX10_staysAlike 159 = .ok (.iload 7, 2) := by decide +kernel
theorem dX10_staysAlike_161 : decode cX10_staysAlike 161 = .ok (.iaload, 1) := by decide +kernel
theorem dX10_staysAlike_162 : decode cX10_staysAlike 162 = .ok (.imul, 1) := by decide +kernel
theorem dX10_staysAlike_163 : decode cX10_staysAlike 163 = .ok (.aload_n 0, 1) := by decide +kernel
theorem dX10_staysAlike_164 : decode cX10_staysAlike 164 = .ok (.getfield 94, 3) := by decide +kernel
theorem dX10_staysAlike_167 : decode cX10_staysAlike 167 = .ok (.iload 8, 2) := by decide +kernel
theorem dX10_staysAlike_169 : decode cX10_staysAlike 169 = .ok (.iaload, 1) := by decide +kernel
theorem dX10_staysAlike_170 : decode cX10_staysAlike 170 = .ok (.iadd, 1) := by decide +kernel
theorem dX10_staysAlike_171 : decode cX10_staysAlike 171 = .ok (.baload, 1) := by decide +kernel
theorem dX10_staysAlike_172 : decode cX10_staysAlike 172 = .ok (.ifCond .eq 7, 3) := by decide +kernel
theorem dX10_staysAlike_175 : decode cX10_staysAlike 175 = .ok (.iconst 1, 1) := by decide +kernel
theorem dX10_staysAlike_176 : decode cX10_staysAlike 176 = .ok (.goto 4, 3) := by decide +kernel
theorem dX10_staysAlike_179 : decode cX10_staysAlike 179 = .ok (.iconst 0, 1) := by decide +kernel
theorem dX10_staysAlike_180 : decode cX10_staysAlike 180 = .ok (.istore 9, 2) := by decide +kernel
theorem dX10_staysAlike_182 : decode cX10_staysAlike 182 = .ok (.aload_n 0, 1) := by decide +kernel
theorem dX10_staysAlike_183 : decode cX10_staysAlike 183 = .ok (.getfield 91, 3) := by decide +kernel
theorem dX10_staysAlike_186 : decode cX10_staysAlike 186 = .ok (.iload 7, 2) := by decide +kernel
theorem dX10_staysAlike_188 : decode cX10_staysAlike 188 = .ok (.iaload, 1) := by decide +kernel
theorem dX10_staysAlike_189 : decode cX10_staysAlike 189 = .ok (.ifCond .eq 27, 3) := by decide +kernel
theorem dX10_staysAlike_192 : decode cX10_staysAlike 192 = .ok (.iload 9, 2) := by decide +kernel
theorem dX10_staysAlike_194 : decode cX10_staysAlike 194 = .ok (.ifCond .eq 20, 3) := by decide +kernel
theorem dX10_staysAlike_197 : decode cX10_staysAlike 197 = .ok (.aload_n 0, 1) := by decide +kernel
theorem dX10_staysAlike_198 : decode cX10_staysAlike 198 = .ok (.getfield 97, 3) := by decide +kernel
theorem dX10_staysAlike_201 : decode cX10_staysAlike 201 = .ok (.iload 7, 2) := by decide +kernel
theorem dX10_staysAlike_203 : decode cX10_staysAlike 203 = .ok (.iaload, 1) := by decide +kernel
theorem dX10_staysAlike_204 : decode cX10_staysAlike 204 = .ok (.aload_n 0, 1) := by decide +kernel
theorem dX10_staysAlike_205 : decode cX10_staysAlike 205 = .ok (.getfield 97, 3) := by decide +kernel
theorem dX10_staysAlike_208 : decode cX10_staysAlike 208 = .ok (.iload 8, 2) := by decide +kernel
theorem dX10_staysAlike_210 : decode cX10_staysAlike 210 = .ok (.iaload, 1) := by decide +kernel
theorem dX10_staysAlike_211 : decode cX10_staysAlike 211 = .ok (.if_icmp .eq 5, 3) := by decide +kernel
theorem dX10_staysAlike_214 : decode cX10_staysAlike 214 = .ok (.iconst 0, 1) := by decide +kernel
theorem dX10_staysAlike_215 : decode cX10_staysAlike 215 = .ok (.ireturn, 1) := by decide +kernel
theorem dX10_staysAlike_216 : decode cX10_staysAlike 216 = .ok (.iinc 4 1, 3) := by decide +kernel
theorem dX10_staysAlike_219 : decode cX10_staysAlike 219 = .ok (.goto (-210), 3) := by decide +kernel
theorem dX10_staysAlike_222 : decode cX10_staysAlike 222 = .ok (.iconst 1, 1) := by decide +kernel
theorem dX10_staysAlike_223 : decode cX10_staysAlike 223 = .ok (.ireturn, 1) := by decide +kernel
theorem dX10_foldAll_0 : decode cX10_foldAll 0 = .ok (.iconst 0, 1) := by decide +kernel
theorem dX10_foldAll_1 : decode cX10_foldAll 1 = .ok (.istore_n 2, 1) := by decide +kernel
theorem dX10_foldAll_2 : decode cX10_foldAll 2 = .ok (.iload_n 2, 1) := by decide +kernel
theorem dX10_foldAll_3 : decode cX10_foldAll 3 = .ok (.bipush 60, 2) := by decide +kernel
theorem dX10_foldAll_5 : decode cX10_foldAll 5 = .ok (.if_icmp .ge 77, 3) := by decide +kernel
theorem dX10_foldAll_8 : decode cX10_foldAll 8 = .ok (.aload_n 0, 1) := by decide +kernel
theorem dX10_foldAll_9 : decode cX10_foldAll 9 = .ok (.getfield 112, 3) := by decide +kernel
theorem dX10_foldAll_12 : decode cX10_foldAll 12 = .ok (.iload_n 2, 1) := by decide +kernel
theorem dX10_foldAll_13 : decode cX10_foldAll 13 = .ok (.iconst (-1), 1) := by decide +kernel
theorem dX10_foldAll_14 : decode cX10_foldAll 14 = .ok (.iastore, 1) := by decide +kernel
theorem dX10_foldAll_15 : decode cX10_foldAll 15 = .ok (.aload_n 0, 1) := by decide +kernel
theorem dX10_foldAll_16 : decode cX10_foldAll 16 = .ok (.getfield 115, 3) := by decide +kernel
theorem dX10_foldAll_19 : decode cX10_foldAll 19 = .ok (.iload_n 2, 1) := by decide +kernel
theorem dX10_foldAll_20 : decode cX10_foldAll 20 = .ok (.iload_n 1, 1) := by decide +kernel
theorem dX10_foldAll_21 : decode cX10_foldAll 21 = .ok (.ifCond .eq 53, 3) := by decide +kernel
theorem dX10_foldAll_24 : decode cX10_foldAll 24 = .ok (.iload_n 2, 1) := by decide +kernel
theorem dX10_foldAll_25 : decode cX10_foldAll 25 = .ok (.aload_n 0, 1) := by decide +kernel
theorem dX10_foldAll_26 : decode cX10_foldAll 26 = .ok (.getfield 165, 3) := by decide +kernel
theorem dX10_foldAll_29 : decode cX10_foldAll 29 = .ok (.if_icmp .ge 45, 3) := by decide +kernel
theorem dX10_foldAll_32 : decode cX10_foldAll 32 = .ok (.aload_n 0, 1) := by decide +kernel
theorem dX10_foldAll_33 : decode cX10_foldAll 33 = .ok (.getfield 103, 3) := by decide +kernel
theorem dX10_foldAll_36 : decode cX10_foldAll 36 = .ok (.iload_n 2, 1) := by decide +kernel
theorem dX10_foldAll_37 : decode cX10_foldAll 37 = .ok (.baload, 1) := by decide +kernel
theorem dX10_foldAll_38 : decode cX10_foldAll 38 = .ok (.ifCond .eq 36, 3) := by decide +kernel
theorem dX10_foldAll_41 : decode cX10_foldAll 41 = .ok (.aload_n 0, 1) := by decide +kernel
theorem dX10_foldAll_42 : decode cX10_foldAll 42 = .ok (.getfield 17, 3) := by decide +kernel
theorem dX10_foldAll_45 : decode cX10_foldAll 45 = .ok (.iload_n 2, 1) := by decide +kernel
theorem dX10_foldAll_46 : decode cX10_foldAll 46 = .ok (.iaload, 1) := by decide +kernel
theorem dX10_foldAll_47 : decode cX10_foldAll 47 = .ok (.iconst 2, 1) := by decide +kernel
theorem dX10_foldAll_48 : decode cX10_foldAll 48 = .ok (.if_icmp .ge 26, 3) := by decide +kernel
theorem dX10_foldAll_51 : decode cX10_foldAll 51 = .ok (.aload_n 0, 1) := by decide +kernel
theorem dX10_foldAll_52 : decode cX10_foldAll 52 = .ok (.getfield 29, 3) := by decide +kernel
theorem dX10_foldAll_55 : decode cX10_foldAll 55 = .ok (.iload_n 2, 1) := by decide +kernel
theorem dX10_foldAll_56 : decode cX10_foldAll 56 = .ok (.baload, 1) := by decide +kernel
theorem dX10_foldAll_57 : decode cX10_foldAll 57 = .ok (.ifCond .ne 17, 3) := by decide +kernel
theorem dX10_foldAll_60 : decode cX10_foldAll 60 = .ok (.aload_n 0, 1) := by decide +kernel
theorem dX10_foldAll_61 : decode cX10_foldAll 61 = .ok (.getfield 33, 3) := by decide +kernel
theorem dX10_foldAll_64 : decode cX10_foldAll 64 = .ok (.iload_n 2, 1) := by decide +kernel
theorem dX10_foldAll_65 : decode cX10_foldAll 65 = .ok (.iaload, 1) := by decide +kernel
theorem dX10_foldAll_66 : decode cX10_foldAll 66 = .ok (.iconst (-1), 1) := by decide +kernel
theorem dX10_foldAll_67 : decode cX10_foldAll 67 = .ok (.if_icmp .ne 7, 3) := by decide +kernel
theorem dX10_foldAll_70 : decode cX10_foldAll 70 = .ok (.iconst 1, 1) := by decide +kernel
theorem dX10_foldAll_71 : decode cX10_foldAll 71 = .ok (.goto 4, 3) := by decide +kernel
theorem dX10_foldAll_74 : decode cX10_foldAll 74 = .ok (.iconst 0, 1) := by decide +kernel
theorem dX10_foldAll_75 : decode cX10_foldAll 75 = .ok (.bastore, 1) := by decide +kernel
theorem dX10_foldAll_76 : decode cX10_foldAll 76 = .ok (.iinc 2 1, 3) := by decide +kernel
theorem dX10_foldAll_79 : decode cX10_foldAll 79 = .ok (.goto (-77), 3) := by decide +kernel
theorem dX10_foldAll_82 : decode cX10_foldAll 82 = .ok (.iconst 0, 1) := by decide +kernel
theorem dX10_foldAll_83 : decode cX10_foldAll 83 = .ok (.istore_n 2, 1) := by decide +kernel
theorem dX10_foldAll_84 : decode cX10_foldAll 84 = .ok (.iload_n 2, 1) := by decide +kernel
theorem dX10_foldAll_85 : decode cX10_foldAll 85 = .ok (.aload_n 0, 1) := by decide +kernel
theorem dX10_foldAll_86 : decode cX10_foldAll 86 = .ok (.getfield 195, 3) := by decide +kernel
theorem dX10_foldAll_89 : decode cX10_foldAll 89 = .ok (.if_icmp .ge 62, 3) := by decide +kernel
theorem dX10_foldAll_92 : decode cX10_foldAll 92 = .ok (.aload_n 0, 1) := by decide +kernel
theorem dX10_foldAll_93 : decode cX10_foldAll 93 = .ok (.getfield 67, 3) := by decide +kernel
theorem dX10_foldAll_96 : decode cX10_foldAll 96 = .ok (.iload_n 2, 1) := by decide +kernel
theorem dX10_foldAll_97 : decode cX10_foldAll 97 = .ok (.iaload, 1) := by decide +kernel
theorem dX10_foldAll_98 : decode cX10_foldAll 98 = .ok (.istore_n 3, 1) := by decide +kernel
theorem dX10_foldAll_99 : decode cX10_foldAll 99 = .ok (.aload_n 0, 1) := by decide +kernel
theorem dX10_foldAll_100 : decode cX10_foldAll 100 = .ok (.getfield 103, 3) := by decide +kernel
theorem dX10_foldAll_103 : decode cX10_foldAll 103 = .ok (.aload_n 0, 1) := by decide +kernel
theorem dX10_foldAll_104 : decode cX10_foldAll 104 = .ok (.getfield 58, 3) := by decide +kernel
theorem dX10_foldAll_107 : decode cX10_foldAll 107 = .ok (.iload_n 2, 1) := by decide +kernel
theorem dX10_foldAll_108 : decode cX10_foldAll 108 = .ok (.iaload, 1) := by decide +kernel
theorem dX10_foldAll_109 : decode cX10_foldAll 109 = .ok (.baload, 1) := by decide +kernel
theorem dX10_foldAll_110 : decode cX10_foldAll 110 = .ok (.ifCond .eq 35, 3) := by decide +kernel
theorem dX10_foldAll_113 : decode cX10_foldAll 113 = .ok (.aload_n 0, 1) := by decide +kernel
theorem dX10_foldAll_114 : decode cX10_foldAll 114 = .ok (.getfield 91, 3) := by decide +kernel
theorem dX10_foldAll_117 : decode cX10_foldAll 117 = .ok (.iload_n 3, 1) := by decide +kernel
theorem dX10_foldAll_118 : decode cX10_foldAll 118 = .ok (.iaload, 1) := by decide +kernel
theorem dX10_foldAll_119 : decode cX10_foldAll 119 = .ok (.iconst 1, 1) := by decide +kernel
theorem dX10_foldAll_120 : decode cX10_foldAll 120 = .ok (.if_icmp .ne 25, 3) := by decide +kernel
theorem dX10_foldAll_123 : decode cX10_foldAll 123 = .ok (.aload_n 0, 1) := by decide +kernel
theorem dX10_foldAll_124 : decode cX10_foldAll 124 = .ok (.getfield 64, 3) := by decide +kernel
theorem dX10_foldAll_127 : decode cX10_foldAll 127 = .ok (.iload_n 2, 1) := by decide +kernel
theorem dX10_foldAll_128 : decode cX10_foldAll 128 = .ok (.iaload, 1) := by decide +kernel
theorem dX10_foldAll_129 : decode cX10_foldAll 129 = .ok (.iconst 3, 1) := by decide +kernel
theorem dX10_foldAll_130 : decode cX10_foldAll 130 = .ok (.if_icmp .eq 15, 3) := by decide +kernel
theorem dX10_foldAll_133 : decode cX10_foldAll 133 = .ok (.aload_n 0, 1) := by decide +kernel
theorem dX10_foldAll_134 : decode cX10_foldAll 134 = .ok (.getfield 115, 3) := by decide +kernel
theorem dX10_foldAll_137 : decode cX10_foldAll 137 = .ok (.aload_n 0, 1) := by decide +kernel
theorem dX10_foldAll_138 : decode cX10_foldAll 138 = .ok (.getfield 94, 3) := by decide +kernel
theorem dX10_foldAll_141 : decode cX10_foldAll 141 = .ok (.iload_n 3, 1) := by decide +kernel
theorem dX10_foldAll_142 : decode cX10_foldAll 142 = .ok (.iaload, 1) := by decide +kernel
theorem dX10_foldAll_143 : decode cX10_foldAll 143 = .ok (.iconst 0, 1) := by decide +kernel
theorem dX10_foldAll_144 : decode cX10_foldAll 144 = .ok (.bastore, 1) := by decide +kernel
theorem dX10_foldAll_145 : decode cX10_foldAll 145 = .ok (.iinc 2 1, 3) := by decide +kernel
theorem dX10_foldAll_148 : decode cX10_foldAll 148 = .ok (.goto (-64), 3) := by decide +kernel
theorem dX10_foldAll_151 : decode cX10_foldAll 151 = .ok (.iconst 0, 1) := by decide +kernel
theorem dX10_foldAll_152 : decode cX10_foldAll 152 = .ok (.istore_n 2, 1) := by decide +kernel
theorem dX10_foldAll_153 : decode cX10_foldAll 153 = .ok (.iload_n 2, 1) := by decide +kernel
theorem dX10_foldAll_154 : decode cX10_foldAll 154 = .ok (.aload_n 0, 1) := by decide +kernel
theorem dX10_foldAll_155 : decode cX10_foldAll 155 = .ok (.getfield 165, 3) := by decide +kernel
theorem dX10_foldAll_158 : decode cX10_foldAll 158 = .ok (.if_icmp .ge 73, 3) := by decide +kernel
theorem dX10_foldAll_161 : decode cX10_foldAll 161 = .ok (.iconst 0, 1) := by decide +kernel
theorem dX10_foldAll_162 : decode cX10_foldAll 162 = .ok (.istore_n 3, 1) := by decide +kernel
theorem dX10_foldAll_163 : decode cX10_foldAll 163 = .ok (.iload_n 3, 1) := by decide +kernel
theorem dX10_foldAll_164 : decode cX10_foldAll 164 = .ok (.aload_n 0, 1) := by decide +kernel
theorem dX10_foldAll_165 : decode cX10_foldAll 165 = .ok (.getfield 165, 3) := by decide +kernel
theorem dX10_foldAll_168 : decode cX10_foldAll 168 = .ok (.if_icmp .ge 57, 3) := by decide +kernel
theorem dX10_foldAll_171 : decode cX10_foldAll 171 = .ok (.aload_n 0, 1) := by decide +kernel
theorem dX10_foldAll_172 : decode cX10_foldAll 172 = .ok (.getfield 118, 3) := by decide +kernel
theorem dX10_foldAll_175 : decode cX10_foldAll 175 = .ok (.bipush 60, 2) := by decide +kernel
theorem dX10_foldAll_177 : decode cX10_foldAll 177 = .ok (.iload_n 2, 1) := by decide +kernel
theorem dX10_foldAll_178 : decode cX10_foldAll 178 = .ok (.imul, 1) := by decide +kernel
theorem dX10_foldAll_179 : decode cX10_foldAll 179 = .ok (.iload_n 3, 1) := by decide +kernel
theorem dX10_foldAll_180 : decode cX10_foldAll 180 = .ok (.iadd, 1) := by decide +kernel
theorem dX10_foldAll_181 : decode cX10_foldAll 181 = .ok (.iload_n 2, 1) := by decide +kernel
theorem dX10_foldAll_182 : decode cX10_foldAll 182 = .ok (.iload_n 3, 1) := by decide +kernel
theorem dX10_foldAll_183 : decode cX10_foldAll 183 = .ok (.if_icmp .eq 34, 3) := by decide +kernel
theorem dX10_foldAll_186 : decode cX10_foldAll 186 = .ok (.aload_n 0, 1) := by decide +kernel
theorem dX10_foldAll_187 : decode cX10_foldAll 187 = .ok (.getfield 115, 3) := by decide +kernel
theorem dX10_foldAll_190 : decode cX10_foldAll 190 = .ok (.iload_n 2, 1) := by decide +kernel
theorem dX10_foldAll_191 : decode cX10_foldAll 191 = .ok (.baload, 1) := by decide +kernel
theorem dX10_foldAll_192 : decode cX10_foldAll 192 = .ok (.ifCond .eq 25, 3) := by decide +kernel
theorem dX10_foldAll_195 : decode cX10_foldAll 195 = .ok (.aload_n 0, 1) := by decide +kernel
theorem dX10_foldAll_196 : decode cX10_foldAll 196 = .ok (.getfield 115, 3) := by decide +kernel
theorem dX10_foldAll_199 : decode cX10_foldAll 199 = .ok (.iload_n 3, 1) := by decide +kernel
theorem dX10_foldAll_200 : decode cX10_foldAll 200 = .ok (.baload, 1) := by decide +kernel
theorem dX10_foldAll_201 : decode cX10_foldAll 201 = .ok (.ifCond .eq 16, 3) := by decide +kernel
theorem dX10_foldAll_204 : decode cX10_foldAll 204 = .ok (.aload_n 0, 1) := by decide +kernel
theorem dX10_foldAll_205 : decode cX10_foldAll 205 = .ok (.iload_n 2, 1) := by decide +kernel
theorem dX10_foldAll_206 : decode cX10_foldAll 206 = .ok (.iload_n 3, 1) := by decide +kernel
theorem dX10_foldAll_207 : decode cX10_foldAll 207 = .ok (.invokevirtual 220, 3) := by decide +kernel
theorem dX10_foldAll_210 : decode cX10_foldAll 210 = .ok (.ifCond .eq 7, 3) := by decide +kernel
theorem dX10_foldAll_213 : decode cX10_foldAll 213 = .ok (.iconst 1, 1) := by decide +kernel
theorem dX10_foldAll_214 : decode cX10_foldAll 214 = .ok (.goto 4, 3) := by decide +kernel
theorem dX10_foldAll_217 : decode cX10_foldAll 217 = .ok (.iconst 0, 1) := by decide +kernel
theorem dX10_foldAll_218 : decode cX10_foldAll 218 = .ok (.bastore, 1) := by decide +kernel
theorem dX10_foldAll_219 : decode cX10_foldAll 219 = .ok (.iinc 3 1, 3) := by decide +kernel
theorem dX10_foldAll_222 : decode cX10_foldAll 222 = .ok (.goto (-59), 3) := by decide +kernel
theorem dX10_foldAll_225 : decode cX10_foldAll 225 = .ok (.iinc 2 1, 3) := by decide +kernel
theorem dX10_foldAll_228 : decode cX10_foldAll 228 = .ok (.goto (-75), 3) := by decide +kernel
theorem dX10_foldAll_231 : decode cX10_foldAll 231 = .ok (.iconst 1, 1) := by decide +kernel
theorem dX10_foldAll_232 : decode cX10_foldAll 232 = .ok (.istore_n 2, 1) := by decide +kernel
theorem dX10_foldAll_233 : decode cX10_foldAll 233 = .ok (.iload_n 2, 1) := by decide +kernel
theorem dX10_foldAll_234 : decode cX10_foldAll 234 = .ok (.ifCond .eq 82, 3) := by decide +kernel
theorem dX10_foldAll_237 : decode cX10_foldAll 237 = .ok (.iconst 0, 1) := by decide +kernel
theorem dX10_foldAll_238 : decode cX10_foldAll 238 = .ok (.istore_n 2, 1) := by decide +kernel
theorem dX10_foldAll_239 : decode cX10_foldAll 239 = .ok (.iconst 0, 1) := by decide +kernel
theorem dX10_foldAll_240 : decode cX10_foldAll 240 = .ok (.istore_n 3, 1) := by decide +kernel
theorem dX10_foldAll_241 : decode cX10_foldAll 241 = .ok (.iload_n 3, 1) := by decide +kernel
theorem dX10_foldAll_242 : decode cX10_foldAll 242 = .ok (.aload_n 0, 1) := by decide +kernel
theorem dX10_foldAll_243 : decode cX10_foldAll 243 = .ok (.getfield 165, 3) := by decide +kernel
theorem dX10_foldAll_246 : decode cX10_foldAll 246 = .ok (.if_icmp .ge 67, 3) := by decide +kernel
theorem dX10_foldAll_249 : decode cX10_foldAll 249 = .ok (.iconst 0, 1) := by decide +kernel
theorem dX10_foldAll_250 : decode cX10_foldAll 250 = .ok (.istore 4, 2) := by decide +kernel
theorem dX10_foldAll_252 : decode cX10_foldAll 252 = .ok (.iload 4, 2) := by decide +kernel
theorem dX10_foldAll_254 : decode cX10_foldAll 254 = .ok (.aload_n 0, 1) := by decide +kernel
theorem dX10_foldAll_255 : decode cX10_foldAll 255 = .ok (.getfield 165, 3) := by decide +kernel
theorem dX10_foldAll_258 : decode cX10_foldAll 258 = .ok (.if_icmp .ge 49, 3) := by decide +kernel
theorem dX10_foldAll_261 : decode cX10_foldAll 261 = .ok (.aload_n 0, 1) := by decide +kernel
theorem dX10_foldAll_262 : decode cX10_foldAll 262 = .ok (.getfield 118, 3) := by decide +kernel
theorem dX10_foldAll_265 : decode cX10_foldAll 265 = .ok (.bipush 60, 2) := by decide +kernel
theorem dX10_foldAll_267 : decode cX10_foldAll 267 = .ok (.iload_n 3, 1) := by decide +kernel
theorem dX10_foldAll_268 : decode cX10_foldAll 268 = .ok (.imul, 1) := by decide +kernel
theorem dX10_foldAll_269 : decode cX10_foldAll 269 = .ok (.iload 4, 2) := by decide +kernel
theorem dX10_foldAll_271 : decode cX10_foldAll 271 = .ok (.iadd, 1) := by decide +kernel
theorem dX10_foldAll_272 : decode cX10_foldAll 272 = .ok (.baload, 1) := by decide +kernel
theorem dX10_foldAll_273 : decode cX10_foldAll 273 = .ok (.ifCond .eq 28, 3) := by decide +kernel
theorem dX10_foldAll_276 : decode cX10_foldAll 276 = .ok (.aload_n 0, 1) := by decide +kernel
theorem dX10_foldAll_277 : decode cX10_foldAll 277 = .ok (.iload_n 3, 1) := by decide +kernel
theorem dX10_foldAll_278 : decode cX10_foldAll 278 = .ok (.iload 4, 2) := by decide +kernel
theorem dX10_foldAll_280 : decode cX10_foldAll 280 = .ok (.invokevirtual 224, 3) := by decide +kernel
theorem dX10_foldAll_283 : decode cX10_foldAll 283 = .ok (.ifCond .ne 18, 3) := by decide +kernel
theorem dX10_foldAll_286 : decode cX10_foldAll 286 = .ok (.aload_n 0, 1) := by decide +kernel
theorem dX10_foldAll_287 : decode cX10_foldAll 287 = .ok (.getfield 118, 3) := by decide +kernel
theorem dX10_foldAll_290 : decode cX10_foldAll 290 = .ok (.bipush 60, 2) := by decide +kernel
theorem dX10_foldAll_292 : decode cX10_foldAll 292 = .ok (.iload_n 3, 1) := by decide +kernel
theorem dX10_foldAll_293 : decode cX10_foldAll 293 = .ok (.imul, 1) := by decide +kernel
theorem dX10_foldAll_294 : decode cX10_foldAll 294 = .ok (.iload 4, 2) := by decide +kernel
theorem dX10_foldAll_296 : decode cX10_foldAll 296 = .ok (.iadd, 1) := by decide +kernel
theorem dX10_foldAll_297 : decode cX10_foldAll 297 = .ok (.iconst 0, 1) := by decide +kernel
theorem dX10_foldAll_298 : decode cX10_foldAll 298 = .ok (.bastore, 1) := by decide +kernel
theorem dX10_foldAll_299 : decode cX10_foldAll 299 = .ok (.iconst 1, 1) := by decide +kernel
theorem dX10_foldAll_300 : decode cX10_foldAll 300 = .ok (.istore_n 2, 1) := by decide +kernel
theorem dX10_foldAll_301 : decode cX10_foldAll 301 = .ok (.iinc 4 1, 3) := by decide +kernel
theorem dX10_foldAll_304 : decode cX10_foldAll 304 = .ok (.goto (-52), 3) := by decide +kernel
theorem dX10_foldAll_307 : decode cX10_foldAll 307 = .ok (.iinc 3 1, 3) := by decide +kernel
theorem dX10_foldAll_310 : decode cX10_foldAll 310 = .ok (.goto (-69), 3) := by decide +kernel
theorem dX10_foldAll_313 : decode cX10_foldAll 313 = .ok (.goto (-80), 3) := by decide +kernel
theorem dX10_foldAll_316 : decode cX10_foldAll 316 = .ok (.iconst 0, 1) := by decide +kernel
theorem dX10_foldAll_317 : decode cX10_foldAll 317 = .ok (.istore_n 3, 1) := by decide +kernel
theorem dX10_foldAll_318 : decode cX10_foldAll 318 = .ok (.iload_n 3, 1) := by decide +kernel
theorem dX10_foldAll_319 : decode cX10_foldAll 319 = .ok (.aload_n 0, 1) := by decide +kernel
theorem dX10_foldAll_320 : decode cX10_foldAll 320 = .ok (.getfield 165, 3) := by decide +kernel
theorem dX10_foldAll_323 : decode cX10_foldAll 323 = .ok (.if_icmp .ge 61, 3) := by decide +kernel
theorem dX10_foldAll_326 : decode cX10_foldAll 326 = .ok (.iconst 0, 1) := by decide +kernel
theorem dX10_foldAll_327 : decode cX10_foldAll 327 = .ok (.istore 4, 2) := by decide +kernel
theorem dX10_foldAll_329 : decode cX10_foldAll 329 = .ok (.iload 4, 2) := by decide +kernel
theorem dX10_foldAll_331 : decode cX10_foldAll 331 = .ok (.iload_n 3, 1) := by decide +kernel
theorem dX10_foldAll_332 : decode cX10_foldAll 332 = .ok (.if_icmp .ge 46, 3) := by decide +kernel
theorem dX10_foldAll_335 : decode cX10_foldAll 335 = .ok (.aload_n 0, 1) := by decide +kernel
theorem dX10_foldAll_336 : decode cX10_foldAll 336 = .ok (.getfield 112, 3) := by decide +kernel
theorem dX10_foldAll_339 : decode cX10_foldAll 339 = .ok (.iload_n 3, 1) := by decide +kernel
theorem dX10_foldAll_340 : decode cX10_foldAll 340 = .ok (.iaload, 1) := by decide +kernel
theorem dX10_foldAll_341 : decode cX10_foldAll 341 = .ok (.iconst (-1), 1) := by decide +kernel
theorem dX10_foldAll_342 : decode cX10_foldAll 342 = .ok (.if_icmp .ne 36, 3) := by decide +kernel
theorem dX10_foldAll_345 : decode cX10_foldAll 345 = .ok (.aload_n 0, 1) := by decide +kernel
theorem dX10_foldAll_346 : decode cX10_foldAll 346 = .ok (.getfield 112, 3) := by decide +kernel
theorem dX10_foldAll_349 : decode cX10_foldAll 349 = .ok (.iload_n 3, 1) := by decide +kernel
theorem dX10_foldAll_350 : decode cX10_foldAll 350 = .ok (.aload_n 0, 1) := by decide +kernel
theorem dX10_foldAll_351 : decode cX10_foldAll 351 = .ok (.getfield 118, 3) := by decide +kernel
theorem dX10_foldAll_354 : decode cX10_foldAll 354 = .ok (.bipush 60, 2) := by decide +kernel
theorem dX10_foldAll_356 : decode cX10_foldAll 356 = .ok (.iload 4, 2) := by decide +kernel
theorem dX10_foldAll_358 : decode cX10_foldAll 358 = .ok (.imul, 1) := by decide +kernel
theorem dX10_foldAll_359 : decode cX10_foldAll 359 = .ok (.iload_n 3, 1) := by decide +kernel
theorem dX10_foldAll_360 : decode cX10_foldAll 360 = .ok (.iadd, 1) := by decide +kernel
theorem dX10_foldAll_361 : decode cX10_foldAll 361 = .ok (.baload, 1) := by decide +kernel
theorem dX10_foldAll_362 : decode cX10_foldAll 362 = .ok (.ifCond .eq 8, 3) := by decide +kernel
theorem dX10_foldAll_365 : decode cX10_foldAll 365 = .ok (.iload 4, 2) := by decide +kernel
theorem dX10_foldAll_367 : decode cX10_foldAll 367 = .ok (.goto 4, 3) := by decide +kernel
theorem dX10_foldAll_370 : decode cX10_foldAll 370 = .ok (.iconst (-1), 1) := by decide +kernel
theorem dX10_foldAll_371 : decode cX10_foldAll 371 = .ok (.iastore, 1) := by decide +kernel
theorem dX10_foldAll_372 : decode cX10_foldAll 372 = .ok (.iinc 4 1, 3) := by decide +kernel
theorem dX10_foldAll_375 : decode cX10_foldAll 375 = .ok (.goto (-46), 3) := by decide +kernel
theorem dX10_foldAll_378 : decode cX10_foldAll 378 = .ok (.iinc 3 1, 3) := by decide +kernel
theorem dX10_foldAll_381 : decode cX10_foldAll 381 = .ok (.goto (-63), 3) := by decide +kernel
theorem dX10_foldAll_384 : decode cX10_foldAll 384 = .ok (.return_, 1) := by decide +kernel
theorem dX10_isPlaced_0 : decode cX10_isPlaced 0 = .ok (.aload_n 0, 1) := by decide +kernel
theorem dX10_isPlaced_1 : decode cX10_isPlaced 1 = .ok (.getfield 103, 3) := by decide +kernel
theorem dX10_isPlaced_4 : decode cX10_isPlaced 4 = .ok (.iload_n 1, 1) := by decide +kernel
theorem dX10_isPlaced_5 : decode cX10_isPlaced 5 = .ok (.baload, 1) := by decide +kernel
theorem dX10_isPlaced_6 : decode cX10_isPlaced 6 = .ok (.ifCond .eq 17, 3) := by decide +kernel
theorem dX10_isPlaced_9 : decode cX10_isPlaced 9 = .ok (.aload_n 0, 1) := by decide +kernel
theorem dX10_isPlaced_10 : decode cX10_isPlaced 10 = .ok (.getfield 112, 3) := by decide +kernel
theorem dX10_isPlaced_13 : decode cX10_isPlaced 13 = .ok (.iload_n 1, 1) := by decide +kernel
theorem dX10_isPlaced_14 : decode cX10_isPlaced 14 = .ok (.iaload, 1) := by decide +kernel
theorem dX10_isPlaced_15 : decode cX10_isPlaced 15 = .ok (.iconst (-1), 1) := by decide +kernel
theorem dX10_isPlaced_16 : decode cX10_isPlaced 16 = .ok (.if_icmp .ne 7, 3) := by decide +kernel
theorem dX10_isPlaced_19 : decode cX10_isPlaced 19 = .ok (.iconst 1, 1) := by decide +kernel
theorem dX10_isPlaced_20 : decode cX10_isPlaced 20 = .ok (.goto 4, 3) := by decide +kernel
theorem dX10_isPlaced_23 : decode cX10_isPlaced 23 = .ok (.iconst 0, 1) := by decide +kernel
theorem dX10_isPlaced_24 : decode cX10_isPlaced 24 = .ok (.ireturn, 1) := by decide +kernel
theorem dX10_veneersOf_0 : decode cX10_veneersOf 0 = .ok (.iconst 0, 1) := by decide +kernel
theorem dX10_veneersOf_1 : decode cX10_veneersOf 1 = .ok (.istore_n 2, 1) := by decide +kernel
theorem dX10_veneersOf_2 : decode cX10_veneersOf 2 = .ok (.iconst 0, 1) := by decide +kernel
theorem dX10_veneersOf_3 : decode cX10_veneersOf 3 = .ok (.istore_n 3, 1) := by decide +kernel
theorem dX10_veneersOf_4 : decode cX10_veneersOf 4 = .ok (.iload_n 3, 1) := by decide +kernel
theorem dX10_veneersOf_5 : decode cX10_veneersOf 5 = .ok (.aload_n 0, 1) := by decide +kernel
theorem dX10_veneersOf_6 : decode cX10_veneersOf 6 = .ok (.getfield 227, 3) := by decide +kernel
theorem dX10_veneersOf_9 : decode cX10_veneersOf 9 = .ok (.if_icmp .ge 27, 3) := by decide +kernel
theorem dX10_veneersOf_12 : decode cX10_veneersOf 12 = .ok (.iload_n 2, 1) := by decide +kernel
theorem dX10_veneersOf_13 : decode cX10_veneersOf 13 = .ok (.aload_n 0, 1) := by decide +kernel
theorem dX10_veneersOf_14 : decode cX10_veneersOf 14 = .ok (.getfield 130, 3) := by decide +kernel
theorem dX10_veneersOf_17 : decode cX10_veneersOf 17 = .ok (.iload_n 3, 1) := by decide +kernel
theorem dX10_veneersOf_18 : decode cX10_veneersOf 18 = .ok (.iaload, 1) := by decide +kernel
theorem dX10_veneersOf_19 : decode cX10_veneersOf 19 = .ok (.iload_n 1, 1) := by decide +kernel
theorem dX10_veneersOf_20 : decode cX10_veneersOf 20 = .ok (.if_icmp .ne 7, 3) := by decide +kernel
theorem dX10_veneersOf_23 : decode cX10_veneersOf 23 = .ok (.iconst 1, 1) := by decide +kernel
theorem dX10_veneersOf_24 : decode cX10_veneersOf 24 = .ok (.goto 4, 3) := by decide +kernel
theorem dX10_veneersOf_27 : decode cX10_veneersOf 27 = .ok (.iconst 0, 1) := by decide +kernel
theorem dX10_veneersOf_28 : decode cX10_veneersOf 28 = .ok (.iadd, 1) := by decide +kernel
theorem dX10_veneersOf_29 : decode cX10_veneersOf 29 = .ok (.istore_n 2, 1) := by decide +kernel
theorem dX10_veneersOf_30 : decode cX10_veneersOf 30 = .ok (.iinc 3 1, 3) := by decide +kernel
theorem dX10_veneersOf_33 : decode cX10_veneersOf 33 = .ok (.goto (-29), 3) := by decide +kernel
theorem dX10_veneersOf_36 : decode cX10_veneersOf 36 = .ok (.iload_n 2, 1) := by decide +kernel
theorem dX10_veneersOf_37 : decode cX10_veneersOf 37 = .ok (.ireturn, 1) := by decide +kernel
theorem dX10_up_0 : decode cX10_up 0 = .ok (.lload_n 0, 1) := by decide +kernel
theorem dX10_up_1 : decode cX10_up 1 = .ok (.lload_n 2, 1) := by decide +kernel
theorem dX10_up_2 : decode cX10_up 2 = .ok (.ladd, 1) := by decide +kernel
theorem dX10_up_3 : decode cX10_up 3 = .ok (.lconst 1, 1) := by decide +kernel
theorem dX10_up_4 : decode cX10_up 4 = .ok (.lsub, 1) := by decide +kernel
theorem dX10_up_5 : decode cX10_up 5 = .ok (.lload_n 2, 1) := by decide +kernel
theorem dX10_up_6 : decode cX10_up 6 = .ok (.ldiv, 1) := by decide +kernel
theorem dX10_up_7 : decode cX10_up 7 = .ok (.lload_n 2, 1) := by decide +kernel
theorem dX10_up_8 : decode cX10_up 8 = .ok (.lmul, 1) := by decide +kernel
theorem dX10_up_9 : decode cX10_up 9 = .ok (.lreturn, 1) := by decide +kernel
theorem dX10_placeAll_0 : decode cX10_placeAll 0 = .ok (.aload_n 0, 1) := by decide +kernel
theorem dX10_placeAll_1 : decode cX10_placeAll 1 = .ok (.dup, 1) := by decide +kernel
theorem dX10_placeAll_2 : decode cX10_placeAll 2 = .ok (.getfield 230, 3) := by decide +kernel
theorem dX10_placeAll_5 : decode cX10_placeAll 5 = .ok (.iconst 1, 1) := by decide +kernel
theorem dX10_placeAll_6 : decode cX10_placeAll 6 = .ok (.iadd, 1) := by decide +kernel
theorem dX10_placeAll_7 : decode cX10_placeAll 7 = .ok (.putfield 230, 3) := by decide +kernel
theorem dX10_placeAll_10 : decode cX10_placeAll 10 = .ok (.ldc2_w 233, 3) := by decide +kernel
theorem dX10_placeAll_13 : decode cX10_placeAll 13 = .ok (.lstore_n 1, 1) := by decide +kernel
theorem dX10_placeAll_14 : decode cX10_placeAll 14 = .ok (.iconst 0, 1) := by decide +kernel
theorem dX10_placeAll_15 : decode cX10_placeAll 15 = .ok (.istore_n 3, 1) := by decide +kernel
theorem dX10_placeAll_16 : decode cX10_placeAll 16 = .ok (.iload_n 3, 1) := by decide +kernel
theorem dX10_placeAll_17 : decode cX10_placeAll 17 = .ok (.iconst 4, 1) := by decide +kernel
theorem dX10_placeAll_18 : decode cX10_placeAll 18 = .ok (.if_icmp .ge 153, 3) := by decide +kernel
theorem dX10_placeAll_21 : decode cX10_placeAll 21 = .ok (.aload_n 0, 1) := by decide +kernel
theorem dX10_placeAll_22 : decode cX10_placeAll 22 = .ok (.getfield 78, 3) := by decide +kernel
theorem dX10_placeAll_25 : decode cX10_placeAll 25 = .ok (.iload_n 3, 1) := by decide +kernel
theorem dX10_placeAll_26 : decode cX10_placeAll 26 = .ok (.laload, 1) := by decide +kernel
theorem dX10_placeAll_27 : decode cX10_placeAll 27 = .ok (.lconst 0, 1) := by decide +kernel
theorem dX10_placeAll_28 : decode cX10_placeAll 28 = .ok (.lcmp, 1) := by decide +kernel
theorem dX10_placeAll_29 : decode cX10_placeAll 29 = .ok (.ifCond .lt 12, 3) := by decide +kernel
theorem dX10_placeAll_32 : decode cX10_placeAll 32 = .ok (.aload_n 0, 1) := by decide +kernel
theorem dX10_placeAll_33 : decode cX10_placeAll 33 = .ok (.getfield 78, 3) := by decide +kernel
theorem dX10_placeAll_36 : decode cX10_placeAll 36 = .ok (.iload_n 3, 1) := by decide +kernel
theorem dX10_placeAll_37 : decode cX10_placeAll 37 = .ok (.laload, 1) := by decide +kernel
theorem dX10_placeAll_38 : decode cX10_placeAll 38 = .ok (.goto 4, 3) := by decide +kernel
theorem dX10_placeAll_41 : decode cX10_placeAll 41 = .ok (.lload_n 1, 1) := by decide +kernel
theorem dX10_placeAll_42 : decode cX10_placeAll 42 = .ok (.lstore_n 1, 1) := by decide +kernel
theorem dX10_placeAll_43 : decode cX10_placeAll 43 = .ok (.aload_n 0, 1) := by decide +kernel
theorem dX10_placeAll_44 : decode cX10_placeAll 44 = .ok (.getfield 124, 3) := by decide +kernel
theorem dX10_placeAll_47 : decode cX10_placeAll 47 = .ok (.iload_n 3, 1) := by decide +kernel
theorem dX10_placeAll_48 : decode cX10_placeAll 48 = .ok (.lload_n 1, 1) := by decide +kernel
theorem dX10_placeAll_49 : decode cX10_placeAll 49 = .ok (.lastore, 1) := by decide +kernel
theorem dX10_placeAll_50 : decode cX10_placeAll 50 = .ok (.iconst 0, 1) := by decide +kernel
theorem dX10_placeAll_51 : decode cX10_placeAll 51 = .ok (.istore 4, 2) := by decide +kernel
theorem dX10_placeAll_53 : decode cX10_placeAll 53 = .ok (.iload 4, 2) := by decide +kernel
theorem dX10_placeAll_55 : decode cX10_placeAll 55 = .ok (.aload_n 0, 1) := by decide +kernel
theorem dX10_placeAll_56 : decode cX10_placeAll 56 = .ok (.getfield 165, 3) := by decide +kernel
theorem dX10_placeAll_59 : decode cX10_placeAll 59 = .ok (.if_icmp .ge 99, 3) := by decide +kernel
theorem dX10_placeAll_62 : decode cX10_placeAll 62 = .ok (.aload_n 0, 1) := by decide +kernel
theorem dX10_placeAll_63 : decode cX10_placeAll 63 = .ok (.getfield 17, 3) := by decide +kernel
theorem dX10_placeAll_66 : decode cX10_placeAll 66 = .ok (.iload 4, 2) := by decide +kernel
theorem dX10_placeAll_68 : decode cX10_placeAll 68 = .ok (.iaload, 1) := by decide +kernel
theorem dX10_placeAll_69 : decode cX10_placeAll 69 = .ok (.iload_n 3, 1) := by decide +kernel
theorem dX10_placeAll_70 : decode cX10_placeAll 70 = .ok (.if_icmp .ne 82, 3) := by decide +kernel
theorem dX10_placeAll_73 : decode cX10_placeAll 73 = .ok (.aload_n 0, 1) := by decide +kernel
theorem dX10_placeAll_74 : decode cX10_placeAll 74 = .ok (.iload 4, 2) := by decide +kernel
theorem dX10_placeAll_76 : decode cX10_placeAll 76 = .ok (.invokevirtual 235, 3) := by decide +kernel
theorem dX10_placeAll_79 : decode cX10_placeAll 79 = .ok (.ifCond .eq 73, 3) := by decide +kernel
theorem dX10_placeAll_82 : decode cX10_placeAll 82 = .ok (.aload_n 0, 1) := by decide +kernel
theorem dX10_placeAll_83 : decode cX10_placeAll 83 = .ok (.getfield 121, 3) := by decide +kernel
theorem dX10_placeAll_86 : decode cX10_placeAll 86 = .ok (.iload 4, 2) := by decide +kernel
theorem dX10_placeAll_88 : decode cX10_placeAll 88 = .ok (.lload_n 1, 1) := by decide +kernel
theorem dX10_placeAll_89 : decode cX10_placeAll 89 = .ok (.lconst 1, 1) := by decide +kernel
theorem dX10_placeAll_90 : decode cX10_placeAll 90 = .ok (.aload_n 0, 1) := by decide +kernel
theorem dX10_placeAll_91 : decode cX10_placeAll 91 = .ok (.getfield 23, 3) := by decide +kernel
theorem dX10_placeAll_94 : decode cX10_placeAll 94 = .ok (.iload 4, 2) := by decide +kernel
theorem dX10_placeAll_96 : decode cX10_placeAll 96 = .ok (.iaload, 1) := by decide +kernel
theorem dX10_placeAll_97 : decode cX10_placeAll 97 = .ok (.lshl, 1) := by decide +kernel
theorem dX10_placeAll_98 : decode cX10_placeAll 98 = .ok (.invokestatic 238, 3) := by decide +kernel
theorem dX10_placeAll_101 : decode cX10_placeAll 101 = .ok (.lastore, 1) := by decide +kernel
theorem dX10_placeAll_102 : decode cX10_placeAll 102 = .ok (.aload_n 0, 1) := by decide +kernel
theorem dX10_placeAll_103 : decode cX10_placeAll 103 = .ok (.getfield 121, 3) := by decide +kernel
theorem dX10_placeAll_106 : decode cX10_placeAll 106 = .ok (.iload 4, 2) := by decide +kernel
theorem dX10_placeAll_108 : decode cX10_placeAll 108 = .ok (.laload, 1) := by decide +kernel
theorem dX10_placeAll_109 : decode cX10_placeAll 109 = .ok (.aload_n 0, 1) := by decide +kernel
theorem dX10_placeAll_110 : decode cX10_placeAll 110 = .ok (.getfield 20, 3) := by decide +kernel
theorem dX10_placeAll_113 : decode cX10_placeAll 113 = .ok (.iload 4, 2) := by decide +kernel
theorem dX10_placeAll_115 : decode cX10_placeAll 115 = .ok (.iaload, 1) := by decide +kernel
theorem dX10_placeAll_116 : decode cX10_placeAll 116 = .ok (.i2l, 1) := by decide +kernel
theorem dX10_placeAll_117 : decode cX10_placeAll 117 = .ok (.ladd, 1) := by decide +kernel
theorem dX10_placeAll_118 : decode cX10_placeAll 118 = .ok (.lstore_n 1, 1) := by decide +kernel
theorem dX10_placeAll_119 : decode cX10_placeAll 119 = .ok (.aload_n 0, 1) := by decide +kernel
theorem dX10_placeAll_120 : decode cX10_placeAll 120 = .ok (.iload 4, 2) := by decide +kernel
theorem dX10_placeAll_122 : decode cX10_placeAll 122 = .ok (.invokevirtual 242, 3) := by decide +kernel
theorem dX10_placeAll_125 : decode cX10_placeAll 125 = .ok (.istore 5, 2) := by decide +kernel
theorem dX10_placeAll_127 : decode cX10_placeAll 127 = .ok (.iload 5, 2) := by decide +kernel
theorem dX10_placeAll_129 : decode cX10_placeAll 129 = .ok (.ifCond .le 21, 3) := by decide +kernel
theorem dX10_placeAll_132 : decode cX10_placeAll 132 = .ok (.lload_n 1, 1) := by decide +kernel
theorem dX10_placeAll_133 : decode cX10_placeAll 133 = .ok (.ldc2_w 189, 3) := by decide +kernel
theorem dX10_placeAll_136 : decode cX10_placeAll 136 = .ok (.invokestatic 238, 3) := by decide +kernel
theorem dX10_placeAll_139 : decode cX10_placeAll 139 = .ok (.ldc2_w 163, 3) := by decide +kernel
theorem dX10_placeAll_142 : decode cX10_placeAll 142 = .ok (.iload 5, 2) := by decide +kernel
theorem dX10_placeAll_144 : decode cX10_placeAll 144 = .ok (.i2l, 1) := by decide +kernel
theorem dX10_placeAll_145 : decode cX10_placeAll 145 = .ok (.lmul, 1) := by decide +kernel
theorem dX10_placeAll_146 : decode cX10_placeAll 146 = .ok (.ladd, 1) := by decide +kernel
theorem dX10_placeAll_147 : decode cX10_placeAll 147 = .ok (.goto 4, 3) := by decide +kernel
theorem dX10_placeAll_150 : decode cX10_placeAll 150 = .ok (.lload_n 1, 1) := by decide +kernel
theorem dX10_placeAll_151 : decode cX10_placeAll 151 = .ok (.lstore_n 1, 1) := by decide +kernel
theorem dX10_placeAll_152 : decode cX10_placeAll 152 = .ok (.iinc 4 1, 3) := by decide +kernel
theorem dX10_placeAll_155 : decode cX10_placeAll 155 = .ok (.goto (-102), 3) := by decide +kernel
theorem dX10_placeAll_158 : decode cX10_placeAll 158 = .ok (.aload_n 0, 1) := by decide +kernel
theorem dX10_placeAll_159 : decode cX10_placeAll 159 = .ok (.getfield 127, 3) := by decide +kernel
theorem dX10_placeAll_162 : decode cX10_placeAll 162 = .ok (.iload_n 3, 1) := by decide +kernel
theorem dX10_placeAll_163 : decode cX10_placeAll 163 = .ok (.lload_n 1, 1) := by decide +kernel
theorem dX10_placeAll_164 : decode cX10_placeAll 164 = .ok (.lastore, 1) := by decide +kernel
theorem dX10_placeAll_165 : decode cX10_placeAll 165 = .ok (.iinc 3 1, 3) := by decide +kernel
theorem dX10_placeAll_168 : decode cX10_placeAll 168 = .ok (.goto (-152), 3) := by decide +kernel
theorem dX10_placeAll_171 : decode cX10_placeAll 171 = .ok (.return_, 1) := by decide +kernel
theorem dX10_veneerPlace_0 : decode cX10_veneerPlace 0 = .ok (.aload_n 0, 1) := by decide +kernel
theorem dX10_veneerPlace_1 : decode cX10_veneerPlace 1 = .ok (.getfield 130, 3) := by decide +kernel
theorem dX10_veneerPlace_4 : decode cX10_veneerPlace 4 = .ok (.iload_n 1, 1) := by decide +kernel
theorem dX10_veneerPlace_5 : decode cX10_veneerPlace 5 = .ok (.iaload, 1) := by decide +kernel
theorem dX10_veneerPlace_6 : decode cX10_veneerPlace 6 = .ok (.istore_n 2, 1) := by decide +kernel
theorem dX10_veneerPlace_7 : decode cX10_veneerPlace 7 = .ok (.iconst 0, 1) := by decide +kernel
theorem dX10_veneerPlace_8 : decode cX10_veneerPlace 8 = .ok (.istore_n 3, 1) := by decide +kernel
theorem dX10_veneerPlace_9 : decode cX10_veneerPlace 9 = .ok (.iconst 0, 1) := by decide +kernel
theorem dX10_veneerPlace_10 : decode cX10_veneerPlace 10 = .ok (.istore 4, 2) := by decide +kernel
theorem dX10_veneerPlace_12 : decode cX10_veneerPlace 12 = .ok (.iload 4, 2) := by decide +kernel
theorem dX10_veneerPlace_14 : decode cX10_veneerPlace 14 = .ok (.iload_n 1, 1) := by decide +kernel
theorem dX10_veneerPlace_15 : decode cX10_veneerPlace 15 = .ok (.if_icmp .ge 28, 3) := by decide +kernel
theorem dX10_veneerPlace_18 : decode cX10_veneerPlace 18 = .ok (.iload_n 3, 1) := by decide +kernel
theorem dX10_veneerPlace_19 : decode cX10_veneerPlace 19 = .ok (.aload_n 0, 1) := by decide +kernel
theorem dX10_veneerPlace_20 : decode cX10_veneerPlace 20 = .ok (.getfield 130, 3) := by decide +kernel
theorem dX10_veneerPlace_23 : decode cX10_veneerPlace 23 = .ok (.iload 4, 2) := by decide +kernel
theorem dX10_veneerPlace_25 : decode cX10_veneerPlace 25 = .ok (.iaload, 1) := by decide +kernel
theorem dX10_veneerPlace_26 : decode cX10_veneerPlace 26 = .ok (.iload_n 2, 1) := by decide +kernel
theorem dX10_veneerPlace_27 : decode cX10_veneerPlace 27 = .ok (.if_icmp .ne 7, 3) := by decide +kernel
theorem dX10_veneerPlace_30 : decode cX10_veneerPlace 30 = .ok (.iconst 1, 1) := by decide +kernel
theorem dX10_veneerPlace_31 : decode cX10_veneerPlace 31 = .ok (.goto 4, 3) := by decide +kernel
theorem dX10_veneerPlace_34 : decode cX10_veneerPlace 34 = .ok (.iconst 0, 1) := by decide +kernel
theorem dX10_veneerPlace_35 : decode cX10_veneerPlace 35 = .ok (.iadd, 1) := by decide +kernel
theorem dX10_veneerPlace_36 : decode cX10_veneerPlace 36 = .ok (.istore_n 3, 1) := by decide +kernel
theorem dX10_veneerPlace_37 : decode cX10_veneerPlace 37 = .ok (.iinc 4 1, 3) := by decide +kernel
theorem dX10_veneerPlace_40 : decode cX10_veneerPlace 40 = .ok (.goto (-28), 3) := by decide +kernel
theorem dX10_veneerPlace_43 : decode cX10_veneerPlace 43 = .ok (.aload_n 0, 1) := by decide +kernel
theorem dX10_veneerPlace_44 : decode cX10_veneerPlace 44 = .ok (.getfield 121, 3) := by decide +kernel
theorem dX10_veneerPlace_47 : decode cX10_veneerPlace 47 = .ok (.iload_n 2, 1) := by decide +kernel
theorem dX10_veneerPlace_48 : decode cX10_veneerPlace 48 = .ok (.laload, 1) := by decide +kernel
theorem dX10_veneerPlace_49 : decode cX10_veneerPlace 49 = .ok (.aload_n 0, 1) := by decide +kernel
theorem dX10_veneerPlace_50 : decode cX10_veneerPlace 50 = .ok (.getfield 20, 3) := by decide +kernel
theorem dX10_veneerPlace_53 : decode cX10_veneerPlace 53 = .ok (.iload_n 2, 1) := by decide +kernel
theorem dX10_veneerPlace_54 : decode cX10_veneerPlace 54 = .ok (.iaload, 1) := by decide +kernel
theorem dX10_veneerPlace_55 : decode cX10_veneerPlace 55 = .ok (.i2l, 1) := by decide +kernel
theorem dX10_veneerPlace_56 : decode cX10_veneerPlace 56 = .ok (.ladd, 1) := by decide +kernel
theorem dX10_veneerPlace_57 : decode cX10_veneerPlace 57 = .ok (.ldc2_w 189, 3) := by decide +kernel
theorem dX10_veneerPlace_60 : decode cX10_veneerPlace 60 = .ok (.invokestatic 238, 3) := by decide +kernel
theorem dX10_veneerPlace_63 : decode cX10_veneerPlace 63 = .ok (.ldc2_w 163, 3) := by decide +kernel
theorem dX10_veneerPlace_66 : decode cX10_veneerPlace 66 = .ok (.iload_n 3, 1) := by decide +kernel
theorem dX10_veneerPlace_67 : decode cX10_veneerPlace 67 = .ok (.i2l, 1) := by decide +kernel
theorem dX10_veneerPlace_68 : decode cX10_veneerPlace 68 = .ok (.lmul, 1) := by decide +kernel
theorem dX10_veneerPlace_69 : decode cX10_veneerPlace 69 = .ok (.ladd, 1) := by decide +kernel
theorem dX10_veneerPlace_70 : decode cX10_veneerPlace 70 = .ok (.lreturn, 1) := by decide +kernel
theorem dX10_placeOf_0 : decode cX10_placeOf 0 = .ok (.aload_n 0, 1) := by decide +kernel
theorem dX10_placeOf_1 : decode cX10_placeOf 1 = .ok (.getfield 121, 3) := by decide +kernel
theorem dX10_placeOf_4 : decode cX10_placeOf 4 = .ok (.aload_n 0, 1) := by decide +kernel
theorem dX10_placeOf_5 : decode cX10_placeOf 5 = .ok (.getfield 112, 3) := by decide +kernel
theorem dX10_placeOf_8 : decode cX10_placeOf 8 = .ok (.iload_n 1, 1) := by decide +kernel
theorem dX10_placeOf_9 : decode cX10_placeOf 9 = .ok (.iaload, 1) := by decide +kernel
theorem dX10_placeOf_10 : decode cX10_placeOf 10 = .ok (.iconst (-1), 1) := by decide +kernel
theorem dX10_placeOf_11 : decode cX10_placeOf 11 = .ok (.if_icmp .ne 7, 3) := by decide +kernel
theorem dX10_placeOf_14 : decode cX10_placeOf 14 = .ok (.iload_n 1, 1) := by decide +kernel
theorem dX10_placeOf_15 : decode cX10_placeOf 15 = .ok (.goto 9, 3) := by decide +kernel
theorem dX10_placeOf_18 : decode cX10_placeOf 18 = .ok (.aload_n 0, 1) := by decide +kernel
theorem dX10_placeOf_19 : decode cX10_placeOf 19 = .ok (.getfield 112, 3) := by decide +kernel
theorem dX10_placeOf_22 : decode cX10_placeOf 22 = .ok (.iload_n 1, 1) := by decide +kernel
theorem dX10_placeOf_23 : decode cX10_placeOf 23 = .ok (.iaload, 1) := by decide +kernel
theorem dX10_placeOf_24 : decode cX10_placeOf 24 = .ok (.laload, 1) := by decide +kernel
theorem dX10_placeOf_25 : decode cX10_placeOf 25 = .ok (.lreturn, 1) := by decide +kernel
theorem dX10_valueOf_0 : decode cX10_valueOf 0 = .ok (.aload_n 0, 1) := by decide +kernel
theorem dX10_valueOf_1 : decode cX10_valueOf 1 = .ok (.getfield 94, 3) := by decide +kernel
theorem dX10_valueOf_4 : decode cX10_valueOf 4 = .ok (.iload_n 1, 1) := by decide +kernel
theorem dX10_valueOf_5 : decode cX10_valueOf 5 = .ok (.iaload, 1) := by decide +kernel
theorem dX10_valueOf_6 : decode cX10_valueOf 6 = .ok (.istore_n 2, 1) := by decide +kernel
theorem dX10_valueOf_7 : decode cX10_valueOf 7 = .ok (.aload_n 0, 1) := by decide +kernel
theorem dX10_valueOf_8 : decode cX10_valueOf 8 = .ok (.getfield 91, 3) := by decide +kernel
theorem dX10_valueOf_11 : decode cX10_valueOf 11 = .ok (.iload_n 1, 1) := by decide +kernel
theorem dX10_valueOf_12 : decode cX10_valueOf 12 = .ok (.iaload, 1) := by decide +kernel
theorem dX10_valueOf_13 : decode cX10_valueOf 13 = .ok (.ifCond .ne 5, 3) := by decide +kernel
theorem dX10_valueOf_16 : decode cX10_valueOf 16 = .ok (.lconst 0, 1) := by decide +kernel
theorem dX10_valueOf_17 : decode cX10_valueOf 17 = .ok (.lreturn, 1) := by decide +kernel
theorem dX10_valueOf_18 : decode cX10_valueOf 18 = .ok (.aload_n 0, 1) := by decide +kernel
theorem dX10_valueOf_19 : decode cX10_valueOf 19 = .ok (.getfield 91, 3) := by decide +kernel
theorem dX10_valueOf_22 : decode cX10_valueOf 22 = .ok (.iload_n 1, 1) := by decide +kernel
theorem dX10_valueOf_23 : decode cX10_valueOf 23 = .ok (.iaload, 1) := by decide +kernel
theorem dX10_valueOf_24 : decode cX10_valueOf 24 = .ok (.iconst 1, 1) := by decide +kernel
theorem dX10_valueOf_25 : decode cX10_valueOf 25 = .ok (.if_icmp .ne 17, 3) := by decide +kernel
theorem dX10_valueOf_28 : decode cX10_valueOf 28 = .ok (.aload_n 0, 1) := by decide +kernel
theorem dX10_valueOf_29 : decode cX10_valueOf 29 = .ok (.iload_n 2, 1) := by decide +kernel
theorem dX10_valueOf_30 : decode cX10_valueOf 30 = .ok (.invokevirtual 245, 3) := by decide +kernel
theorem dX10_valueOf_33 : decode cX10_valueOf 33 = .ok (.aload_n 0, 1) := by decide +kernel
theorem dX10_valueOf_34 : decode cX10_valueOf 34 = .ok (.getfield 97, 3) := by decide +kernel
theorem dX10_valueOf_37 : decode cX10_valueOf 37 = .ok (.iload_n 1, 1) := by decide +kernel
theorem dX10_valueOf_38 : decode cX10_valueOf 38 = .ok (.iaload, 1) := by decide +kernel
theorem dX10_valueOf_39 : decode cX10_valueOf 39 = .ok (.i2l, 1) := by decide +kernel
theorem dX10_valueOf_40 : decode cX10_valueOf 40 = .ok (.ladd, 1) := by decide +kernel
theorem dX10_valueOf_41 : decode cX10_valueOf 41 = .ok (.lreturn, 1) := by decide +kernel
theorem dX10_valueOf_42 : decode cX10_valueOf 42 = .ok (.ldc2_w 76, 3) := by decide +kernel
theorem dX10_valueOf_45 : decode cX10_valueOf 45 = .ok (.lstore_n 3, 1) := by decide +kernel
theorem dX10_valueOf_46 : decode cX10_valueOf 46 = .ok (.lconst 0, 1) := by decide +kernel
theorem dX10_valueOf_47 : decode cX10_valueOf 47 = .ok (.lstore 5, 2) := by decide +kernel
theorem dX10_valueOf_49 : decode cX10_valueOf 49 = .ok (.iconst 0, 1) := by decide +kernel
theorem dX10_valueOf_50 : decode cX10_valueOf 50 = .ok (.istore 7, 2) := by decide +kernel
theorem dX10_valueOf_52 : decode cX10_valueOf 52 = .ok (.iload 7, 2) := by decide +kernel
theorem dX10_valueOf_54 : decode cX10_valueOf 54 = .ok (.aload_n 0, 1) := by decide +kernel
theorem dX10_valueOf_55 : decode cX10_valueOf 55 = .ok (.getfield 165, 3) := by decide +kernel
theorem dX10_valueOf_58 : decode cX10_valueOf 58 = .ok (.if_icmp .ge 93, 3) := by decide +kernel
theorem dX10_valueOf_61 : decode cX10_valueOf 61 = .ok (.aload_n 0, 1) := by decide +kernel
theorem dX10_valueOf_62 : decode cX10_valueOf 62 = .ok (.getfield 103, 3) := by decide +kernel
theorem dX10_valueOf_65 : decode cX10_valueOf 65 = .ok (.iload 7, 2) := by decide +kernel
theorem dX10_valueOf_67 : decode cX10_valueOf 67 = .ok (.baload, 1) := by decide +kernel
theorem dX10_valueOf_68 : decode cX10_valueOf 68 = .ok (.ifCond .eq 77, 3) := by decide +kernel
theorem dX10_valueOf_71 : decode cX10_valueOf 71 = .ok (.aload_n 0, 1) := by decide +kernel
theorem dX10_valueOf_72 : decode cX10_valueOf 72 = .ok (.getfield 33, 3) := by decide +kernel
theorem dX10_valueOf_75 : decode cX10_valueOf 75 = .ok (.iload 7, 2) := by decide +kernel
theorem dX10_valueOf_77 : decode cX10_valueOf 77 = .ok (.iaload, 1) := by decide +kernel
theorem dX10_valueOf_78 : decode cX10_valueOf 78 = .ok (.iload_n 2, 1) := by decide +kernel
theorem dX10_valueOf_79 : decode cX10_valueOf 79 = .ok (.if_icmp .ne 66, 3) := by decide +kernel
theorem dX10_valueOf_82 : decode cX10_valueOf 82 = .ok (.aload_n 0, 1) := by decide +kernel
theorem dX10_valueOf_83 : decode cX10_valueOf 83 = .ok (.iload 7, 2) := by decide +kernel
theorem dX10_valueOf_85 : decode cX10_valueOf 85 = .ok (.invokevirtual 245, 3) := by decide +kernel
theorem dX10_valueOf_88 : decode cX10_valueOf 88 = .ok (.lstore 8, 2) := by decide +kernel
theorem dX10_valueOf_90 : decode cX10_valueOf 90 = .ok (.lload_n 3, 1) := by decide +kernel
theorem dX10_valueOf_91 : decode cX10_valueOf 91 = .ok (.lconst 0, 1) := by decide +kernel
theorem dX10_valueOf_92 : decode cX10_valueOf 92 = .ok (.lcmp, 1) := by decide +kernel
theorem dX10_valueOf_93 : decode cX10_valueOf 93 = .ok (.ifCond .lt 10, 3) := by decide +kernel
theorem dX10_valueOf_96 : decode cX10_valueOf 96 = .ok (.lload 8, 2) := by decide +kernel
theorem dX10_valueOf_98 : decode cX10_valueOf 98 = .ok (.lload_n 3, 1) := by decide +kernel
theorem dX10_valueOf_99 : decode cX10_valueOf 99 = .ok (.lcmp, 1) := by decide +kernel
theorem dX10_valueOf_100 : decode cX10_valueOf 100 = .ok (.ifCond .ge 8, 3) := by decide +kernel
theorem dX10_valueOf_103 : decode cX10_valueOf 103 = .ok (.lload 8, 2) := by decide +kernel
theorem dX10_valueOf_105 : decode cX10_valueOf 105 = .ok (.goto 4, 3) := by decide +kernel
theorem dX10_valueOf_108 : decode cX10_valueOf 108 = .ok (.lload_n 3, 1) := by decide +kernel
theorem dX10_valueOf_109 : decode cX10_valueOf 109 = .ok (.lstore_n 3, 1) := by decide +kernel
theorem dX10_valueOf_110 : decode cX10_valueOf 110 = .ok (.lload 8, 2) := by decide +kernel
theorem dX10_valueOf_112 : decode cX10_valueOf 112 = .ok (.aload_n 0, 1) := by decide +kernel
theorem dX10_valueOf_113 : decode cX10_valueOf 113 = .ok (.getfield 20, 3) := by decide +kernel
theorem dX10_valueOf_116 : decode cX10_valueOf 116 = .ok (.iload 7, 2) := by decide +kernel
theorem dX10_valueOf_118 : decode cX10_valueOf 118 = .ok (.iaload, 1) := by decide +kernel
theorem dX10_valueOf_119 : decode cX10_valueOf 119 = .ok (.i2l, 1) := by decide +kernel
theorem dX10_valueOf_120 : decode cX10_valueOf 120 = .ok (.ladd, 1) := by decide +kernel
theorem dX10_valueOf_121 : decode cX10_valueOf 121 = .ok (.lload 5, 2) := by decide +kernel
theorem dX10_valueOf_123 : decode cX10_valueOf 123 = .ok (.lcmp, 1) := by decide +kernel
theorem dX10_valueOf_124 : decode cX10_valueOf 124 = .ok (.ifCond .le 17, 3) := by decide +kernel
theorem dX10_valueOf_127 : decode cX10_valueOf 127 = .ok (.lload 8, 2) := by decide +kernel
theorem dX10_valueOf_129 : decode cX10_valueOf 129 = .ok (.aload_n 0, 1) := by decide +kernel
theorem dX10_valueOf_130 : decode cX10_valueOf 130 = .ok (.getfield 20, 3) := by decide +kernel
theorem dX10_valueOf_133 : decode cX10_valueOf 133 = .ok (.iload 7, 2) := by decide +kernel
theorem dX10_valueOf_135 : decode cX10_valueOf 135 = .ok (.iaload, 1) := by decide +kernel
theorem dX10_valueOf_136 : decode cX10_valueOf 136 = .ok (.i2l, 1) := by decide +kernel
theorem dX10_valueOf_137 : decode cX10_valueOf 137 = .ok (.ladd, 1) := by decide +kernel
theorem dX10_valueOf_138 : decode cX10_valueOf 138 = .ok (.goto 5, 3) := by decide +kernel
theorem dX10_valueOf_141 : decode cX10_valueOf 141 = .ok (.lload 5, 2) := by decide +kernel
theorem dX10_valueOf_143 : decode cX10_valueOf 143 = .ok (.lstore 5, 2) := by decide +kernel
theorem dX10_valueOf_145 : decode cX10_valueOf 145 = .ok (.iinc 7 1, 3) := by decide +kernel
theorem dX10_valueOf_148 : decode cX10_valueOf 148 = .ok (.goto (-96), 3) := by decide +kernel
theorem dX10_valueOf_151 : decode cX10_valueOf 151 = .ok (.aload_n 0, 1) := by decide +kernel
theorem dX10_valueOf_152 : decode cX10_valueOf 152 = .ok (.getfield 91, 3) := by decide +kernel
theorem dX10_valueOf_155 : decode cX10_valueOf 155 = .ok (.iload_n 1, 1) := by decide +kernel
theorem dX10_valueOf_156 : decode cX10_valueOf 156 = .ok (.iaload, 1) := by decide +kernel
theorem dX10_valueOf_157 : decode cX10_valueOf 157 = .ok (.iconst 3, 1) := by decide +kernel
theorem dX10_valueOf_158 : decode cX10_valueOf 158 = .ok (.if_icmp .ne 8, 3) := by decide +kernel
theorem dX10_valueOf_161 : decode cX10_valueOf 161 = .ok (.lload 5, 2) := by decide +kernel
theorem dX10_valueOf_163 : decode cX10_valueOf 163 = .ok (.goto 14, 3) := by decide +kernel
theorem dX10_valueOf_166 : decode cX10_valueOf 166 = .ok (.lload_n 3, 1) := by decide +kernel
theorem dX10_valueOf_167 : decode cX10_valueOf 167 = .ok (.lconst 0, 1) := by decide +kernel
theorem dX10_valueOf_168 : decode cX10_valueOf 168 = .ok (.lcmp, 1) := by decide +kernel
theorem dX10_valueOf_169 : decode cX10_valueOf 169 = .ok (.ifCond .ge 7, 3) := by decide +kernel
theorem dX10_valueOf_172 : decode cX10_valueOf 172 = .ok (.lconst 0, 1) := by decide +kernel
theorem dX10_valueOf_173 : decode cX10_valueOf 173 = .ok (.goto 4, 3) := by decide +kernel
theorem dX10_valueOf_176 : decode cX10_valueOf 176 = .ok (.lload_n 3, 1) := by decide +kernel
theorem dX10_valueOf_177 : decode cX10_valueOf 177 = .ok (.lreturn, 1) := by decide +kernel
theorem dX10_v_0 : decode cX10_v 0 = .ok (.aload_n 0, 1) := by decide +kernel
theorem dX10_v_1 : decode cX10_v 1 = .ok (.aload_n 0, 1) := by decide +kernel
theorem dX10_v_2 : decode cX10_v 2 = .ok (.getfield 67, 3) := by decide +kernel
theorem dX10_v_5 : decode cX10_v 5 = .ok (.iload_n 1, 1) := by decide +kernel
theorem dX10_v_6 : decode cX10_v 6 = .ok (.iaload, 1) := by decide +kernel
theorem dX10_v_7 : decode cX10_v 7 = .ok (.invokevirtual 249, 3) := by decide +kernel
theorem dX10_v_10 : decode cX10_v 10 = .ok (.aload_n 0, 1) := by decide +kernel
theorem dX10_v_11 : decode cX10_v 11 = .ok (.getfield 70, 3) := by decide +kernel
theorem dX10_v_14 : decode cX10_v 14 = .ok (.iload_n 1, 1) := by decide +kernel
theorem dX10_v_15 : decode cX10_v 15 = .ok (.iaload, 1) := by decide +kernel
theorem dX10_v_16 : decode cX10_v 16 = .ok (.i2l, 1) := by decide +kernel
theorem dX10_v_17 : decode cX10_v 17 = .ok (.ladd, 1) := by decide +kernel
theorem dX10_v_18 : decode cX10_v 18 = .ok (.lreturn, 1) := by decide +kernel
theorem dX10_isBranchNear_0 : decode cX10_isBranchNear 0 = .ok (.lload_n 1, 1) := by decide +kernel
theorem dX10_isBranchNear_1 : decode cX10_isBranchNear 1 = .ok (.ldc2_w 252, 3) := by decide +kernel
theorem dX10_isBranchNear_4 : decode cX10_isBranchNear 4 = .ok (.ldc2_w 254, 3) := by decide +kernel
theorem dX10_isBranchNear_7 : decode cX10_isBranchNear 7 = .ok (.invokestatic 155, 3) := by decide +kernel
theorem dX10_isBranchNear_10 : decode cX10_isBranchNear 10 = .ok (.ireturn, 1) := by decide +kernel
theorem dX10_sameAim_0 : decode cX10_sameAim 0 = .ok (.aload_n 0, 1) := by decide +kernel
theorem dX10_sameAim_1 : decode cX10_sameAim 1 = .ok (.getfield 91, 3) := by decide +kernel
theorem dX10_sameAim_4 : decode cX10_sameAim 4 = .ok (.iload_n 1, 1) := by decide +kernel
theorem dX10_sameAim_5 : decode cX10_sameAim 5 = .ok (.iaload, 1) := by decide +kernel
theorem dX10_sameAim_6 : decode cX10_sameAim 6 = .ok (.aload_n 0, 1) := by decide +kernel
theorem dX10_sameAim_7 : decode cX10_sameAim 7 = .ok (.getfield 91, 3) := by decide +kernel
theorem dX10_sameAim_10 : decode cX10_sameAim 10 = .ok (.iload_n 2, 1) := by decide +kernel
theorem dX10_sameAim_11 : decode cX10_sameAim 11 = .ok (.iaload, 1) := by decide +kernel
theorem dX10_sameAim_12 : decode cX10_sameAim 12 = .ok (.if_icmp .ne 37, 3) := by decide +kernel
theorem dX10_sameAim_15 : decode cX10_sameAim 15 = .ok (.aload_n 0, 1) := by decide +kernel
theorem dX10_sameAim_16 : decode cX10_sameAim 16 = .ok (.getfield 94, 3) := by decide +kernel
theorem dX10_sameAim_19 : decode cX10_sameAim 19 = .ok (.iload_n 1, 1) := by decide +kernel
theorem dX10_sameAim_20 : decode cX10_sameAim 20 = .ok (.iaload, 1) := by decide +kernel
theorem dX10_sameAim_21 : decode cX10_sameAim 21 = .ok (.aload_n 0, 1) := by decide +kernel
theorem dX10_sameAim_22 : decode cX10_sameAim 22 = .ok (.getfield 94, 3) := by decide +kernel
theorem dX10_sameAim_25 : decode cX10_sameAim 25 = .ok (.iload_n 2, 1) := by decide +kernel
theorem dX10_sameAim_26 : decode cX10_sameAim 26 = .ok (.iaload, 1) := by decide +kernel
theorem dX10_sameAim_27 : decode cX10_sameAim 27 = .ok (.if_icmp .ne 22, 3) := by decide +kernel
theorem dX10_sameAim_30 : decode cX10_sameAim 30 = .ok (.aload_n 0, 1) := by decide +kernel
theorem dX10_sameAim_31 : decode cX10_sameAim 31 = .ok (.getfield 97, 3) := by decide +kernel
theorem dX10_sameAim_34 : decode cX10_sameAim 34 = .ok (.iload_n 1, 1) := by decide +kernel
theorem dX10_sameAim_35 : decode cX10_sameAim 35 = .ok (.iaload, 1) := by decide +kernel
theorem dX10_sameAim_36 : decode cX10_sameAim 36 = .ok (.aload_n 0, 1) := by decide +kernel
theorem dX10_sameAim_37 : decode cX10_sameAim 37 = .ok (.getfield 97, 3) := by decide +kernel
theorem dX10_sameAim_40 : decode cX10_sameAim 40 = .ok (.iload_n 2, 1) := by decide +kernel
theorem dX10_sameAim_41 : decode cX10_sameAim 41 = .ok (.iaload, 1) := by decide +kernel
theorem dX10_sameAim_42 : decode cX10_sameAim 42 = .ok (.if_icmp .ne 7, 3) := by decide +kernel
theorem dX10_sameAim_45 : decode cX10_sameAim 45 = .ok (.iconst 1, 1) := by decide +kernel
theorem dX10_sameAim_46 : decode cX10_sameAim 46 = .ok (.goto 4, 3) := by decide +kernel
theorem dX10_sameAim_49 : decode cX10_sameAim 49 = .ok (.iconst 0, 1) := by decide +kernel
theorem dX10_sameAim_50 : decode cX10_sameAim 50 = .ok (.ireturn, 1) := by decide +kernel
theorem dX10_veneerAll_0 : decode cX10_veneerAll 0 = .ok (.aload_n 0, 1) := by decide +kernel
theorem dX10_veneerAll_1 : decode cX10_veneerAll 1 = .ok (.iconst 0, 1) := by decide +kernel
theorem dX10_veneerAll_2 : decode cX10_veneerAll 2 = .ok (.putfield 227, 3) := by decide +kernel
theorem dX10_veneerAll_5 : decode cX10_veneerAll 5 = .ok (.aload_n 0, 1) := by decide +kernel
theorem dX10_veneerAll_6 : decode cX10_veneerAll 6 = .ok (.iconst 0, 1) := by decide +kernel
theorem dX10_veneerAll_7 : decode cX10_veneerAll 7 = .ok (.putfield 230, 3) := by decide +kernel
theorem dX10_veneerAll_10 : decode cX10_veneerAll 10 = .ok (.iconst 0, 1) := by decide +kernel
theorem dX10_veneerAll_11 : decode cX10_veneerAll 11 = .ok (.istore_n 1, 1) := by decide +kernel
theorem dX10_veneerAll_12 : decode cX10_veneerAll 12 = .ok (.iload_n 1, 1) := by decide +kernel
theorem dX10_veneerAll_13 : decode cX10_veneerAll 13 = .ok (.sipush 200, 3) := by decide +kernel
theorem dX10_veneerAll_16 : decode cX10_veneerAll 16 = .ok (.if_icmp .ge 16, 3) := by decide +kernel
theorem dX10_veneerAll_19 : decode cX10_veneerAll 19 = .ok (.aload_n 0, 1) := by decide +kernel
theorem dX10_veneerAll_20 : decode cX10_veneerAll 20 = .ok (.getfield 136, 3) := by decide +kernel
theorem dX10_veneerAll_23 : decode cX10_veneerAll 23 = .ok (.iload_n 1, 1) := by decide +kernel
theorem dX10_veneerAll_24 : decode cX10_veneerAll 24 = .ok (.iconst (-1), 1) := by decide +kernel
theorem dX10_veneerAll_25 : decode cX10_veneerAll 25 = .ok (.iastore, 1) := by decide +kernel
theorem dX10_veneerAll_26 : decode cX10_veneerAll 26 = .ok (.iinc 1 1, 3) := by decide +kernel
theorem dX10_veneerAll_29 : decode cX10_veneerAll 29 = .ok (.goto (-17), 3) := by decide +kernel
theorem dX10_veneerAll_32 : decode cX10_veneerAll 32 = .ok (.iconst 1, 1) := by decide +kernel
theorem dX10_veneerAll_33 : decode cX10_veneerAll 33 = .ok (.istore_n 1, 1) := by decide +kernel
theorem dX10_veneerAll_34 : decode cX10_veneerAll 34 = .ok (.iload_n 1, 1) := by decide +kernel
theorem dX10_veneerAll_35 : decode cX10_veneerAll 35 = .ok (.ifCond .eq 269, 3) := by decide +kernel
theorem dX10_veneerAll_38 : decode cX10_veneerAll 38 = .ok (.aload_n 0, 1) := by decide +kernel
theorem dX10_veneerAll_39 : decode cX10_veneerAll 39 = .ok (.invokevirtual 256, 3) := by decide +kernel
theorem dX10_veneerAll_42 : decode cX10_veneerAll 42 = .ok (.iconst 0, 1) := by decide +kernel
theorem dX10_veneerAll_43 : decode cX10_veneerAll 43 = .ok (.istore_n 1, 1) := by decide +kernel
theorem dX10_veneerAll_44 : decode cX10_veneerAll 44 = .ok (.iconst 0, 1) := by decide +kernel
theorem dX10_veneerAll_45 : decode cX10_veneerAll 45 = .ok (.istore_n 2, 1) := by decide +kernel
theorem dX10_veneerAll_46 : decode cX10_veneerAll 46 = .ok (.iload_n 2, 1) := by decide +kernel
theorem dX10_veneerAll_47 : decode cX10_veneerAll 47 = .ok (.aload_n 0, 1) := by decide +kernel
theorem dX10_veneerAll_48 : decode cX10_veneerAll 48 = .ok (.getfield 165, 3) := by decide +kernel
theorem dX10_veneerAll_51 : decode cX10_veneerAll 51 = .ok (.if_icmp .ge 250, 3) := by decide +kernel
theorem dX10_veneerAll_54 : decode cX10_veneerAll 54 = .ok (.iconst 0, 1) := by decide +kernel
theorem dX10_veneerAll_55 : decode cX10_veneerAll 55 = .ok (.istore_n 3, 1) := by decide +kernel
theorem dX10_veneerAll_56 : decode cX10_veneerAll 56 = .ok (.iload_n 3, 1) := by decide +kernel
theorem dX10_veneerAll_57 : decode cX10_veneerAll 57 = .ok (.aload_n 0, 1) := by decide +kernel
theorem dX10_veneerAll_58 : decode cX10_veneerAll 58 = .ok (.getfield 195, 3) := by decide +kernel
theorem dX10_veneerAll_61 : decode cX10_veneerAll 61 = .ok (.if_icmp .ge 234, 3) := by decide +kernel
theorem dX10_veneerAll_64 : decode cX10_veneerAll 64 = .ok (.aload_n 0, 1) := by decide +kernel
theorem dX10_veneerAll_65 : decode cX10_veneerAll 65 = .ok (.getfield 58, 3) := by decide +kernel
theorem dX10_veneerAll_68 : decode cX10_veneerAll 68 = .ok (.iload_n 3, 1) := by decide +kernel
theorem dX10_veneerAll_69 : decode cX10_veneerAll 69 = .ok (.iaload, 1) := by decide +kernel
theorem dX10_veneerAll_70 : decode cX10_veneerAll 70 = .ok (.iload_n 2, 1) := by decide +kernel
theorem dX10_veneerAll_71 : decode cX10_veneerAll 71 = .ok (.if_icmp .ne 62, 3) := by decide +kernel
theorem dX10_veneerAll_74 : decode cX10_veneerAll 74 = .ok (.aload_n 0, 1) := by decide +kernel
theorem dX10_veneerAll_75 : decode cX10_veneerAll 75 = .ok (.iload_n 2, 1) := by decide +kernel
theorem dX10_veneerAll_76 : decode cX10_veneerAll 76 = .ok (.invokevirtual 235, 3) := by decide +kernel
theorem dX10_veneerAll_79 : decode cX10_veneerAll 79 = .ok (.ifCond .eq 54, 3) := by decide +kernel
theorem dX10_veneerAll_82 : decode cX10_veneerAll 82 = .ok (.aload_n 0, 1) := by decide +kernel
theorem dX10_veneerAll_83 : decode cX10_veneerAll 83 = .ok (.getfield 64, 3) := by decide +kernel
theorem dX10_veneerAll_86 : decode cX10_veneerAll 86 = .ok (.iload_n 3, 1) := by decide +kernel
theorem dX10_veneerAll_87 : decode cX10_veneerAll 87 = .ok (.iaload, 1) := by decide +kernel
theorem dX10_veneerAll_88 : decode cX10_veneerAll 88 = .ok (.iconst 3, 1) := by decide +kernel
theorem dX10_veneerAll_89 : decode cX10_veneerAll 89 = .ok (.if_icmp .ne 44, 3) := by decide +kernel
theorem dX10_veneerAll_92 : decode cX10_veneerAll 92 = .ok (.aload_n 0, 1) := by decide +kernel
theorem dX10_veneerAll_93 : decode cX10_veneerAll 93 = .ok (.getfield 136, 3) := by decide +kernel
theorem dX10_veneerAll_96 : decode cX10_veneerAll 96 = .ok (.iload_n 3, 1) := by decide +kernel
theorem dX10_veneerAll_97 : decode cX10_veneerAll 97 = .ok (.iaload, 1) := by decide +kernel
theorem dX10_veneerAll_98 : decode cX10_veneerAll 98 = .ok (.iconst (-1), 1) := by decide +kernel
theorem dX10_veneerAll_99 : decode cX10_veneerAll 99 = .ok (.if_icmp .ne 34, 3) := by decide +kernel
theorem dX10_veneerAll_102 : decode cX10_veneerAll 102 = .ok (.aload_n 0, 1) := by decide +kernel
theorem dX10_veneerAll_103 : decode cX10_veneerAll 103 = .ok (.aload_n 0, 1) := by decide +kernel
theorem dX10_veneerAll_104 : decode cX10_veneerAll 104 = .ok (.iload_n 3, 1) := by decide +kernel
theorem dX10_veneerAll_105 : decode cX10_veneerAll 105 = .ok (.invokevirtual 259, 3) := by decide +kernel
theorem dX10_veneerAll_108 : decode cX10_veneerAll 108 = .ok (.aload_n 0, 1) := by decide +kernel
theorem dX10_veneerAll_109 : decode cX10_veneerAll 109 = .ok (.getfield 121, 3) := by decide +kernel
theorem dX10_veneerAll_112 : decode cX10_veneerAll 112 = .ok (.iload_n 2, 1) := by decide +kernel
theorem dX10_veneerAll_113 : decode cX10_veneerAll 113 = .ok (.laload, 1) := by decide +kernel
theorem dX10_veneerAll_114 : decode cX10_veneerAll 114 = .ok (.lsub, 1) := by decide +kernel
theorem dX10_veneerAll_115 : decode cX10_veneerAll 115 = .ok (.aload_n 0, 1) := by decide +kernel
theorem dX10_veneerAll_116 : decode cX10_veneerAll 116 = .ok (.getfield 61, 3) := by decide +kernel
theorem dX10_veneerAll_119 : decode cX10_veneerAll 119 = .ok (.iload_n 3, 1) := by decide +kernel
theorem dX10_veneerAll_120 : decode cX10_veneerAll 120 = .ok (.iaload, 1) := by decide +kernel
theorem dX10_veneerAll_121 : decode cX10_veneerAll 121 = .ok (.i2l, 1) := by decide +kernel
theorem dX10_veneerAll_122 : decode cX10_veneerAll 122 = .ok (.lsub, 1) := by decide +kernel
theorem dX10_veneerAll_123 : decode cX10_veneerAll 123 = .ok (.invokevirtual 262, 3) := by decide +kernel
theorem dX10_veneerAll_126 : decode cX10_veneerAll 126 = .ok (.ifCond .ne 7, 3) := by decide +kernel
theorem dX10_veneerAll_129 : decode cX10_veneerAll 129 = .ok (.iconst 1, 1) := by decide +kernel
theorem dX10_veneerAll_130 : decode cX10_veneerAll 130 = .ok (.goto 4, 3) := by decide +kernel
theorem dX10_veneerAll_133 : decode cX10_veneerAll 133 = .ok (.iconst 0, 1) := by decide +kernel
theorem dX10_veneerAll_134 : decode cX10_veneerAll 134 = .ok (.istore 4, 2) := by decide +kernel
theorem dX10_veneerAll_136 : decode cX10_veneerAll 136 = .ok (.iload 4, 2) := by decide +kernel
theorem dX10_veneerAll_138 : decode cX10_veneerAll 138 = .ok (.ifCond .eq 151, 3) := by decide +kernel
theorem dX10_veneerAll_141 : decode cX10_veneerAll 141 = .ok (.iconst 0, 1) := by decide +kernel
theorem dX10_veneerAll_142 : decode cX10_veneerAll 142 = .ok (.istore 5, 2) := by decide +kernel
theorem dX10_veneerAll_144 : decode cX10_veneerAll 144 = .ok (.iload 5, 2) := by decide +kernel
theorem dX10_veneerAll_146 : decode cX10_veneerAll 146 = .ok (.aload_n 0, 1) := by decide +kernel
theorem dX10_veneerAll_147 : decode cX10_veneerAll 147 = .ok (.getfield 227, 3) := by decide +kernel
theorem dX10_veneerAll_150 : decode cX10_veneerAll 150 = .ok (.if_icmp .ge 87, 3) := by decide +kernel
theorem dX10_veneerAll_153 : decode cX10_veneerAll 153 = .ok (.aload_n 0, 1) := by decide +kernel
theorem dX10_veneerAll_154 : decode cX10_veneerAll 154 = .ok (.getfield 136, 3) := by decide +kernel
theorem dX10_veneerAll_157 : decode cX10_veneerAll 157 = .ok (.iload_n 3, 1) := by decide +kernel
theorem dX10_veneerAll_158 : decode cX10_veneerAll 158 = .ok (.iaload, 1) := by decide +kernel
theorem dX10_veneerAll_159 : decode cX10_veneerAll 159 = .ok (.iconst (-1), 1) := by decide +kernel
theorem dX10_veneerAll_160 : decode cX10_veneerAll 160 = .ok (.if_icmp .ne 77, 3) := by decide +kernel
theorem dX10_veneerAll_163 : decode cX10_veneerAll 163 = .ok (.aload_n 0, 1) := by decide +kernel
theorem dX10_veneerAll_164 : decode cX10_veneerAll 164 = .ok (.getfield 133, 3) := by decide +kernel
theorem dX10_veneerAll_167 : decode cX10_veneerAll 167 = .ok (.iload 5, 2) := by decide +kernel
theorem dX10_veneerAll_169 : decode cX10_veneerAll 169 = .ok (.iaload, 1) := by decide +kernel
theorem dX10_veneerAll_170 : decode cX10_veneerAll 170 = .ok (.istore 6, 2) := by decide +kernel
theorem dX10_veneerAll_172 : decode cX10_veneerAll 172 = .ok (.aload_n 0, 1) := by decide +kernel
theorem dX10_veneerAll_173 : decode cX10_veneerAll 173 = .ok (.getfield 136, 3) := by decide +kernel
theorem dX10_veneerAll_176 : decode cX10_veneerAll 176 = .ok (.iload_n 3, 1) := by decide +kernel
theorem dX10_veneerAll_177 : decode cX10_veneerAll 177 = .ok (.aload_n 0, 1) := by decide +kernel
theorem dX10_veneerAll_178 : decode cX10_veneerAll 178 = .ok (.getfield 130, 3) := by decide +kernel
theorem dX10_veneerAll_181 : decode cX10_veneerAll 181 = .ok (.iload 5, 2) := by decide +kernel
theorem dX10_veneerAll_183 : decode cX10_veneerAll 183 = .ok (.iaload, 1) := by decide +kernel
theorem dX10_veneerAll_184 : decode cX10_veneerAll 184 = .ok (.iload_n 2, 1) := by decide +kernel
theorem dX10_veneerAll_185 : decode cX10_veneerAll 185 = .ok (.if_icmp .ne 44, 3) := by decide +kernel
theorem dX10_veneerAll_188 : decode cX10_veneerAll 188 = .ok (.aload_n 0, 1) := by decide +kernel
theorem dX10_veneerAll_189 : decode cX10_veneerAll 189 = .ok (.getfield 70, 3) := by decide +kernel
theorem dX10_veneerAll_192 : decode cX10_veneerAll 192 = .ok (.iload 6, 2) := by decide +kernel
theorem dX10_veneerAll_194 : decode cX10_veneerAll 194 = .ok (.iaload, 1) := by decide +kernel
theorem dX10_veneerAll_195 : decode cX10_veneerAll 195 = .ok (.aload_n 0, 1) := by decide +kernel
theorem dX10_veneerAll_196 : decode cX10_veneerAll 196 = .ok (.getfield 70, 3) := by decide +kernel
theorem dX10_veneerAll_199 : decode cX10_veneerAll 199 = .ok (.iload_n 3, 1) := by decide +kernel
theorem dX10_veneerAll_200 : decode cX10_veneerAll 200 = .ok (.iaload, 1) := by decide +kernel
theorem dX10_veneerAll_201 : decode cX10_veneerAll 201 = .ok (.if_icmp .ne 28, 3) := by decide +kernel
theorem dX10_veneerAll_204 : decode cX10_veneerAll 204 = .ok (.aload_n 0, 1) := by decide +kernel
theorem dX10_veneerAll_205 : decode cX10_veneerAll 205 = .ok (.aload_n 0, 1) := by decide +kernel
theorem dX10_veneerAll_206 : decode cX10_veneerAll 206 = .ok (.getfield 67, 3) := by decide +kernel
theorem dX10_veneerAll_209 : decode cX10_veneerAll 209 = .ok (.iload 6, 2) := by decide +kernel
theorem dX10_veneerAll_211 : decode cX10_veneerAll 211 = .ok (.iaload, 1) := by decide +kernel
theorem dX10_veneerAll_212 : decode cX10_veneerAll 212 = .ok (.aload_n 0, 1) := by decide +kernel
theorem dX10_veneerAll_213 : decode cX10_veneerAll 213 = .ok (.getfield 67, 3) := by decide +kernel
theorem dX10_veneerAll_216 : decode cX10_veneerAll 216 = .ok (.iload_n 3, 1) := by decide +kernel
theorem dX10_veneerAll_217 : decode cX10_veneerAll 217 = .ok (.iaload, 1) := by decide +kernel
theorem dX10_veneerAll_218 : decode cX10_veneerAll 218 = .ok (.invokevirtual 266, 3) := by decide +kernel
theorem dX10_veneerAll_221 : decode cX10_veneerAll 221 = .ok (.ifCond .eq 8, 3) := by decide +kernel
theorem dX10_veneerAll_224 : decode cX10_veneerAll 224 = .ok (.iload 5, 2) := by decide +kernel
theorem dX10_veneerAll_226 : decode cX10_veneerAll 226 = .ok (.goto 4, 3) := by decide +kernel
theorem dX10_veneerAll_229 : decode cX10_veneerAll 229 = .ok (.iconst (-1), 1) := by decide +kernel
theorem dX10_veneerAll_230 : decode cX10_veneerAll 230 = .ok (.iastore, 1) := by decide +kernel
theorem dX10_veneerAll_231 : decode cX10_veneerAll 231 = .ok (.iinc 5 1, 3) := by decide +kernel
theorem dX10_veneerAll_234 : decode cX10_veneerAll 234 = .ok (.goto (-90), 3) := by decide +kernel
theorem dX10_veneerAll_237 : decode cX10_veneerAll 237 = .ok (.aload_n 0, 1) := by decide +kernel
theorem dX10_veneerAll_238 : decode cX10_veneerAll 238 = .ok (.getfield 136, 3) := by decide +kernel
theorem dX10_veneerAll_241 : decode cX10_veneerAll 241 = .ok (.iload_n 3, 1) := by decide +kernel
theorem dX10_veneerAll_242 : decode cX10_veneerAll 242 = .ok (.iaload, 1) := by decide +kernel
theorem dX10_veneerAll_243 : decode cX10_veneerAll 243 = .ok (.iconst (-1), 1) := by decide +kernel
theorem dX10_veneerAll_244 : decode cX10_veneerAll 244 = .ok (.if_icmp .ne 45, 3) := by decide +kernel
theorem dX10_veneerAll_247 : decode cX10_veneerAll 247 = .ok (.aload_n 0, 1) := by decide +kernel
theorem dX10_veneerAll_248 : decode cX10_veneerAll 248 = .ok (.getfield 130, 3) := by decide +kernel
theorem dX10_veneerAll_251 : decode cX10_veneerAll 251 = .ok (.aload_n 0, 1) := by decide +kernel
theorem dX10_veneerAll_252 : decode cX10_veneerAll 252 = .ok (.getfield 227, 3) := by decide +kernel
theorem dX10_veneerAll_255 : decode cX10_veneerAll 255 = .ok (.iload_n 2, 1) := by decide +kernel
theorem dX10_veneerAll_256 : decode cX10_veneerAll 256 = .ok (.iastore, 1) := by decide +kernel
theorem dX10_veneerAll_257 : decode cX10_veneerAll 257 = .ok (.aload_n 0, 1) := by decide +kernel
theorem dX10_veneerAll_258 : decode cX10_veneerAll 258 = .ok (.getfield 133, 3) := by decide +kernel
theorem dX10_veneerAll_261 : decode cX10_veneerAll 261 = .ok (.aload_n 0, 1) := by decide +kernel
theorem dX10_veneerAll_262 : decode cX10_veneerAll 262 = .ok (.getfield 227, 3) := by decide +kernel
theorem dX10_veneerAll_265 : decode cX10_veneerAll 265 = .ok (.iload_n 3, 1) := by decide +kernel
theorem dX10_veneerAll_266 : decode cX10_veneerAll 266 = .ok (.iastore, 1) := by decide +kernel
theorem dX10_veneerAll_267 : decode cX10_veneerAll 267 = .ok (.aload_n 0, 1) := by decide +kernel
theorem dX10_veneerAll_268 : decode cX10_veneerAll 268 = .ok (.getfield 136, 3) := by decide +kernel
theorem dX10_veneerAll_271 : decode cX10_veneerAll 271 = .ok (.iload_n 3, 1) := by decide +kernel
theorem dX10_veneerAll_272 : decode cX10_veneerAll 272 = .ok (.aload_n 0, 1) := by decide +kernel
theorem dX10_veneerAll_273 : decode cX10_veneerAll 273 = .ok (.getfield 227, 3) := by decide +kernel
theorem dX10_veneerAll_276 : decode cX10_veneerAll 276 = .ok (.iastore, 1) := by decide +kernel
theorem dX10_veneerAll_277 : decode cX10_veneerAll 277 = .ok (.aload_n 0, 1) := by decide +kernel
theorem dX10_veneerAll_278 : decode cX10_veneerAll 278 = .ok (.dup, 1) := by decide +kernel
theorem dX10_veneerAll_279 : decode cX10_veneerAll 279 = .ok (.getfield 227, 3) := by decide +kernel
theorem dX10_veneerAll_282 : decode cX10_veneerAll 282 = .ok (.iconst 1, 1) := by decide +kernel
theorem dX10_veneerAll_283 : decode cX10_veneerAll 283 = .ok (.iadd, 1) := by decide +kernel
theorem dX10_veneerAll_284 : decode cX10_veneerAll 284 = .ok (.putfield 227, 3) := by decide +kernel
theorem dX10_veneerAll_287 : decode cX10_veneerAll 287 = .ok (.iconst 1, 1) := by decide +kernel
theorem dX10_veneerAll_288 : decode cX10_veneerAll 288 = .ok (.istore_n 1, 1) := by decide +kernel
theorem dX10_veneerAll_289 : decode cX10_veneerAll 289 = .ok (.iinc 3 1, 3) := by decide +kernel
theorem dX10_veneerAll_292 : decode cX10_veneerAll 292 = .ok (.goto (-236), 3) := by decide +kernel
theorem dX10_veneerAll_295 : decode cX10_veneerAll 295 = .ok (.iinc 2 1, 3) := by decide +kernel
theorem dX10_veneerAll_298 : decode cX10_veneerAll 298 = .ok (.goto (-252), 3) := by decide +kernel
theorem dX10_veneerAll_301 : decode cX10_veneerAll 301 = .ok (.goto (-267), 3) := by decide +kernel
theorem dX10_veneerAll_304 : decode cX10_veneerAll 304 = .ok (.return_, 1) := by decide +kernel
theorem dX10_bad_0 : decode cX10_bad 0 = .ok (.aload_n 0, 1) := by decide +kernel
theorem dX10_bad_1 : decode cX10_bad 1 = .ok (.getfield 146, 3) := by decide +kernel
theorem dX10_bad_4 : decode cX10_bad 4 = .ok (.ifCond .ne 13, 3) := by decide +kernel
theorem dX10_bad_7 : decode cX10_bad 7 = .ok (.aload_n 0, 1) := by decide +kernel
end
section
theorem dX10_bad_8 : decode cX10_bad 8 = .ok (.iload_n 1, 1) := by decide +kernel
theorem dX10_bad_9 : decode cX10_bad 9 = .ok (.putfield 146, 3) := by decide +kernel
theorem dX10_bad_12 : decode cX10_bad 12 = .ok (.aload_n 0, 1) := by decide +kernel
theorem dX10_bad_13 : decode cX10_bad 13 = .ok (.iload_n 2, 1) := by decide +kernel
theorem dX10_bad_14 : decode cX10_bad 14 = .ok (.putfield 82, 3) := by decide +kernel
theorem dX10_bad_17 : decode cX10_bad 17 = .ok (.return_, 1) := by decide +kernel
theorem dX10_link_0 : decode cX10_link 0 = .ok (.aload_n 0, 1) := by decide +kernel
theorem dX10_link_1 : decode cX10_link 1 = .ok (.invokevirtual 152, 3) := by decide +kernel
theorem dX10_link_4 : decode cX10_link 4 = .ok (.aload_n 0, 1) := by decide +kernel
theorem dX10_link_5 : decode cX10_link 5 = .ok (.iconst 1, 1) := by decide +kernel
theorem dX10_link_6 : decode cX10_link 6 = .ok (.putfield 139, 3) := by decide +kernel
theorem dX10_link_9 : decode cX10_link 9 = .ok (.aload_n 0, 1) := by decide +kernel
theorem dX10_link_10 : decode cX10_link 10 = .ok (.invokevirtual 269, 3) := by decide +kernel
theorem dX10_link_13 : decode cX10_link 13 = .ok (.istore_n 2, 1) := by decide +kernel
theorem dX10_link_14 : decode cX10_link 14 = .ok (.iload_n 2, 1) := by decide +kernel
theorem dX10_link_15 : decode cX10_link 15 = .ok (.iconst (-1), 1) := by decide +kernel
theorem dX10_link_16 : decode cX10_link 16 = .ok (.if_icmp .eq 11, 3) := by decide +kernel
theorem dX10_link_19 : decode cX10_link 19 = .ok (.aload_n 0, 1) := by decide +kernel
theorem dX10_link_20 : decode cX10_link 20 = .ok (.iconst 1, 1) := by decide +kernel
theorem dX10_link_21 : decode cX10_link 21 = .ok (.iload_n 2, 1) := by decide +kernel
theorem dX10_link_22 : decode cX10_link 22 = .ok (.invokevirtual 273, 3) := by decide +kernel
theorem dX10_link_25 : decode cX10_link 25 = .ok (.iconst 1, 1) := by decide +kernel
theorem dX10_link_26 : decode cX10_link 26 = .ok (.ireturn, 1) := by decide +kernel
theorem dX10_link_27 : decode cX10_link 27 = .ok (.aload_n 0, 1) := by decide +kernel
theorem dX10_link_28 : decode cX10_link 28 = .ok (.invokevirtual 276, 3) := by decide +kernel
theorem dX10_link_31 : decode cX10_link 31 = .ok (.aload_n 0, 1) := by decide +kernel
theorem dX10_link_32 : decode cX10_link 32 = .ok (.iload_n 1, 1) := by decide +kernel
theorem dX10_link_33 : decode cX10_link 33 = .ok (.invokevirtual 279, 3) := by decide +kernel
theorem dX10_link_36 : decode cX10_link 36 = .ok (.iconst 0, 1) := by decide +kernel
theorem dX10_link_37 : decode cX10_link 37 = .ok (.istore_n 3, 1) := by decide +kernel
theorem dX10_link_38 : decode cX10_link 38 = .ok (.iload_n 3, 1) := by decide +kernel
theorem dX10_link_39 : decode cX10_link 39 = .ok (.aload_n 0, 1) := by decide +kernel
theorem dX10_link_40 : decode cX10_link 40 = .ok (.getfield 198, 3) := by decide +kernel
theorem dX10_link_43 : decode cX10_link 43 = .ok (.if_icmp .ge 30, 3) := by decide +kernel
theorem dX10_link_46 : decode cX10_link 46 = .ok (.aload_n 0, 1) := by decide +kernel
theorem dX10_link_47 : decode cX10_link 47 = .ok (.getfield 88, 3) := by decide +kernel
theorem dX10_link_50 : decode cX10_link 50 = .ok (.aload_n 0, 1) := by decide +kernel
theorem dX10_link_51 : decode cX10_link 51 = .ok (.getfield 73, 3) := by decide +kernel
theorem dX10_link_54 : decode cX10_link 54 = .ok (.iload_n 3, 1) := by decide +kernel
theorem dX10_link_55 : decode cX10_link 55 = .ok (.iaload, 1) := by decide +kernel
theorem dX10_link_56 : decode cX10_link 56 = .ok (.iaload, 1) := by decide +kernel
theorem dX10_link_57 : decode cX10_link 57 = .ok (.iconst (-1), 1) := by decide +kernel
theorem dX10_link_58 : decode cX10_link 58 = .ok (.if_icmp .ne 9, 3) := by decide +kernel
theorem dX10_link_61 : decode cX10_link 61 = .ok (.aload_n 0, 1) := by decide +kernel
theorem dX10_link_62 : decode cX10_link 62 = .ok (.iconst 2, 1) := by decide +kernel
theorem dX10_link_63 : decode cX10_link 63 = .ok (.iload_n 3, 1) := by decide +kernel
theorem dX10_link_64 : decode cX10_link 64 = .ok (.invokevirtual 273, 3) := by decide +kernel
theorem dX10_link_67 : decode cX10_link 67 = .ok (.iinc 3 1, 3) := by decide +kernel
theorem dX10_link_70 : decode cX10_link 70 = .ok (.goto (-32), 3) := by decide +kernel
theorem dX10_link_73 : decode cX10_link 73 = .ok (.iconst 0, 1) := by decide +kernel
theorem dX10_link_74 : decode cX10_link 74 = .ok (.istore_n 3, 1) := by decide +kernel
theorem dX10_link_75 : decode cX10_link 75 = .ok (.iload_n 3, 1) := by decide +kernel
theorem dX10_link_76 : decode cX10_link 76 = .ok (.aload_n 0, 1) := by decide +kernel
theorem dX10_link_77 : decode cX10_link 77 = .ok (.getfield 195, 3) := by decide +kernel
theorem dX10_link_80 : decode cX10_link 80 = .ok (.if_icmp .ge 58, 3) := by decide +kernel
theorem dX10_link_83 : decode cX10_link 83 = .ok (.aload_n 0, 1) := by decide +kernel
theorem dX10_link_84 : decode cX10_link 84 = .ok (.getfield 103, 3) := by decide +kernel
theorem dX10_link_87 : decode cX10_link 87 = .ok (.aload_n 0, 1) := by decide +kernel
theorem dX10_link_88 : decode cX10_link 88 = .ok (.getfield 58, 3) := by decide +kernel
theorem dX10_link_91 : decode cX10_link 91 = .ok (.iload_n 3, 1) := by decide +kernel
theorem dX10_link_92 : decode cX10_link 92 = .ok (.iaload, 1) := by decide +kernel
theorem dX10_link_93 : decode cX10_link 93 = .ok (.baload, 1) := by decide +kernel
theorem dX10_link_94 : decode cX10_link 94 = .ok (.ifCond .eq 38, 3) := by decide +kernel
theorem dX10_link_97 : decode cX10_link 97 = .ok (.aload_n 0, 1) := by decide +kernel
theorem dX10_link_98 : decode cX10_link 98 = .ok (.getfield 55, 3) := by decide +kernel
theorem dX10_link_101 : decode cX10_link 101 = .ok (.aload_n 0, 1) := by decide +kernel
theorem dX10_link_102 : decode cX10_link 102 = .ok (.getfield 67, 3) := by decide +kernel
theorem dX10_link_105 : decode cX10_link 105 = .ok (.iload_n 3, 1) := by decide +kernel
theorem dX10_link_106 : decode cX10_link 106 = .ok (.iaload, 1) := by decide +kernel
theorem dX10_link_107 : decode cX10_link 107 = .ok (.iaload, 1) := by decide +kernel
theorem dX10_link_108 : decode cX10_link 108 = .ok (.iconst 2, 1) := by decide +kernel
theorem dX10_link_109 : decode cX10_link 109 = .ok (.if_icmp .eq 23, 3) := by decide +kernel
theorem dX10_link_112 : decode cX10_link 112 = .ok (.aload_n 0, 1) := by decide +kernel
theorem dX10_link_113 : decode cX10_link 113 = .ok (.getfield 91, 3) := by decide +kernel
theorem dX10_link_116 : decode cX10_link 116 = .ok (.aload_n 0, 1) := by decide +kernel
theorem dX10_link_117 : decode cX10_link 117 = .ok (.getfield 67, 3) := by decide +kernel
theorem dX10_link_120 : decode cX10_link 120 = .ok (.iload_n 3, 1) := by decide +kernel
theorem dX10_link_121 : decode cX10_link 121 = .ok (.iaload, 1) := by decide +kernel
theorem dX10_link_122 : decode cX10_link 122 = .ok (.iaload, 1) := by decide +kernel
theorem dX10_link_123 : decode cX10_link 123 = .ok (.ifCond .ne 9, 3) := by decide +kernel
theorem dX10_link_126 : decode cX10_link 126 = .ok (.aload_n 0, 1) := by decide +kernel
theorem dX10_link_127 : decode cX10_link 127 = .ok (.iconst 3, 1) := by decide +kernel
theorem dX10_link_128 : decode cX10_link 128 = .ok (.iload_n 3, 1) := by decide +kernel
theorem dX10_link_129 : decode cX10_link 129 = .ok (.invokevirtual 273, 3) := by decide +kernel
theorem dX10_link_132 : decode cX10_link 132 = .ok (.iinc 3 1, 3) := by decide +kernel
theorem dX10_link_135 : decode cX10_link 135 = .ok (.goto (-60), 3) := by decide +kernel
theorem dX10_link_138 : decode cX10_link 138 = .ok (.iconst 0, 1) := by decide +kernel
theorem dX10_link_139 : decode cX10_link 139 = .ok (.istore_n 3, 1) := by decide +kernel
theorem dX10_link_140 : decode cX10_link 140 = .ok (.iload_n 3, 1) := by decide +kernel
theorem dX10_link_141 : decode cX10_link 141 = .ok (.aload_n 0, 1) := by decide +kernel
theorem dX10_link_142 : decode cX10_link 142 = .ok (.getfield 195, 3) := by decide +kernel
theorem dX10_link_145 : decode cX10_link 145 = .ok (.if_icmp .ge 63, 3) := by decide +kernel
theorem dX10_link_148 : decode cX10_link 148 = .ok (.aload_n 0, 1) := by decide +kernel
theorem dX10_link_149 : decode cX10_link 149 = .ok (.getfield 103, 3) := by decide +kernel
theorem dX10_link_152 : decode cX10_link 152 = .ok (.aload_n 0, 1) := by decide +kernel
theorem dX10_link_153 : decode cX10_link 153 = .ok (.getfield 58, 3) := by decide +kernel
theorem dX10_link_156 : decode cX10_link 156 = .ok (.iload_n 3, 1) := by decide +kernel
theorem dX10_link_157 : decode cX10_link 157 = .ok (.iaload, 1) := by decide +kernel
theorem dX10_link_158 : decode cX10_link 158 = .ok (.baload, 1) := by decide +kernel
theorem dX10_link_159 : decode cX10_link 159 = .ok (.ifCond .eq 43, 3) := by decide +kernel
theorem dX10_link_162 : decode cX10_link 162 = .ok (.aload_n 0, 1) := by decide +kernel
theorem dX10_link_163 : decode cX10_link 163 = .ok (.getfield 91, 3) := by decide +kernel
theorem dX10_link_166 : decode cX10_link 166 = .ok (.aload_n 0, 1) := by decide +kernel
theorem dX10_link_167 : decode cX10_link 167 = .ok (.getfield 67, 3) := by decide +kernel
theorem dX10_link_170 : decode cX10_link 170 = .ok (.iload_n 3, 1) := by decide +kernel
theorem dX10_link_171 : decode cX10_link 171 = .ok (.iaload, 1) := by decide +kernel
theorem dX10_link_172 : decode cX10_link 172 = .ok (.iaload, 1) := by decide +kernel
theorem dX10_link_173 : decode cX10_link 173 = .ok (.iconst 1, 1) := by decide +kernel
theorem dX10_link_174 : decode cX10_link 174 = .ok (.if_icmp .ne 28, 3) := by decide +kernel
theorem dX10_link_177 : decode cX10_link 177 = .ok (.aload_n 0, 1) := by decide +kernel
theorem dX10_link_178 : decode cX10_link 178 = .ok (.getfield 85, 3) := by decide +kernel
theorem dX10_link_181 : decode cX10_link 181 = .ok (.aload_n 0, 1) := by decide +kernel
theorem dX10_link_182 : decode cX10_link 182 = .ok (.getfield 94, 3) := by decide +kernel
theorem dX10_link_185 : decode cX10_link 185 = .ok (.aload_n 0, 1) := by decide +kernel
theorem dX10_link_186 : decode cX10_link 186 = .ok (.getfield 67, 3) := by decide +kernel
theorem dX10_link_189 : decode cX10_link 189 = .ok (.iload_n 3, 1) := by decide +kernel
theorem dX10_link_190 : decode cX10_link 190 = .ok (.iaload, 1) := by decide +kernel
theorem dX10_link_191 : decode cX10_link 191 = .ok (.iaload, 1) := by decide +kernel
theorem dX10_link_192 : decode cX10_link 192 = .ok (.baload, 1) := by decide +kernel
theorem dX10_link_193 : decode cX10_link 193 = .ok (.ifCond .eq 9, 3) := by decide +kernel
theorem dX10_link_196 : decode cX10_link 196 = .ok (.aload_n 0, 1) := by decide +kernel
theorem dX10_link_197 : decode cX10_link 197 = .ok (.iconst 4, 1) := by decide +kernel
theorem dX10_link_198 : decode cX10_link 198 = .ok (.iload_n 3, 1) := by decide +kernel
theorem dX10_link_199 : decode cX10_link 199 = .ok (.invokevirtual 273, 3) := by decide +kernel
theorem dX10_link_202 : decode cX10_link 202 = .ok (.iinc 3 1, 3) := by decide +kernel
theorem dX10_link_205 : decode cX10_link 205 = .ok (.goto (-65), 3) := by decide +kernel
theorem dX10_link_208 : decode cX10_link 208 = .ok (.aload_n 0, 1) := by decide +kernel
theorem dX10_link_209 : decode cX10_link 209 = .ok (.getfield 146, 3) := by decide +kernel
theorem dX10_link_212 : decode cX10_link 212 = .ok (.ifCond .le 8, 3) := by decide +kernel
theorem dX10_link_215 : decode cX10_link 215 = .ok (.aload_n 0, 1) := by decide +kernel
theorem dX10_link_216 : decode cX10_link 216 = .ok (.getfield 146, 3) := by decide +kernel
theorem dX10_link_219 : decode cX10_link 219 = .ok (.ireturn, 1) := by decide +kernel
theorem dX10_link_220 : decode cX10_link 220 = .ok (.aload_n 0, 1) := by decide +kernel
theorem dX10_link_221 : decode cX10_link 221 = .ok (.invokevirtual 283, 3) := by decide +kernel
theorem dX10_link_224 : decode cX10_link 224 = .ok (.iconst 0, 1) := by decide +kernel
theorem dX10_link_225 : decode cX10_link 225 = .ok (.istore_n 3, 1) := by decide +kernel
theorem dX10_link_226 : decode cX10_link 226 = .ok (.iload_n 3, 1) := by decide +kernel
theorem dX10_link_227 : decode cX10_link 227 = .ok (.iconst 4, 1) := by decide +kernel
theorem dX10_link_228 : decode cX10_link 228 = .ok (.if_icmp .ge 81, 3) := by decide +kernel
theorem dX10_link_231 : decode cX10_link 231 = .ok (.iconst 0, 1) := by decide +kernel
theorem dX10_link_232 : decode cX10_link 232 = .ok (.istore 4, 2) := by decide +kernel
theorem dX10_link_234 : decode cX10_link 234 = .ok (.iload 4, 2) := by decide +kernel
theorem dX10_link_236 : decode cX10_link 236 = .ok (.iload_n 3, 1) := by decide +kernel
theorem dX10_link_237 : decode cX10_link 237 = .ok (.if_icmp .ge 66, 3) := by decide +kernel
theorem dX10_link_240 : decode cX10_link 240 = .ok (.aload_n 0, 1) := by decide +kernel
theorem dX10_link_241 : decode cX10_link 241 = .ok (.iload_n 3, 1) := by decide +kernel
theorem dX10_link_242 : decode cX10_link 242 = .ok (.invokevirtual 286, 3) := by decide +kernel
theorem dX10_link_245 : decode cX10_link 245 = .ok (.ifCond .eq 52, 3) := by decide +kernel
theorem dX10_link_248 : decode cX10_link 248 = .ok (.aload_n 0, 1) := by decide +kernel
theorem dX10_link_249 : decode cX10_link 249 = .ok (.iload 4, 2) := by decide +kernel
theorem dX10_link_251 : decode cX10_link 251 = .ok (.invokevirtual 286, 3) := by decide +kernel
theorem dX10_link_254 : decode cX10_link 254 = .ok (.ifCond .eq 43, 3) := by decide +kernel
theorem dX10_link_257 : decode cX10_link 257 = .ok (.aload_n 0, 1) := by decide +kernel
theorem dX10_link_258 : decode cX10_link 258 = .ok (.getfield 124, 3) := by decide +kernel
theorem dX10_link_261 : decode cX10_link 261 = .ok (.iload_n 3, 1) := by decide +kernel
theorem dX10_link_262 : decode cX10_link 262 = .ok (.laload, 1) := by decide +kernel
theorem dX10_link_263 : decode cX10_link 263 = .ok (.aload_n 0, 1) := by decide +kernel
theorem dX10_link_264 : decode cX10_link 264 = .ok (.getfield 127, 3) := by decide +kernel
theorem dX10_link_267 : decode cX10_link 267 = .ok (.iload 4, 2) := by decide +kernel
theorem dX10_link_269 : decode cX10_link 269 = .ok (.laload, 1) := by decide +kernel
theorem dX10_link_270 : decode cX10_link 270 = .ok (.lcmp, 1) := by decide +kernel
theorem dX10_link_271 : decode cX10_link 271 = .ok (.ifCond .ge 26, 3) := by decide +kernel
theorem dX10_link_274 : decode cX10_link 274 = .ok (.aload_n 0, 1) := by decide +kernel
theorem dX10_link_275 : decode cX10_link 275 = .ok (.getfield 124, 3) := by decide +kernel
theorem dX10_link_278 : decode cX10_link 278 = .ok (.iload 4, 2) := by decide +kernel
theorem dX10_link_280 : decode cX10_link 280 = .ok (.laload, 1) := by decide +kernel
theorem dX10_link_281 : decode cX10_link 281 = .ok (.aload_n 0, 1) := by decide +kernel
theorem dX10_link_282 : decode cX10_link 282 = .ok (.getfield 127, 3) := by decide +kernel
theorem dX10_link_285 : decode cX10_link 285 = .ok (.iload_n 3, 1) := by decide +kernel
theorem dX10_link_286 : decode cX10_link 286 = .ok (.laload, 1) := by decide +kernel
theorem dX10_link_287 : decode cX10_link 287 = .ok (.lcmp, 1) := by decide +kernel
theorem dX10_link_288 : decode cX10_link 288 = .ok (.ifCond .ge 9, 3) := by decide +kernel
theorem dX10_link_291 : decode cX10_link 291 = .ok (.aload_n 0, 1) := by decide +kernel
theorem dX10_link_292 : decode cX10_link 292 = .ok (.iconst 5, 1) := by decide +kernel
theorem dX10_link_293 : decode cX10_link 293 = .ok (.iload_n 3, 1) := by decide +kernel
theorem dX10_link_294 : decode cX10_link 294 = .ok (.invokevirtual 273, 3) := by decide +kernel
theorem dX10_link_297 : decode cX10_link 297 = .ok (.iinc 4 1, 3) := by decide +kernel
theorem dX10_link_300 : decode cX10_link 300 = .ok (.goto (-66), 3) := by decide +kernel
theorem dX10_link_303 : decode cX10_link 303 = .ok (.iinc 3 1, 3) := by decide +kernel
theorem dX10_link_306 : decode cX10_link 306 = .ok (.goto (-80), 3) := by decide +kernel
theorem dX10_link_309 : decode cX10_link 309 = .ok (.iconst 0, 1) := by decide +kernel
theorem dX10_link_310 : decode cX10_link 310 = .ok (.istore_n 3, 1) := by decide +kernel
theorem dX10_link_311 : decode cX10_link 311 = .ok (.iload_n 3, 1) := by decide +kernel
theorem dX10_link_312 : decode cX10_link 312 = .ok (.aload_n 0, 1) := by decide +kernel
theorem dX10_link_313 : decode cX10_link 313 = .ok (.getfield 195, 3) := by decide +kernel
theorem dX10_link_316 : decode cX10_link 316 = .ok (.if_icmp .ge 37, 3) := by decide +kernel
theorem dX10_link_319 : decode cX10_link 319 = .ok (.aload_n 0, 1) := by decide +kernel
theorem dX10_link_320 : decode cX10_link 320 = .ok (.aload_n 0, 1) := by decide +kernel
theorem dX10_link_321 : decode cX10_link 321 = .ok (.getfield 58, 3) := by decide +kernel
theorem dX10_link_324 : decode cX10_link 324 = .ok (.iload_n 3, 1) := by decide +kernel
theorem dX10_link_325 : decode cX10_link 325 = .ok (.iaload, 1) := by decide +kernel
theorem dX10_link_326 : decode cX10_link 326 = .ok (.invokevirtual 235, 3) := by decide +kernel
theorem dX10_link_329 : decode cX10_link 329 = .ok (.ifCond .eq 18, 3) := by decide +kernel
theorem dX10_link_332 : decode cX10_link 332 = .ok (.aload_n 0, 1) := by decide +kernel
theorem dX10_link_333 : decode cX10_link 333 = .ok (.iload_n 3, 1) := by decide +kernel
theorem dX10_link_334 : decode cX10_link 334 = .ok (.invokevirtual 289, 3) := by decide +kernel
theorem dX10_link_337 : decode cX10_link 337 = .ok (.ifCond .ne 10, 3) := by decide +kernel
theorem dX10_link_340 : decode cX10_link 340 = .ok (.aload_n 0, 1) := by decide +kernel
theorem dX10_link_341 : decode cX10_link 341 = .ok (.bipush 6, 2) := by decide +kernel
theorem dX10_link_343 : decode cX10_link 343 = .ok (.iload_n 3, 1) := by decide +kernel
theorem dX10_link_344 : decode cX10_link 344 = .ok (.invokevirtual 273, 3) := by decide +kernel
theorem dX10_link_347 : decode cX10_link 347 = .ok (.iinc 3 1, 3) := by decide +kernel
theorem dX10_link_350 : decode cX10_link 350 = .ok (.goto (-39), 3) := by decide +kernel
theorem dX10_link_353 : decode cX10_link 353 = .ok (.aload_n 0, 1) := by decide +kernel
theorem dX10_link_354 : decode cX10_link 354 = .ok (.aload_n 0, 1) := by decide +kernel
theorem dX10_link_355 : decode cX10_link 355 = .ok (.getfield 146, 3) := by decide +kernel
theorem dX10_link_358 : decode cX10_link 358 = .ok (.ifCond .ne 7, 3) := by decide +kernel
theorem dX10_link_361 : decode cX10_link 361 = .ok (.iconst 1, 1) := by decide +kernel
theorem dX10_link_362 : decode cX10_link 362 = .ok (.goto 4, 3) := by decide +kernel
theorem dX10_link_365 : decode cX10_link 365 = .ok (.iconst 0, 1) := by decide +kernel
theorem dX10_link_366 : decode cX10_link 366 = .ok (.putfield 143, 3) := by decide +kernel
theorem dX10_link_369 : decode cX10_link 369 = .ok (.aload_n 0, 1) := by decide +kernel
theorem dX10_link_370 : decode cX10_link 370 = .ok (.getfield 146, 3) := by decide +kernel
theorem dX10_link_373 : decode cX10_link 373 = .ok (.ireturn, 1) := by decide +kernel
theorem dX10_hasPlaced_0 : decode cX10_hasPlaced 0 = .ok (.iconst 0, 1) := by decide +kernel
theorem dX10_hasPlaced_1 : decode cX10_hasPlaced 1 = .ok (.istore_n 2, 1) := by decide +kernel
theorem dX10_hasPlaced_2 : decode cX10_hasPlaced 2 = .ok (.iload_n 2, 1) := by decide +kernel
theorem dX10_hasPlaced_3 : decode cX10_hasPlaced 3 = .ok (.aload_n 0, 1) := by decide +kernel
theorem dX10_hasPlaced_4 : decode cX10_hasPlaced 4 = .ok (.getfield 165, 3) := by decide +kernel
theorem dX10_hasPlaced_7 : decode cX10_hasPlaced 7 = .ok (.if_icmp .ge 29, 3) := by decide +kernel
theorem dX10_hasPlaced_10 : decode cX10_hasPlaced 10 = .ok (.aload_n 0, 1) := by decide +kernel
theorem dX10_hasPlaced_11 : decode cX10_hasPlaced 11 = .ok (.getfield 17, 3) := by decide +kernel
theorem dX10_hasPlaced_14 : decode cX10_hasPlaced 14 = .ok (.iload_n 2, 1) := by decide +kernel
theorem dX10_hasPlaced_15 : decode cX10_hasPlaced 15 = .ok (.iaload, 1) := by decide +kernel
theorem dX10_hasPlaced_16 : decode cX10_hasPlaced 16 = .ok (.iload_n 1, 1) := by decide +kernel
theorem dX10_hasPlaced_17 : decode cX10_hasPlaced 17 = .ok (.if_icmp .ne 13, 3) := by decide +kernel
theorem dX10_hasPlaced_20 : decode cX10_hasPlaced 20 = .ok (.aload_n 0, 1) := by decide +kernel
theorem dX10_hasPlaced_21 : decode cX10_hasPlaced 21 = .ok (.iload_n 2, 1) := by decide +kernel
theorem dX10_hasPlaced_22 : decode cX10_hasPlaced 22 = .ok (.invokevirtual 235, 3) := by decide +kernel
theorem dX10_hasPlaced_25 : decode cX10_hasPlaced 25 = .ok (.ifCond .eq 5, 3) := by decide +kernel
theorem dX10_hasPlaced_28 : decode cX10_hasPlaced 28 = .ok (.iconst 1, 1) := by decide +kernel
theorem dX10_hasPlaced_29 : decode cX10_hasPlaced 29 = .ok (.ireturn, 1) := by decide +kernel
theorem dX10_hasPlaced_30 : decode cX10_hasPlaced 30 = .ok (.iinc 2 1, 3) := by decide +kernel
theorem dX10_hasPlaced_33 : decode cX10_hasPlaced 33 = .ok (.goto (-31), 3) := by decide +kernel
theorem dX10_hasPlaced_36 : decode cX10_hasPlaced 36 = .ok (.iconst 0, 1) := by decide +kernel
theorem dX10_hasPlaced_37 : decode cX10_hasPlaced 37 = .ok (.ireturn, 1) := by decide +kernel
theorem dX10_written_0 : decode cX10_written 0 = .ok (.aload_n 0, 1) := by decide +kernel
theorem dX10_written_1 : decode cX10_written 1 = .ok (.getfield 121, 3) := by decide +kernel
theorem dX10_written_4 : decode cX10_written 4 = .ok (.aload_n 0, 1) := by decide +kernel
theorem dX10_written_5 : decode cX10_written 5 = .ok (.getfield 58, 3) := by decide +kernel
theorem dX10_written_8 : decode cX10_written 8 = .ok (.iload_n 1, 1) := by decide +kernel
theorem dX10_written_9 : decode cX10_written 9 = .ok (.iaload, 1) := by decide +kernel
theorem dX10_written_10 : decode cX10_written 10 = .ok (.laload, 1) := by decide +kernel
theorem dX10_written_11 : decode cX10_written 11 = .ok (.aload_n 0, 1) := by decide +kernel
theorem dX10_written_12 : decode cX10_written 12 = .ok (.getfield 61, 3) := by decide +kernel
theorem dX10_written_15 : decode cX10_written 15 = .ok (.iload_n 1, 1) := by decide +kernel
theorem dX10_written_16 : decode cX10_written 16 = .ok (.iaload, 1) := by decide +kernel
theorem dX10_written_17 : decode cX10_written 17 = .ok (.i2l, 1) := by decide +kernel
theorem dX10_written_18 : decode cX10_written 18 = .ok (.ladd, 1) := by decide +kernel
theorem dX10_written_19 : decode cX10_written 19 = .ok (.lstore_n 2, 1) := by decide +kernel
theorem dX10_written_20 : decode cX10_written 20 = .ok (.aload_n 0, 1) := by decide +kernel
theorem dX10_written_21 : decode cX10_written 21 = .ok (.getfield 136, 3) := by decide +kernel
theorem dX10_written_24 : decode cX10_written 24 = .ok (.iload_n 1, 1) := by decide +kernel
theorem dX10_written_25 : decode cX10_written 25 = .ok (.iaload, 1) := by decide +kernel
theorem dX10_written_26 : decode cX10_written 26 = .ok (.iconst (-1), 1) := by decide +kernel
theorem dX10_written_27 : decode cX10_written 27 = .ok (.if_icmp .ne 11, 3) := by decide +kernel
theorem dX10_written_30 : decode cX10_written 30 = .ok (.aload_n 0, 1) := by decide +kernel
theorem dX10_written_31 : decode cX10_written 31 = .ok (.iload_n 1, 1) := by decide +kernel
theorem dX10_written_32 : decode cX10_written 32 = .ok (.invokevirtual 259, 3) := by decide +kernel
theorem dX10_written_35 : decode cX10_written 35 = .ok (.goto 13, 3) := by decide +kernel
theorem dX10_written_38 : decode cX10_written 38 = .ok (.aload_n 0, 1) := by decide +kernel
theorem dX10_written_39 : decode cX10_written 39 = .ok (.aload_n 0, 1) := by decide +kernel
theorem dX10_written_40 : decode cX10_written 40 = .ok (.getfield 136, 3) := by decide +kernel
theorem dX10_written_43 : decode cX10_written 43 = .ok (.iload_n 1, 1) := by decide +kernel
theorem dX10_written_44 : decode cX10_written 44 = .ok (.iaload, 1) := by decide +kernel
theorem dX10_written_45 : decode cX10_written 45 = .ok (.invokevirtual 292, 3) := by decide +kernel
theorem dX10_written_48 : decode cX10_written 48 = .ok (.lstore 4, 2) := by decide +kernel
theorem dX10_written_50 : decode cX10_written 50 = .ok (.aload_n 0, 1) := by decide +kernel
theorem dX10_written_51 : decode cX10_written 51 = .ok (.getfield 64, 3) := by decide +kernel
theorem dX10_written_54 : decode cX10_written 54 = .ok (.iload_n 1, 1) := by decide +kernel
theorem dX10_written_55 : decode cX10_written 55 = .ok (.iaload, 1) := by decide +kernel
theorem dX10_written_56 : decode cX10_written 56 = .ok (.iconst 2, 1) := by decide +kernel
theorem dX10_written_57 : decode cX10_written 57 = .ok (.if_icmp .eq 13, 3) := by decide +kernel
theorem dX10_written_60 : decode cX10_written 60 = .ok (.aload_n 0, 1) := by decide +kernel
theorem dX10_written_61 : decode cX10_written 61 = .ok (.getfield 64, 3) := by decide +kernel
theorem dX10_written_64 : decode cX10_written 64 = .ok (.iload_n 1, 1) := by decide +kernel
theorem dX10_written_65 : decode cX10_written 65 = .ok (.iaload, 1) := by decide +kernel
theorem dX10_written_66 : decode cX10_written 66 = .ok (.iconst 3, 1) := by decide +kernel
theorem dX10_written_67 : decode cX10_written 67 = .ok (.if_icmp .ne 10, 3) := by decide +kernel
theorem dX10_written_70 : decode cX10_written 70 = .ok (.lload 4, 2) := by decide +kernel
theorem dX10_written_72 : decode cX10_written 72 = .ok (.lload_n 2, 1) := by decide +kernel
theorem dX10_written_73 : decode cX10_written 73 = .ok (.lsub, 1) := by decide +kernel
theorem dX10_written_74 : decode cX10_written 74 = .ok (.goto 5, 3) := by decide +kernel
theorem dX10_written_77 : decode cX10_written 77 = .ok (.lload 4, 2) := by decide +kernel
theorem dX10_written_79 : decode cX10_written 79 = .ok (.lreturn, 1) := by decide +kernel
theorem dX10_fits_0 : decode cX10_fits 0 = .ok (.aload_n 0, 1) := by decide +kernel
theorem dX10_fits_1 : decode cX10_fits 1 = .ok (.iload_n 1, 1) := by decide +kernel
theorem dX10_fits_2 : decode cX10_fits 2 = .ok (.invokevirtual 295, 3) := by decide +kernel
theorem dX10_fits_5 : decode cX10_fits 5 = .ok (.lstore_n 2, 1) := by decide +kernel
theorem dX10_fits_6 : decode cX10_fits 6 = .ok (.aload_n 0, 1) := by decide +kernel
theorem dX10_fits_7 : decode cX10_fits 7 = .ok (.getfield 64, 3) := by decide +kernel
theorem dX10_fits_10 : decode cX10_fits 10 = .ok (.iload_n 1, 1) := by decide +kernel
theorem dX10_fits_11 : decode cX10_fits 11 = .ok (.iaload, 1) := by decide +kernel
theorem dX10_fits_12 : decode cX10_fits 12 = .ok (.tableswitch 67 0 3 #[32, 41, 50, 61], 32) := by decide +kernel
theorem dX10_fits_44 : decode cX10_fits 44 = .ok (.lload_n 2, 1) := by decide +kernel
theorem dX10_fits_45 : decode cX10_fits 45 = .ok (.lconst 0, 1) := by decide +kernel
theorem dX10_fits_46 : decode cX10_fits 46 = .ok (.ldc2_w 298, 3) := by decide +kernel
theorem dX10_fits_49 : decode cX10_fits 49 = .ok (.invokestatic 155, 3) := by decide +kernel
theorem dX10_fits_52 : decode cX10_fits 52 = .ok (.ireturn, 1) := by decide +kernel
theorem dX10_fits_53 : decode cX10_fits 53 = .ok (.lload_n 2, 1) := by decide +kernel
theorem dX10_fits_54 : decode cX10_fits 54 = .ok (.lconst 0, 1) := by decide +kernel
theorem dX10_fits_55 : decode cX10_fits 55 = .ok (.ldc2_w 300, 3) := by decide +kernel
theorem dX10_fits_58 : decode cX10_fits 58 = .ok (.invokestatic 155, 3) := by decide +kernel
theorem dX10_fits_61 : decode cX10_fits 61 = .ok (.ireturn, 1) := by decide +kernel
theorem dX10_fits_62 : decode cX10_fits 62 = .ok (.lload_n 2, 1) := by decide +kernel
theorem dX10_fits_63 : decode cX10_fits 63 = .ok (.ldc2_w 302, 3) := by decide +kernel
theorem dX10_fits_66 : decode cX10_fits 66 = .ok (.ldc2_w 304, 3) := by decide +kernel
theorem dX10_fits_69 : decode cX10_fits 69 = .ok (.invokestatic 155, 3) := by decide +kernel
theorem dX10_fits_72 : decode cX10_fits 72 = .ok (.ireturn, 1) := by decide +kernel
theorem dX10_fits_73 : decode cX10_fits 73 = .ok (.aload_n 0, 1) := by decide +kernel
theorem dX10_fits_74 : decode cX10_fits 74 = .ok (.lload_n 2, 1) := by decide +kernel
theorem dX10_fits_75 : decode cX10_fits 75 = .ok (.invokevirtual 262, 3) := by decide +kernel
theorem dX10_fits_78 : decode cX10_fits 78 = .ok (.ireturn, 1) := by decide +kernel
theorem dX10_fits_79 : decode cX10_fits 79 = .ok (.lload_n 2, 1) := by decide +kernel
theorem dX10_fits_80 : decode cX10_fits 80 = .ok (.ldc2_w 306, 3) := by decide +kernel
theorem dX10_fits_83 : decode cX10_fits 83 = .ok (.ldc2_w 308, 3) := by decide +kernel
theorem dX10_fits_86 : decode cX10_fits 86 = .ok (.invokestatic 155, 3) := by decide +kernel
theorem dX10_fits_89 : decode cX10_fits 89 = .ok (.ireturn, 1) := by decide +kernel
theorem dX10_fault_0 : decode cX10_fault 0 = .ok (.aload_n 0, 1) := by decide +kernel
theorem dX10_fault_1 : decode cX10_fault 1 = .ok (.getfield 82, 3) := by decide +kernel
theorem dX10_fault_4 : decode cX10_fault 4 = .ok (.ireturn, 1) := by decide +kernel
theorem dX10_kept_0 : decode cX10_kept 0 = .ok (.iload_n 1, 1) := by decide +kernel
theorem dX10_kept_1 : decode cX10_kept 1 = .ok (.i2l, 1) := by decide +kernel
theorem dX10_kept_2 : decode cX10_kept 2 = .ok (.lconst 0, 1) := by decide +kernel
theorem dX10_kept_3 : decode cX10_kept 3 = .ok (.aload_n 0, 1) := by decide +kernel
theorem dX10_kept_4 : decode cX10_kept 4 = .ok (.getfield 165, 3) := by decide +kernel
theorem dX10_kept_7 : decode cX10_kept 7 = .ok (.iconst 1, 1) := by decide +kernel
theorem dX10_kept_8 : decode cX10_kept 8 = .ok (.isub, 1) := by decide +kernel
theorem dX10_kept_9 : decode cX10_kept 9 = .ok (.i2l, 1) := by decide +kernel
theorem dX10_kept_10 : decode cX10_kept 10 = .ok (.invokestatic 155, 3) := by decide +kernel
theorem dX10_kept_13 : decode cX10_kept 13 = .ok (.ifCond .ne 6, 3) := by decide +kernel
theorem dX10_kept_16 : decode cX10_kept 16 = .ok (.bipush (-101), 2) := by decide +kernel
theorem dX10_kept_18 : decode cX10_kept 18 = .ok (.ireturn, 1) := by decide +kernel
theorem dX10_kept_19 : decode cX10_kept 19 = .ok (.iload_n 2, 1) := by decide +kernel
theorem dX10_kept_20 : decode cX10_kept 20 = .ok (.i2l, 1) := by decide +kernel
theorem dX10_kept_21 : decode cX10_kept 21 = .ok (.lconst 0, 1) := by decide +kernel
theorem dX10_kept_22 : decode cX10_kept 22 = .ok (.ldc2_w 189, 3) := by decide +kernel
theorem dX10_kept_25 : decode cX10_kept 25 = .ok (.invokestatic 155, 3) := by decide +kernel
theorem dX10_kept_28 : decode cX10_kept 28 = .ok (.ifCond .ne 6, 3) := by decide +kernel
theorem dX10_kept_31 : decode cX10_kept 31 = .ok (.bipush (-102), 2) := by decide +kernel
theorem dX10_kept_33 : decode cX10_kept 33 = .ok (.ireturn, 1) := by decide +kernel
theorem dX10_kept_34 : decode cX10_kept 34 = .ok (.aload_n 0, 1) := by decide +kernel
theorem dX10_kept_35 : decode cX10_kept 35 = .ok (.getfield 139, 3) := by decide +kernel
theorem dX10_kept_38 : decode cX10_kept 38 = .ok (.ifCond .eq 11, 3) := by decide +kernel
theorem dX10_kept_41 : decode cX10_kept 41 = .ok (.aload_n 0, 1) := by decide +kernel
theorem dX10_kept_42 : decode cX10_kept 42 = .ok (.getfield 146, 3) := by decide +kernel
theorem dX10_kept_45 : decode cX10_kept 45 = .ok (.iconst 1, 1) := by decide +kernel
theorem dX10_kept_46 : decode cX10_kept 46 = .ok (.if_icmp .ne 6, 3) := by decide +kernel
theorem dX10_kept_49 : decode cX10_kept 49 = .ok (.bipush (-103), 2) := by decide +kernel
theorem dX10_kept_51 : decode cX10_kept 51 = .ok (.ireturn, 1) := by decide +kernel
theorem dX10_kept_52 : decode cX10_kept 52 = .ok (.iload_n 2, 1) := by decide +kernel
theorem dX10_kept_53 : decode cX10_kept 53 = .ok (.ifCond .ne 20, 3) := by decide +kernel
theorem dX10_kept_56 : decode cX10_kept 56 = .ok (.aload_n 0, 1) := by decide +kernel
theorem dX10_kept_57 : decode cX10_kept 57 = .ok (.getfield 103, 3) := by decide +kernel
theorem dX10_kept_60 : decode cX10_kept 60 = .ok (.iload_n 1, 1) := by decide +kernel
theorem dX10_kept_61 : decode cX10_kept 61 = .ok (.baload, 1) := by decide +kernel
theorem dX10_kept_62 : decode cX10_kept 62 = .ok (.ifCond .eq 7, 3) := by decide +kernel
theorem dX10_kept_65 : decode cX10_kept 65 = .ok (.iconst 1, 1) := by decide +kernel
theorem dX10_kept_66 : decode cX10_kept 66 = .ok (.goto 63, 3) := by decide +kernel
theorem dX10_kept_69 : decode cX10_kept 69 = .ok (.iconst 0, 1) := by decide +kernel
theorem dX10_kept_70 : decode cX10_kept 70 = .ok (.goto 59, 3) := by decide +kernel
theorem dX10_kept_73 : decode cX10_kept 73 = .ok (.iload_n 2, 1) := by decide +kernel
theorem dX10_kept_74 : decode cX10_kept 74 = .ok (.iconst 1, 1) := by decide +kernel
theorem dX10_kept_75 : decode cX10_kept 75 = .ok (.if_icmp .ne 12, 3) := by decide +kernel
theorem dX10_kept_78 : decode cX10_kept 78 = .ok (.aload_n 0, 1) := by decide +kernel
theorem dX10_kept_79 : decode cX10_kept 79 = .ok (.getfield 106, 3) := by decide +kernel
theorem dX10_kept_82 : decode cX10_kept 82 = .ok (.iload_n 1, 1) := by decide +kernel
theorem dX10_kept_83 : decode cX10_kept 83 = .ok (.iaload, 1) := by decide +kernel
theorem dX10_kept_84 : decode cX10_kept 84 = .ok (.goto 45, 3) := by decide +kernel
theorem dX10_kept_87 : decode cX10_kept 87 = .ok (.iload_n 2, 1) := by decide +kernel
theorem dX10_kept_88 : decode cX10_kept 88 = .ok (.iconst 2, 1) := by decide +kernel
theorem dX10_kept_89 : decode cX10_kept 89 = .ok (.if_icmp .ne 12, 3) := by decide +kernel
theorem dX10_kept_92 : decode cX10_kept 92 = .ok (.aload_n 0, 1) := by decide +kernel
theorem dX10_kept_93 : decode cX10_kept 93 = .ok (.getfield 112, 3) := by decide +kernel
theorem dX10_kept_96 : decode cX10_kept 96 = .ok (.iload_n 1, 1) := by decide +kernel
theorem dX10_kept_97 : decode cX10_kept 97 = .ok (.iaload, 1) := by decide +kernel
theorem dX10_kept_98 : decode cX10_kept 98 = .ok (.goto 31, 3) := by decide +kernel
theorem dX10_kept_101 : decode cX10_kept 101 = .ok (.iload_n 2, 1) := by decide +kernel
theorem dX10_kept_102 : decode cX10_kept 102 = .ok (.iconst 3, 1) := by decide +kernel
theorem dX10_kept_103 : decode cX10_kept 103 = .ok (.if_icmp .ne 20, 3) := by decide +kernel
theorem dX10_kept_106 : decode cX10_kept 106 = .ok (.aload_n 0, 1) := by decide +kernel
theorem dX10_kept_107 : decode cX10_kept 107 = .ok (.getfield 85, 3) := by decide +kernel
theorem dX10_kept_110 : decode cX10_kept 110 = .ok (.iload_n 1, 1) := by decide +kernel
theorem dX10_kept_111 : decode cX10_kept 111 = .ok (.baload, 1) := by decide +kernel
theorem dX10_kept_112 : decode cX10_kept 112 = .ok (.ifCond .eq 7, 3) := by decide +kernel
theorem dX10_kept_115 : decode cX10_kept 115 = .ok (.iconst 1, 1) := by decide +kernel
theorem dX10_kept_116 : decode cX10_kept 116 = .ok (.goto 13, 3) := by decide +kernel
theorem dX10_kept_119 : decode cX10_kept 119 = .ok (.iconst 0, 1) := by decide +kernel
theorem dX10_kept_120 : decode cX10_kept 120 = .ok (.goto 9, 3) := by decide +kernel
theorem dX10_kept_123 : decode cX10_kept 123 = .ok (.aload_n 0, 1) := by decide +kernel
theorem dX10_kept_124 : decode cX10_kept 124 = .ok (.getfield 109, 3) := by decide +kernel
theorem dX10_kept_127 : decode cX10_kept 127 = .ok (.iload_n 1, 1) := by decide +kernel
theorem dX10_kept_128 : decode cX10_kept 128 = .ok (.iaload, 1) := by decide +kernel
theorem dX10_kept_129 : decode cX10_kept 129 = .ok (.ireturn, 1) := by decide +kernel
theorem dX10_place_0 : decode cX10_place 0 = .ok (.aload_n 0, 1) := by decide +kernel
theorem dX10_place_1 : decode cX10_place 1 = .ok (.iload_n 1, 1) := by decide +kernel
theorem dX10_place_2 : decode cX10_place 2 = .ok (.i2l, 1) := by decide +kernel
theorem dX10_place_3 : decode cX10_place 3 = .ok (.lconst 0, 1) := by decide +kernel
theorem dX10_place_4 : decode cX10_place 4 = .ok (.aload_n 0, 1) := by decide +kernel
theorem dX10_place_5 : decode cX10_place 5 = .ok (.getfield 165, 3) := by decide +kernel
theorem dX10_place_8 : decode cX10_place 8 = .ok (.iconst 1, 1) := by decide +kernel
theorem dX10_place_9 : decode cX10_place 9 = .ok (.isub, 1) := by decide +kernel
theorem dX10_place_10 : decode cX10_place 10 = .ok (.i2l, 1) := by decide +kernel
theorem dX10_place_11 : decode cX10_place 11 = .ok (.invokestatic 155, 3) := by decide +kernel
theorem dX10_place_14 : decode cX10_place 14 = .ok (.ifCond .ne 7, 3) := by decide +kernel
theorem dX10_place_17 : decode cX10_place 17 = .ok (.iconst 1, 1) := by decide +kernel
theorem dX10_place_18 : decode cX10_place 18 = .ok (.goto 24, 3) := by decide +kernel
theorem dX10_place_21 : decode cX10_place 21 = .ok (.aload_n 0, 1) := by decide +kernel
theorem dX10_place_22 : decode cX10_place 22 = .ok (.getfield 143, 3) := by decide +kernel
theorem dX10_place_25 : decode cX10_place 25 = .ok (.ifCond .eq 12, 3) := by decide +kernel
theorem dX10_place_28 : decode cX10_place 28 = .ok (.aload_n 0, 1) := by decide +kernel
theorem dX10_place_29 : decode cX10_place 29 = .ok (.getfield 103, 3) := by decide +kernel
theorem dX10_place_32 : decode cX10_place 32 = .ok (.iload_n 1, 1) := by decide +kernel
theorem dX10_place_33 : decode cX10_place 33 = .ok (.baload, 1) := by decide +kernel
theorem dX10_place_34 : decode cX10_place 34 = .ok (.ifCond .ne 7, 3) := by decide +kernel
theorem dX10_place_37 : decode cX10_place 37 = .ok (.iconst 2, 1) := by decide +kernel
theorem dX10_place_38 : decode cX10_place 38 = .ok (.goto 4, 3) := by decide +kernel
theorem dX10_place_41 : decode cX10_place 41 = .ok (.iconst 0, 1) := by decide +kernel
theorem dX10_place_42 : decode cX10_place 42 = .ok (.putfield 1, 3) := by decide +kernel
theorem dX10_place_45 : decode cX10_place 45 = .ok (.aload_n 0, 1) := by decide +kernel
theorem dX10_place_46 : decode cX10_place 46 = .ok (.getfield 1, 3) := by decide +kernel
theorem dX10_place_49 : decode cX10_place 49 = .ok (.ifCond .le 7, 3) := by decide +kernel
theorem dX10_place_52 : decode cX10_place 52 = .ok (.lconst 0, 1) := by decide +kernel
theorem dX10_place_53 : decode cX10_place 53 = .ok (.goto 8, 3) := by decide +kernel
theorem dX10_place_56 : decode cX10_place 56 = .ok (.aload_n 0, 1) := by decide +kernel
theorem dX10_place_57 : decode cX10_place 57 = .ok (.iload_n 1, 1) := by decide +kernel
theorem dX10_place_58 : decode cX10_place 58 = .ok (.invokevirtual 245, 3) := by decide +kernel
theorem dX10_place_61 : decode cX10_place 61 = .ok (.lreturn, 1) := by decide +kernel
theorem dX10_value_0 : decode cX10_value 0 = .ok (.aload_n 0, 1) := by decide +kernel
theorem dX10_value_1 : decode cX10_value 1 = .ok (.iload_n 1, 1) := by decide +kernel
theorem dX10_value_2 : decode cX10_value 2 = .ok (.i2l, 1) := by decide +kernel
theorem dX10_value_3 : decode cX10_value 3 = .ok (.lconst 0, 1) := by decide +kernel
theorem dX10_value_4 : decode cX10_value 4 = .ok (.aload_n 0, 1) := by decide +kernel
theorem dX10_value_5 : decode cX10_value 5 = .ok (.getfield 186, 3) := by decide +kernel
theorem dX10_value_8 : decode cX10_value 8 = .ok (.iconst 1, 1) := by decide +kernel
theorem dX10_value_9 : decode cX10_value 9 = .ok (.isub, 1) := by decide +kernel
theorem dX10_value_10 : decode cX10_value 10 = .ok (.i2l, 1) := by decide +kernel
theorem dX10_value_11 : decode cX10_value 11 = .ok (.invokestatic 155, 3) := by decide +kernel
theorem dX10_value_14 : decode cX10_value 14 = .ok (.ifCond .ne 7, 3) := by decide +kernel
theorem dX10_value_17 : decode cX10_value 17 = .ok (.iconst 1, 1) := by decide +kernel
theorem dX10_value_18 : decode cX10_value 18 = .ok (.goto 39, 3) := by decide +kernel
theorem dX10_value_21 : decode cX10_value 21 = .ok (.aload_n 0, 1) := by decide +kernel
theorem dX10_value_22 : decode cX10_value 22 = .ok (.getfield 143, 3) := by decide +kernel
theorem dX10_value_25 : decode cX10_value 25 = .ok (.ifCond .eq 27, 3) := by decide +kernel
theorem dX10_value_28 : decode cX10_value 28 = .ok (.aload_n 0, 1) := by decide +kernel
theorem dX10_value_29 : decode cX10_value 29 = .ok (.getfield 91, 3) := by decide +kernel
theorem dX10_value_32 : decode cX10_value 32 = .ok (.iload_n 1, 1) := by decide +kernel
theorem dX10_value_33 : decode cX10_value 33 = .ok (.iaload, 1) := by decide +kernel
theorem dX10_value_34 : decode cX10_value 34 = .ok (.iconst 1, 1) := by decide +kernel
theorem dX10_value_35 : decode cX10_value 35 = .ok (.if_icmp .ne 21, 3) := by decide +kernel
theorem dX10_value_38 : decode cX10_value 38 = .ok (.aload_n 0, 1) := by decide +kernel
theorem dX10_value_39 : decode cX10_value 39 = .ok (.getfield 103, 3) := by decide +kernel
theorem dX10_value_42 : decode cX10_value 42 = .ok (.aload_n 0, 1) := by decide +kernel
theorem dX10_value_43 : decode cX10_value 43 = .ok (.getfield 94, 3) := by decide +kernel
theorem dX10_value_46 : decode cX10_value 46 = .ok (.iload_n 1, 1) := by decide +kernel
theorem dX10_value_47 : decode cX10_value 47 = .ok (.iaload, 1) := by decide +kernel
theorem dX10_value_48 : decode cX10_value 48 = .ok (.baload, 1) := by decide +kernel
theorem dX10_value_49 : decode cX10_value 49 = .ok (.ifCond .ne 7, 3) := by decide +kernel
theorem dX10_value_52 : decode cX10_value 52 = .ok (.iconst 2, 1) := by decide +kernel
theorem dX10_value_53 : decode cX10_value 53 = .ok (.goto 4, 3) := by decide +kernel
theorem dX10_value_56 : decode cX10_value 56 = .ok (.iconst 0, 1) := by decide +kernel
theorem dX10_value_57 : decode cX10_value 57 = .ok (.putfield 1, 3) := by decide +kernel
theorem dX10_value_60 : decode cX10_value 60 = .ok (.aload_n 0, 1) := by decide +kernel
theorem dX10_value_61 : decode cX10_value 61 = .ok (.getfield 1, 3) := by decide +kernel
theorem dX10_value_64 : decode cX10_value 64 = .ok (.ifCond .le 7, 3) := by decide +kernel
theorem dX10_value_67 : decode cX10_value 67 = .ok (.lconst 0, 1) := by decide +kernel
theorem dX10_value_68 : decode cX10_value 68 = .ok (.goto 8, 3) := by decide +kernel
theorem dX10_value_71 : decode cX10_value 71 = .ok (.aload_n 0, 1) := by decide +kernel
theorem dX10_value_72 : decode cX10_value 72 = .ok (.iload_n 1, 1) := by decide +kernel
theorem dX10_value_73 : decode cX10_value 73 = .ok (.invokevirtual 249, 3) := by decide +kernel
theorem dX10_value_76 : decode cX10_value 76 = .ok (.lreturn, 1) := by decide +kernel
theorem dX10_octet_0 : decode cX10_octet 0 = .ok (.aload_n 0, 1) := by decide +kernel
theorem dX10_octet_1 : decode cX10_octet 1 = .ok (.getfield 143, 3) := by decide +kernel
theorem dX10_octet_4 : decode cX10_octet 4 = .ok (.ifCond .ne 6, 3) := by decide +kernel
theorem dX10_octet_7 : decode cX10_octet 7 = .ok (.bipush (-103), 2) := by decide +kernel
theorem dX10_octet_9 : decode cX10_octet 9 = .ok (.ireturn, 1) := by decide +kernel
theorem dX10_octet_10 : decode cX10_octet 10 = .ok (.iconst 0, 1) := by decide +kernel
theorem dX10_octet_11 : decode cX10_octet 11 = .ok (.istore_n 3, 1) := by decide +kernel
theorem dX10_octet_12 : decode cX10_octet 12 = .ok (.iload_n 3, 1) := by decide +kernel
theorem dX10_octet_13 : decode cX10_octet 13 = .ok (.aload_n 0, 1) := by decide +kernel
theorem dX10_octet_14 : decode cX10_octet 14 = .ok (.getfield 165, 3) := by decide +kernel
theorem dX10_octet_17 : decode cX10_octet 17 = .ok (.if_icmp .ge 61, 3) := by decide +kernel
theorem dX10_octet_20 : decode cX10_octet 20 = .ok (.aload_n 0, 1) := by decide +kernel
theorem dX10_octet_21 : decode cX10_octet 21 = .ok (.iload_n 3, 1) := by decide +kernel
theorem dX10_octet_22 : decode cX10_octet 22 = .ok (.invokevirtual 235, 3) := by decide +kernel
theorem dX10_octet_25 : decode cX10_octet 25 = .ok (.ifCond .eq 47, 3) := by decide +kernel
theorem dX10_octet_28 : decode cX10_octet 28 = .ok (.lload_n 1, 1) := by decide +kernel
theorem dX10_octet_29 : decode cX10_octet 29 = .ok (.aload_n 0, 1) := by decide +kernel
theorem dX10_octet_30 : decode cX10_octet 30 = .ok (.getfield 121, 3) := by decide +kernel
theorem dX10_octet_33 : decode cX10_octet 33 = .ok (.iload_n 3, 1) := by decide +kernel
theorem dX10_octet_34 : decode cX10_octet 34 = .ok (.laload, 1) := by decide +kernel
theorem dX10_octet_35 : decode cX10_octet 35 = .ok (.aload_n 0, 1) := by decide +kernel
theorem dX10_octet_36 : decode cX10_octet 36 = .ok (.getfield 121, 3) := by decide +kernel
theorem dX10_octet_39 : decode cX10_octet 39 = .ok (.iload_n 3, 1) := by decide +kernel
theorem dX10_octet_40 : decode cX10_octet 40 = .ok (.laload, 1) := by decide +kernel
theorem dX10_octet_41 : decode cX10_octet 41 = .ok (.aload_n 0, 1) := by decide +kernel
theorem dX10_octet_42 : decode cX10_octet 42 = .ok (.getfield 20, 3) := by decide +kernel
theorem dX10_octet_45 : decode cX10_octet 45 = .ok (.iload_n 3, 1) := by decide +kernel
theorem dX10_octet_46 : decode cX10_octet 46 = .ok (.iaload, 1) := by decide +kernel
theorem dX10_octet_47 : decode cX10_octet 47 = .ok (.i2l, 1) := by decide +kernel
theorem dX10_octet_48 : decode cX10_octet 48 = .ok (.ladd, 1) := by decide +kernel
theorem dX10_octet_49 : decode cX10_octet 49 = .ok (.lconst 1, 1) := by decide +kernel
theorem dX10_octet_50 : decode cX10_octet 50 = .ok (.lsub, 1) := by decide +kernel
theorem dX10_octet_51 : decode cX10_octet 51 = .ok (.invokestatic 155, 3) := by decide +kernel
theorem dX10_octet_54 : decode cX10_octet 54 = .ok (.ifCond .eq 18, 3) := by decide +kernel
theorem dX10_octet_57 : decode cX10_octet 57 = .ok (.aload_n 0, 1) := by decide +kernel
theorem dX10_octet_58 : decode cX10_octet 58 = .ok (.iload_n 3, 1) := by decide +kernel
theorem dX10_octet_59 : decode cX10_octet 59 = .ok (.lload_n 1, 1) := by decide +kernel
theorem dX10_octet_60 : decode cX10_octet 60 = .ok (.aload_n 0, 1) := by decide +kernel
theorem dX10_octet_61 : decode cX10_octet 61 = .ok (.getfield 121, 3) := by decide +kernel
theorem dX10_octet_64 : decode cX10_octet 64 = .ok (.iload_n 3, 1) := by decide +kernel
theorem dX10_octet_65 : decode cX10_octet 65 = .ok (.laload, 1) := by decide +kernel
theorem dX10_octet_66 : decode cX10_octet 66 = .ok (.lsub, 1) := by decide +kernel
theorem dX10_octet_67 : decode cX10_octet 67 = .ok (.l2i, 1) := by decide +kernel
theorem dX10_octet_68 : decode cX10_octet 68 = .ok (.invokevirtual 310, 3) := by decide +kernel
theorem dX10_octet_71 : decode cX10_octet 71 = .ok (.ireturn, 1) := by decide +kernel
theorem dX10_octet_72 : decode cX10_octet 72 = .ok (.iinc 3 1, 3) := by decide +kernel
theorem dX10_octet_75 : decode cX10_octet 75 = .ok (.goto (-63), 3) := by decide +kernel
theorem dX10_octet_78 : decode cX10_octet 78 = .ok (.iconst 0, 1) := by decide +kernel
theorem dX10_octet_79 : decode cX10_octet 79 = .ok (.istore_n 3, 1) := by decide +kernel
theorem dX10_octet_80 : decode cX10_octet 80 = .ok (.iload_n 3, 1) := by decide +kernel
theorem dX10_octet_81 : decode cX10_octet 81 = .ok (.aload_n 0, 1) := by decide +kernel
theorem dX10_octet_82 : decode cX10_octet 82 = .ok (.getfield 227, 3) := by decide +kernel
theorem dX10_octet_85 : decode cX10_octet 85 = .ok (.if_icmp .ge 83, 3) := by decide +kernel
theorem dX10_octet_88 : decode cX10_octet 88 = .ok (.aload_n 0, 1) := by decide +kernel
theorem dX10_octet_89 : decode cX10_octet 89 = .ok (.iload_n 3, 1) := by decide +kernel
theorem dX10_octet_90 : decode cX10_octet 90 = .ok (.invokevirtual 292, 3) := by decide +kernel
theorem dX10_octet_93 : decode cX10_octet 93 = .ok (.lstore 4, 2) := by decide +kernel
theorem dX10_octet_95 : decode cX10_octet 95 = .ok (.lload_n 1, 1) := by decide +kernel
theorem dX10_octet_96 : decode cX10_octet 96 = .ok (.lload 4, 2) := by decide +kernel
theorem dX10_octet_98 : decode cX10_octet 98 = .ok (.lload 4, 2) := by decide +kernel
theorem dX10_octet_100 : decode cX10_octet 100 = .ok (.ldc2_w 180, 3) := by decide +kernel
theorem dX10_octet_103 : decode cX10_octet 103 = .ok (.ladd, 1) := by decide +kernel
theorem dX10_octet_104 : decode cX10_octet 104 = .ok (.invokestatic 155, 3) := by decide +kernel
theorem dX10_octet_107 : decode cX10_octet 107 = .ok (.ifCond .eq 55, 3) := by decide +kernel
theorem dX10_octet_110 : decode cX10_octet 110 = .ok (.lload_n 1, 1) := by decide +kernel
theorem dX10_octet_111 : decode cX10_octet 111 = .ok (.lload 4, 2) := by decide +kernel
theorem dX10_octet_113 : decode cX10_octet 113 = .ok (.lsub, 1) := by decide +kernel
theorem dX10_octet_114 : decode cX10_octet 114 = .ok (.l2i, 1) := by decide +kernel
theorem dX10_octet_115 : decode cX10_octet 115 = .ok (.istore 6, 2) := by decide +kernel
theorem dX10_octet_117 : decode cX10_octet 117 = .ok (.iload 6, 2) := by decide +kernel
theorem dX10_octet_119 : decode cX10_octet 119 = .ok (.ifCond .ne 9, 3) := by decide +kernel
theorem dX10_octet_122 : decode cX10_octet 122 = .ok (.sipush 234, 3) := by decide +kernel
theorem dX10_octet_125 : decode cX10_octet 125 = .ok (.goto 36, 3) := by decide +kernel
theorem dX10_octet_128 : decode cX10_octet 128 = .ok (.iload 6, 2) := by decide +kernel
theorem dX10_octet_130 : decode cX10_octet 130 = .ok (.iconst 4, 1) := by decide +kernel
theorem dX10_octet_131 : decode cX10_octet 131 = .ok (.if_icmp .ge 7, 3) := by decide +kernel
theorem dX10_octet_134 : decode cX10_octet 134 = .ok (.iconst 0, 1) := by decide +kernel
theorem dX10_octet_135 : decode cX10_octet 135 = .ok (.goto 26, 3) := by decide +kernel
theorem dX10_octet_138 : decode cX10_octet 138 = .ok (.aload_n 0, 1) := by decide +kernel
theorem dX10_octet_139 : decode cX10_octet 139 = .ok (.aload_n 0, 1) := by decide +kernel
theorem dX10_octet_140 : decode cX10_octet 140 = .ok (.getfield 133, 3) := by decide +kernel
theorem dX10_octet_143 : decode cX10_octet 143 = .ok (.iload_n 3, 1) := by decide +kernel
theorem dX10_octet_144 : decode cX10_octet 144 = .ok (.iaload, 1) := by decide +kernel
theorem dX10_octet_145 : decode cX10_octet 145 = .ok (.invokevirtual 259, 3) := by decide +kernel
theorem dX10_octet_148 : decode cX10_octet 148 = .ok (.bipush 8, 2) := by decide +kernel
theorem dX10_octet_150 : decode cX10_octet 150 = .ok (.iload 6, 2) := by decide +kernel
theorem dX10_octet_152 : decode cX10_octet 152 = .ok (.iconst 4, 1) := by decide +kernel
theorem dX10_octet_153 : decode cX10_octet 153 = .ok (.isub, 1) := by decide +kernel
theorem dX10_octet_154 : decode cX10_octet 154 = .ok (.imul, 1) := by decide +kernel
theorem dX10_octet_155 : decode cX10_octet 155 = .ok (.lshr, 1) := by decide +kernel
theorem dX10_octet_156 : decode cX10_octet 156 = .ok (.l2i, 1) := by decide +kernel
theorem dX10_octet_157 : decode cX10_octet 157 = .ok (.sipush 255, 3) := by decide +kernel
theorem dX10_octet_160 : decode cX10_octet 160 = .ok (.iand, 1) := by decide +kernel
theorem dX10_octet_161 : decode cX10_octet 161 = .ok (.ireturn, 1) := by decide +kernel
theorem dX10_octet_162 : decode cX10_octet 162 = .ok (.iinc 3 1, 3) := by decide +kernel
theorem dX10_octet_165 : decode cX10_octet 165 = .ok (.goto (-85), 3) := by decide +kernel
theorem dX10_octet_168 : decode cX10_octet 168 = .ok (.iconst (-1), 1) := by decide +kernel
theorem dX10_octet_169 : decode cX10_octet 169 = .ok (.ireturn, 1) := by decide +kernel
theorem dX10_byteOf_0 : decode cX10_byteOf 0 = .ok (.aload_n 0, 1) := by decide +kernel
theorem dX10_byteOf_1 : decode cX10_byteOf 1 = .ok (.getfield 17, 3) := by decide +kernel
theorem dX10_byteOf_4 : decode cX10_byteOf 4 = .ok (.iload_n 1, 1) := by decide +kernel
theorem dX10_byteOf_5 : decode cX10_byteOf 5 = .ok (.iaload, 1) := by decide +kernel
theorem dX10_byteOf_6 : decode cX10_byteOf 6 = .ok (.iconst 3, 1) := by decide +kernel
theorem dX10_byteOf_7 : decode cX10_byteOf 7 = .ok (.if_icmp .ne 5, 3) := by decide +kernel
theorem dX10_byteOf_10 : decode cX10_byteOf 10 = .ok (.iconst 0, 1) := by decide +kernel
theorem dX10_byteOf_11 : decode cX10_byteOf 11 = .ok (.ireturn, 1) := by decide +kernel
theorem dX10_byteOf_12 : decode cX10_byteOf 12 = .ok (.aload_n 0, 1) := by decide +kernel
theorem dX10_byteOf_13 : decode cX10_byteOf 13 = .ok (.getfield 40, 3) := by decide +kernel
theorem dX10_byteOf_16 : decode cX10_byteOf 16 = .ok (.aload_n 0, 1) := by decide +kernel
theorem dX10_byteOf_17 : decode cX10_byteOf 17 = .ok (.getfield 26, 3) := by decide +kernel
theorem dX10_byteOf_20 : decode cX10_byteOf 20 = .ok (.iload_n 1, 1) := by decide +kernel
theorem dX10_byteOf_21 : decode cX10_byteOf 21 = .ok (.iaload, 1) := by decide +kernel
theorem dX10_byteOf_22 : decode cX10_byteOf 22 = .ok (.iload_n 2, 1) := by decide +kernel
theorem dX10_byteOf_23 : decode cX10_byteOf 23 = .ok (.iadd, 1) := by decide +kernel
theorem dX10_byteOf_24 : decode cX10_byteOf 24 = .ok (.iaload, 1) := by decide +kernel
theorem dX10_byteOf_25 : decode cX10_byteOf 25 = .ok (.istore_n 3, 1) := by decide +kernel
theorem dX10_byteOf_26 : decode cX10_byteOf 26 = .ok (.iconst 0, 1) := by decide +kernel
theorem dX10_byteOf_27 : decode cX10_byteOf 27 = .ok (.istore 4, 2) := by decide +kernel
theorem dX10_byteOf_29 : decode cX10_byteOf 29 = .ok (.iload 4, 2) := by decide +kernel
theorem dX10_byteOf_31 : decode cX10_byteOf 31 = .ok (.aload_n 0, 1) := by decide +kernel
theorem dX10_byteOf_32 : decode cX10_byteOf 32 = .ok (.getfield 195, 3) := by decide +kernel
theorem dX10_byteOf_35 : decode cX10_byteOf 35 = .ok (.if_icmp .ge 72, 3) := by decide +kernel
theorem dX10_byteOf_38 : decode cX10_byteOf 38 = .ok (.iload_n 2, 1) := by decide +kernel
theorem dX10_byteOf_39 : decode cX10_byteOf 39 = .ok (.aload_n 0, 1) := by decide +kernel
theorem dX10_byteOf_40 : decode cX10_byteOf 40 = .ok (.getfield 61, 3) := by decide +kernel
theorem dX10_byteOf_43 : decode cX10_byteOf 43 = .ok (.iload 4, 2) := by decide +kernel
theorem dX10_byteOf_45 : decode cX10_byteOf 45 = .ok (.iaload, 1) := by decide +kernel
theorem dX10_byteOf_46 : decode cX10_byteOf 46 = .ok (.isub, 1) := by decide +kernel
theorem dX10_byteOf_47 : decode cX10_byteOf 47 = .ok (.istore 5, 2) := by decide +kernel
theorem dX10_byteOf_49 : decode cX10_byteOf 49 = .ok (.aload_n 0, 1) := by decide +kernel
theorem dX10_byteOf_50 : decode cX10_byteOf 50 = .ok (.getfield 58, 3) := by decide +kernel
theorem dX10_byteOf_53 : decode cX10_byteOf 53 = .ok (.iload 4, 2) := by decide +kernel
theorem dX10_byteOf_55 : decode cX10_byteOf 55 = .ok (.iaload, 1) := by decide +kernel
theorem dX10_byteOf_56 : decode cX10_byteOf 56 = .ok (.iload_n 1, 1) := by decide +kernel
theorem dX10_byteOf_57 : decode cX10_byteOf 57 = .ok (.if_icmp .ne 44, 3) := by decide +kernel
theorem dX10_byteOf_60 : decode cX10_byteOf 60 = .ok (.iload 5, 2) := by decide +kernel
theorem dX10_byteOf_62 : decode cX10_byteOf 62 = .ok (.i2l, 1) := by decide +kernel
theorem dX10_byteOf_63 : decode cX10_byteOf 63 = .ok (.lconst 0, 1) := by decide +kernel
theorem dX10_byteOf_64 : decode cX10_byteOf 64 = .ok (.aload_n 0, 1) := by decide +kernel
theorem dX10_byteOf_65 : decode cX10_byteOf 65 = .ok (.getfield 64, 3) := by decide +kernel
theorem dX10_byteOf_68 : decode cX10_byteOf 68 = .ok (.iload 4, 2) := by decide +kernel
theorem dX10_byteOf_70 : decode cX10_byteOf 70 = .ok (.iaload, 1) := by decide +kernel
theorem dX10_byteOf_71 : decode cX10_byteOf 71 = .ok (.invokestatic 191, 3) := by decide +kernel
theorem dX10_byteOf_74 : decode cX10_byteOf 74 = .ok (.iconst 1, 1) := by decide +kernel
theorem dX10_byteOf_75 : decode cX10_byteOf 75 = .ok (.isub, 1) := by decide +kernel
theorem dX10_byteOf_76 : decode cX10_byteOf 76 = .ok (.i2l, 1) := by decide +kernel
theorem dX10_byteOf_77 : decode cX10_byteOf 77 = .ok (.invokestatic 155, 3) := by decide +kernel
theorem dX10_byteOf_80 : decode cX10_byteOf 80 = .ok (.ifCond .eq 21, 3) := by decide +kernel
theorem dX10_byteOf_83 : decode cX10_byteOf 83 = .ok (.aload_n 0, 1) := by decide +kernel
theorem dX10_byteOf_84 : decode cX10_byteOf 84 = .ok (.iload 4, 2) := by decide +kernel
theorem dX10_byteOf_86 : decode cX10_byteOf 86 = .ok (.invokevirtual 295, 3) := by decide +kernel
theorem dX10_byteOf_89 : decode cX10_byteOf 89 = .ok (.bipush 8, 2) := by decide +kernel
theorem dX10_byteOf_91 : decode cX10_byteOf 91 = .ok (.iload 5, 2) := by decide +kernel
theorem dX10_byteOf_93 : decode cX10_byteOf 93 = .ok (.imul, 1) := by decide +kernel
theorem dX10_byteOf_94 : decode cX10_byteOf 94 = .ok (.lshr, 1) := by decide +kernel
theorem dX10_byteOf_95 : decode cX10_byteOf 95 = .ok (.l2i, 1) := by decide +kernel
theorem dX10_byteOf_96 : decode cX10_byteOf 96 = .ok (.sipush 255, 3) := by decide +kernel
theorem dX10_byteOf_99 : decode cX10_byteOf 99 = .ok (.iand, 1) := by decide +kernel
theorem dX10_byteOf_100 : decode cX10_byteOf 100 = .ok (.istore_n 3, 1) := by decide +kernel
theorem dX10_byteOf_101 : decode cX10_byteOf 101 = .ok (.iinc 4 1, 3) := by decide +kernel
theorem dX10_byteOf_104 : decode cX10_byteOf 104 = .ok (.goto (-75), 3) := by decide +kernel
theorem dX10_byteOf_107 : decode cX10_byteOf 107 = .ok (.iload_n 3, 1) := by decide +kernel
theorem dX10_byteOf_108 : decode cX10_byteOf 108 = .ok (.ireturn, 1) := by decide +kernel
theorem dX10_range_0 : decode cX10_range 0 = .ok (.aload_n 0, 1) := by decide +kernel
theorem dX10_range_1 : decode cX10_range 1 = .ok (.iload_n 1, 1) := by decide +kernel
theorem dX10_range_2 : decode cX10_range 2 = .ok (.i2l, 1) := by decide +kernel
theorem dX10_range_3 : decode cX10_range 3 = .ok (.lconst 0, 1) := by decide +kernel
theorem dX10_range_4 : decode cX10_range 4 = .ok (.ldc2_w 159, 3) := by decide +kernel
theorem dX10_range_7 : decode cX10_range 7 = .ok (.invokestatic 155, 3) := by decide +kernel
theorem dX10_range_10 : decode cX10_range 10 = .ok (.ifCond .ne 7, 3) := by decide +kernel
theorem dX10_range_13 : decode cX10_range 13 = .ok (.iconst 1, 1) := by decide +kernel
theorem dX10_range_14 : decode cX10_range 14 = .ok (.goto 15, 3) := by decide +kernel
theorem dX10_range_17 : decode cX10_range 17 = .ok (.aload_n 0, 1) := by decide +kernel
theorem dX10_range_18 : decode cX10_range 18 = .ok (.getfield 143, 3) := by decide +kernel
theorem dX10_range_21 : decode cX10_range 21 = .ok (.ifCond .ne 7, 3) := by decide +kernel
theorem dX10_range_24 : decode cX10_range 24 = .ok (.iconst 2, 1) := by decide +kernel
theorem dX10_range_25 : decode cX10_range 25 = .ok (.goto 4, 3) := by decide +kernel
theorem dX10_range_28 : decode cX10_range 28 = .ok (.iconst 0, 1) := by decide +kernel
theorem dX10_range_29 : decode cX10_range 29 = .ok (.putfield 1, 3) := by decide +kernel
theorem dX10_range_32 : decode cX10_range 32 = .ok (.aload_n 0, 1) := by decide +kernel
theorem dX10_range_33 : decode cX10_range 33 = .ok (.getfield 1, 3) := by decide +kernel
theorem dX10_range_36 : decode cX10_range 36 = .ok (.ifCond .le 7, 3) := by decide +kernel
theorem dX10_range_39 : decode cX10_range 39 = .ok (.lconst 0, 1) := by decide +kernel
theorem dX10_range_40 : decode cX10_range 40 = .ok (.goto 22, 3) := by decide +kernel
theorem dX10_range_43 : decode cX10_range 43 = .ok (.iload_n 2, 1) := by decide +kernel
theorem dX10_range_44 : decode cX10_range 44 = .ok (.ifCond .eq 12, 3) := by decide +kernel
theorem dX10_range_47 : decode cX10_range 47 = .ok (.aload_n 0, 1) := by decide +kernel
theorem dX10_range_48 : decode cX10_range 48 = .ok (.getfield 127, 3) := by decide +kernel
theorem dX10_range_51 : decode cX10_range 51 = .ok (.iload_n 1, 1) := by decide +kernel
theorem dX10_range_52 : decode cX10_range 52 = .ok (.laload, 1) := by decide +kernel
theorem dX10_range_53 : decode cX10_range 53 = .ok (.goto 9, 3) := by decide +kernel
theorem dX10_range_56 : decode cX10_range 56 = .ok (.aload_n 0, 1) := by decide +kernel
theorem dX10_range_57 : decode cX10_range 57 = .ok (.getfield 124, 3) := by decide +kernel
theorem dX10_range_60 : decode cX10_range 60 = .ok (.iload_n 1, 1) := by decide +kernel
theorem dX10_range_61 : decode cX10_range 61 = .ok (.laload, 1) := by decide +kernel
theorem dX10_range_62 : decode cX10_range 62 = .ok (.lreturn, 1) := by decide +kernel
theorem dX10_veneers_0 : decode cX10_veneers 0 = .ok (.iload_n 1, 1) := by decide +kernel
theorem dX10_veneers_1 : decode cX10_veneers 1 = .ok (.i2l, 1) := by decide +kernel
theorem dX10_veneers_2 : decode cX10_veneers 2 = .ok (.lconst 0, 1) := by decide +kernel
theorem dX10_veneers_3 : decode cX10_veneers 3 = .ok (.aload_n 0, 1) := by decide +kernel
theorem dX10_veneers_4 : decode cX10_veneers 4 = .ok (.getfield 165, 3) := by decide +kernel
theorem dX10_veneers_7 : decode cX10_veneers 7 = .ok (.iconst 1, 1) := by decide +kernel
theorem dX10_veneers_8 : decode cX10_veneers 8 = .ok (.isub, 1) := by decide +kernel
theorem dX10_veneers_9 : decode cX10_veneers 9 = .ok (.i2l, 1) := by decide +kernel
theorem dX10_veneers_10 : decode cX10_veneers 10 = .ok (.invokestatic 155, 3) := by decide +kernel
theorem dX10_veneers_13 : decode cX10_veneers 13 = .ok (.ifCond .ne 8, 3) := by decide +kernel
theorem dX10_veneers_16 : decode cX10_veneers 16 = .ok (.bipush (-101), 2) := by decide +kernel
theorem dX10_veneers_18 : decode cX10_veneers 18 = .ok (.goto 20, 3) := by decide +kernel
theorem dX10_veneers_21 : decode cX10_veneers 21 = .ok (.aload_n 0, 1) := by decide +kernel
theorem dX10_veneers_22 : decode cX10_veneers 22 = .ok (.getfield 143, 3) := by decide +kernel
theorem dX10_veneers_25 : decode cX10_veneers 25 = .ok (.ifCond .eq 11, 3) := by decide +kernel
theorem dX10_veneers_28 : decode cX10_veneers 28 = .ok (.aload_n 0, 1) := by decide +kernel
theorem dX10_veneers_29 : decode cX10_veneers 29 = .ok (.iload_n 1, 1) := by decide +kernel
theorem dX10_veneers_30 : decode cX10_veneers 30 = .ok (.invokevirtual 242, 3) := by decide +kernel
theorem dX10_veneers_33 : decode cX10_veneers 33 = .ok (.goto 5, 3) := by decide +kernel
theorem dX10_veneers_36 : decode cX10_veneers 36 = .ok (.bipush (-103), 2) := by decide +kernel
theorem dX10_veneers_38 : decode cX10_veneers 38 = .ok (.ireturn, 1) := by decide +kernel
theorem dX10_found_0 : decode cX10_found 0 = .ok (.iconst 0, 1) := by decide +kernel
theorem dX10_found_1 : decode cX10_found 1 = .ok (.istore_n 2, 1) := by decide +kernel
theorem dX10_found_2 : decode cX10_found 2 = .ok (.iconst 0, 1) := by decide +kernel
theorem dX10_found_3 : decode cX10_found 3 = .ok (.istore_n 3, 1) := by decide +kernel
theorem dX10_found_4 : decode cX10_found 4 = .ok (.iload_n 3, 1) := by decide +kernel
theorem dX10_found_5 : decode cX10_found 5 = .ok (.aload_n 0, 1) := by decide +kernel
theorem dX10_found_6 : decode cX10_found 6 = .ok (.getfield 165, 3) := by decide +kernel
theorem dX10_found_9 : decode cX10_found 9 = .ok (.if_icmp .ge 58, 3) := by decide +kernel
theorem dX10_found_12 : decode cX10_found 12 = .ok (.aload_n 0, 1) := by decide +kernel
theorem dX10_found_13 : decode cX10_found 13 = .ok (.getfield 139, 3) := by decide +kernel
theorem dX10_found_16 : decode cX10_found 16 = .ok (.ifCond .eq 51, 3) := by decide +kernel
theorem dX10_found_19 : decode cX10_found 19 = .ok (.aload_n 0, 1) := by decide +kernel
theorem dX10_found_20 : decode cX10_found 20 = .ok (.getfield 146, 3) := by decide +kernel
theorem dX10_found_23 : decode cX10_found 23 = .ok (.iconst 1, 1) := by decide +kernel
theorem dX10_found_24 : decode cX10_found 24 = .ok (.if_icmp .eq 43, 3) := by decide +kernel
theorem dX10_found_27 : decode cX10_found 27 = .ok (.iload_n 2, 1) := by decide +kernel
theorem dX10_found_28 : decode cX10_found 28 = .ok (.iload_n 1, 1) := by decide +kernel
theorem dX10_found_29 : decode cX10_found 29 = .ok (.ifCond .eq 16, 3) := by decide +kernel
theorem dX10_found_32 : decode cX10_found 32 = .ok (.aload_n 0, 1) := by decide +kernel
theorem dX10_found_33 : decode cX10_found 33 = .ok (.getfield 112, 3) := by decide +kernel
theorem dX10_found_36 : decode cX10_found 36 = .ok (.iload_n 3, 1) := by decide +kernel
theorem dX10_found_37 : decode cX10_found 37 = .ok (.iaload, 1) := by decide +kernel
theorem dX10_found_38 : decode cX10_found 38 = .ok (.iconst (-1), 1) := by decide +kernel
theorem dX10_found_39 : decode cX10_found 39 = .ok (.if_icmp .eq 19, 3) := by decide +kernel
theorem dX10_found_42 : decode cX10_found 42 = .ok (.goto 12, 3) := by decide +kernel
theorem dX10_found_45 : decode cX10_found 45 = .ok (.aload_n 0, 1) := by decide +kernel
theorem dX10_found_46 : decode cX10_found 46 = .ok (.getfield 103, 3) := by decide +kernel
theorem dX10_found_49 : decode cX10_found 49 = .ok (.iload_n 3, 1) := by decide +kernel
theorem dX10_found_50 : decode cX10_found 50 = .ok (.baload, 1) := by decide +kernel
theorem dX10_found_51 : decode cX10_found 51 = .ok (.ifCond .eq 7, 3) := by decide +kernel
theorem dX10_found_54 : decode cX10_found 54 = .ok (.iconst 1, 1) := by decide +kernel
theorem dX10_found_55 : decode cX10_found 55 = .ok (.goto 4, 3) := by decide +kernel
theorem dX10_found_58 : decode cX10_found 58 = .ok (.iconst 0, 1) := by decide +kernel
theorem dX10_found_59 : decode cX10_found 59 = .ok (.iadd, 1) := by decide +kernel
theorem dX10_found_60 : decode cX10_found 60 = .ok (.istore_n 2, 1) := by decide +kernel
theorem dX10_found_61 : decode cX10_found 61 = .ok (.iinc 3 1, 3) := by decide +kernel
theorem dX10_found_64 : decode cX10_found 64 = .ok (.goto (-60), 3) := by decide +kernel
theorem dX10_found_67 : decode cX10_found 67 = .ok (.iload_n 2, 1) := by decide +kernel
theorem dX10_found_68 : decode cX10_found 68 = .ok (.ireturn, 1) := by decide +kernel
theorem dX10_count_0 : decode cX10_count 0 = .ok (.iload_n 1, 1) := by decide +kernel
theorem dX10_count_1 : decode cX10_count 1 = .ok (.tableswitch 124 0 8 #[51, 56, 61, 66, 71, 76, 76, 92, 108], 51) := by decide +kernel
theorem dX10_count_52 : decode cX10_count 52 = .ok (.aload_n 0, 1) := by decide +kernel
theorem dX10_count_53 : decode cX10_count 53 = .ok (.getfield 149, 3) := by decide +kernel
theorem dX10_count_56 : decode cX10_count 56 = .ok (.ireturn, 1) := by decide +kernel
theorem dX10_count_57 : decode cX10_count 57 = .ok (.aload_n 0, 1) := by decide +kernel
theorem dX10_count_58 : decode cX10_count 58 = .ok (.getfield 165, 3) := by decide +kernel
theorem dX10_count_61 : decode cX10_count 61 = .ok (.ireturn, 1) := by decide +kernel
theorem dX10_count_62 : decode cX10_count 62 = .ok (.aload_n 0, 1) := by decide +kernel
theorem dX10_count_63 : decode cX10_count 63 = .ok (.getfield 186, 3) := by decide +kernel
theorem dX10_count_66 : decode cX10_count 66 = .ok (.ireturn, 1) := by decide +kernel
theorem dX10_count_67 : decode cX10_count 67 = .ok (.aload_n 0, 1) := by decide +kernel
theorem dX10_count_68 : decode cX10_count 68 = .ok (.getfield 195, 3) := by decide +kernel
theorem dX10_count_71 : decode cX10_count 71 = .ok (.ireturn, 1) := by decide +kernel
theorem dX10_count_72 : decode cX10_count 72 = .ok (.aload_n 0, 1) := by decide +kernel
theorem dX10_count_73 : decode cX10_count 73 = .ok (.getfield 198, 3) := by decide +kernel
theorem dX10_count_76 : decode cX10_count 76 = .ok (.ireturn, 1) := by decide +kernel
theorem dX10_count_77 : decode cX10_count 77 = .ok (.aload_n 0, 1) := by decide +kernel
theorem dX10_count_78 : decode cX10_count 78 = .ok (.iload_n 1, 1) := by decide +kernel
theorem dX10_count_79 : decode cX10_count 79 = .ok (.bipush 6, 2) := by decide +kernel
theorem dX10_count_81 : decode cX10_count 81 = .ok (.if_icmp .ne 7, 3) := by decide +kernel
theorem dX10_count_84 : decode cX10_count 84 = .ok (.iconst 1, 1) := by decide +kernel
theorem dX10_count_85 : decode cX10_count 85 = .ok (.goto 4, 3) := by decide +kernel
theorem dX10_count_88 : decode cX10_count 88 = .ok (.iconst 0, 1) := by decide +kernel
theorem dX10_count_89 : decode cX10_count 89 = .ok (.invokevirtual 313, 3) := by decide +kernel
theorem dX10_count_92 : decode cX10_count 92 = .ok (.ireturn, 1) := by decide +kernel
theorem dX10_count_93 : decode cX10_count 93 = .ok (.aload_n 0, 1) := by decide +kernel
theorem dX10_count_94 : decode cX10_count 94 = .ok (.getfield 143, 3) := by decide +kernel
theorem dX10_count_97 : decode cX10_count 97 = .ok (.ifCond .eq 10, 3) := by decide +kernel
theorem dX10_count_100 : decode cX10_count 100 = .ok (.aload_n 0, 1) := by decide +kernel
theorem dX10_count_101 : decode cX10_count 101 = .ok (.getfield 230, 3) := by decide +kernel
theorem dX10_count_104 : decode cX10_count 104 = .ok (.goto 4, 3) := by decide +kernel
theorem dX10_count_107 : decode cX10_count 107 = .ok (.iconst 0, 1) := by decide +kernel
theorem dX10_count_108 : decode cX10_count 108 = .ok (.ireturn, 1) := by decide +kernel
theorem dX10_count_109 : decode cX10_count 109 = .ok (.aload_n 0, 1) := by decide +kernel
theorem dX10_count_110 : decode cX10_count 110 = .ok (.getfield 143, 3) := by decide +kernel
theorem dX10_count_113 : decode cX10_count 113 = .ok (.ifCond .eq 10, 3) := by decide +kernel
theorem dX10_count_116 : decode cX10_count 116 = .ok (.aload_n 0, 1) := by decide +kernel
theorem dX10_count_117 : decode cX10_count 117 = .ok (.getfield 227, 3) := by decide +kernel
theorem dX10_count_120 : decode cX10_count 120 = .ok (.goto 4, 3) := by decide +kernel
theorem dX10_count_123 : decode cX10_count 123 = .ok (.iconst 0, 1) := by decide +kernel
theorem dX10_count_124 : decode cX10_count 124 = .ok (.ireturn, 1) := by decide +kernel
theorem dX10_count_125 : decode cX10_count 125 = .ok (.bipush (-102), 2) := by decide +kernel
theorem dX10_count_127 : decode cX10_count 127 = .ok (.ireturn, 1) := by decide +kernel
theorem dJ9_max_7cf53_0 : decode cJ9_max_7cf53 0 = .ok (.iload_n 0, 1) := by decide +kernel
theorem dJ9_max_7cf53_1 : decode cJ9_max_7cf53 1 = .ok (.iload_n 1, 1) := by decide +kernel
theorem dJ9_max_7cf53_2 : decode cJ9_max_7cf53 2 = .ok (.if_icmp .lt 7, 3) := by decide +kernel
theorem dJ9_max_7cf53_5 : decode cJ9_max_7cf53 5 = .ok (.iload_n 0, 1) := by decide +kernel
theorem dJ9_max_7cf53_6 : decode cJ9_max_7cf53 6 = .ok (.goto 4, 3) := by decide +kernel
theorem dJ9_max_7cf53_9 : decode cJ9_max_7cf53 9 = .ok (.iload_n 1, 1) := by decide +kernel
theorem dJ9_max_7cf53_10 : decode cJ9_max_7cf53 10 = .ok (.ireturn, 1) := by decide +kernel
theorem dJ9_max_f86c9_0 : decode cJ9_max_f86c9 0 = .ok (.lload_n 0, 1) := by decide +kernel
theorem dJ9_max_f86c9_1 : decode cJ9_max_f86c9 1 = .ok (.lload_n 2, 1) := by decide +kernel
theorem dJ9_max_f86c9_2 : decode cJ9_max_f86c9 2 = .ok (.lcmp, 1) := by decide +kernel
theorem dJ9_max_f86c9_3 : decode cJ9_max_f86c9 3 = .ok (.ifCond .lt 7, 3) := by decide +kernel
theorem dJ9_max_f86c9_6 : decode cJ9_max_f86c9 6 = .ok (.lload_n 0, 1) := by decide +kernel
theorem dJ9_max_f86c9_7 : decode cJ9_max_f86c9 7 = .ok (.goto 4, 3) := by decide +kernel
theorem dJ9_max_f86c9_10 : decode cJ9_max_f86c9 10 = .ok (.lload_n 2, 1) := by decide +kernel
theorem dJ9_max_f86c9_11 : decode cJ9_max_f86c9 11 = .ok (.lreturn, 1) := by decide +kernel
theorem dJ9_min_7cf53_0 : decode cJ9_min_7cf53 0 = .ok (.iload_n 0, 1) := by decide +kernel
theorem dJ9_min_7cf53_1 : decode cJ9_min_7cf53 1 = .ok (.iload_n 1, 1) := by decide +kernel
theorem dJ9_min_7cf53_2 : decode cJ9_min_7cf53 2 = .ok (.if_icmp .gt 7, 3) := by decide +kernel
theorem dJ9_min_7cf53_5 : decode cJ9_min_7cf53 5 = .ok (.iload_n 0, 1) := by decide +kernel
theorem dJ9_min_7cf53_6 : decode cJ9_min_7cf53 6 = .ok (.goto 4, 3) := by decide +kernel
theorem dJ9_min_7cf53_9 : decode cJ9_min_7cf53 9 = .ok (.iload_n 1, 1) := by decide +kernel
theorem dJ9_min_7cf53_10 : decode cJ9_min_7cf53 10 = .ok (.ireturn, 1) := by decide +kernel
theorem dJ9_min_f86c9_0 : decode cJ9_min_f86c9 0 = .ok (.lload_n 0, 1) := by decide +kernel
theorem dJ9_min_f86c9_1 : decode cJ9_min_f86c9 1 = .ok (.lload_n 2, 1) := by decide +kernel
theorem dJ9_min_f86c9_2 : decode cJ9_min_f86c9 2 = .ok (.lcmp, 1) := by decide +kernel
theorem dJ9_min_f86c9_3 : decode cJ9_min_f86c9 3 = .ok (.ifCond .gt 7, 3) := by decide +kernel
theorem dJ9_min_f86c9_6 : decode cJ9_min_f86c9 6 = .ok (.lload_n 0, 1) := by decide +kernel
theorem dJ9_min_f86c9_7 : decode cJ9_min_f86c9 7 = .ok (.goto 4, 3) := by decide +kernel
theorem dJ9_min_f86c9_10 : decode cJ9_min_f86c9 10 = .ok (.lload_n 2, 1) := by decide +kernel
theorem dJ9_min_f86c9_11 : decode cJ9_min_f86c9 11 = .ok (.lreturn, 1) := by decide +kernel
theorem dJxa1e45_init_da8c8_0 : decode cJxa1e45_init_da8c8 0 = .ok (.aload_n 0, 1) := by decide +kernel
theorem dJxa1e45_init_da8c8_1 : decode cJxa1e45_init_da8c8 1 = .ok (.invokespecial 1, 3) := by decide +kernel
theorem dJxa1e45_init_da8c8_4 : decode cJxa1e45_init_da8c8 4 = .ok (.return_, 1) := by decide +kernel
theorem dJxc12de_init_da8c8_0 : decode cJxc12de_init_da8c8 0 = .ok (.aload_n 0, 1) := by decide +kernel
theorem dJxc12de_init_da8c8_1 : decode cJxc12de_init_da8c8 1 = .ok (.invokespecial 1, 3) := by decide +kernel
theorem dJxc12de_init_da8c8_4 : decode cJxc12de_init_da8c8 4 = .ok (.aload_n 0, 1) := by decide +kernel
theorem dJxc12de_init_da8c8_5 : decode cJxc12de_init_da8c8 5 = .ok (.iconst 0, 1) := by decide +kernel
theorem dJxc12de_init_da8c8_6 : decode cJxc12de_init_da8c8 6 = .ok (.putfield 7, 3) := by decide +kernel
theorem dJxc12de_init_da8c8_9 : decode cJxc12de_init_da8c8 9 = .ok (.return_, 1) := by decide +kernel
theorem dJx4a65c_init_da8c8_0 : decode cJx4a65c_init_da8c8 0 = .ok (.aload_n 0, 1) := by decide +kernel
theorem dJx4a65c_init_da8c8_1 : decode cJx4a65c_init_da8c8 1 = .ok (.invokespecial 1, 3) := by decide +kernel
theorem dJx4a65c_init_da8c8_4 : decode cJx4a65c_init_da8c8 4 = .ok (.aload_n 0, 1) := by decide +kernel
theorem dJx4a65c_init_da8c8_5 : decode cJx4a65c_init_da8c8 5 = .ok (.getstatic 39, 3) := by decide +kernel
theorem dJx4a65c_init_da8c8_8 : decode cJx4a65c_init_da8c8 8 = .ok (.putfield 9, 3) := by decide +kernel
theorem dJx4a65c_init_da8c8_11 : decode cJx4a65c_init_da8c8 11 = .ok (.return_, 1) := by decide +kernel
theorem dJx4a65c_grow_92f84_0 : decode cJx4a65c_grow_92f84 0 = .ok (.aload_n 0, 1) := by decide +kernel
theorem dJx4a65c_grow_92f84_1 : decode cJx4a65c_grow_92f84 1 = .ok (.getfield 9, 3) := by decide +kernel
theorem dJx4a65c_grow_92f84_4 : decode cJx4a65c_grow_92f84 4 = .ok (.arraylength, 1) := by decide +kernel
theorem dJx4a65c_grow_92f84_5 : decode cJx4a65c_grow_92f84 5 = .ok (.istore_n 2, 1) := by decide +kernel
theorem dJx4a65c_grow_92f84_6 : decode cJx4a65c_grow_92f84 6 = .ok (.iload_n 2, 1) := by decide +kernel
theorem dJx4a65c_grow_92f84_7 : decode cJx4a65c_grow_92f84 7 = .ok (.ifCond .gt 13, 3) := by decide +kernel
theorem dJx4a65c_grow_92f84_10 : decode cJx4a65c_grow_92f84 10 = .ok (.aload_n 0, 1) := by decide +kernel
theorem dJx4a65c_grow_92f84_11 : decode cJx4a65c_grow_92f84 11 = .ok (.getfield 9, 3) := by decide +kernel
theorem dJx4a65c_grow_92f84_14 : decode cJx4a65c_grow_92f84 14 = .ok (.getstatic 39, 3) := by decide +kernel
theorem dJx4a65c_grow_92f84_17 : decode cJx4a65c_grow_92f84 17 = .ok (.if_acmp .eq 28, 3) := by decide +kernel
theorem dJx4a65c_grow_92f84_20 : decode cJx4a65c_grow_92f84 20 = .ok (.iload_n 2, 1) := by decide +kernel
theorem dJx4a65c_grow_92f84_21 : decode cJx4a65c_grow_92f84 21 = .ok (.iload_n 1, 1) := by decide +kernel
theorem dJx4a65c_grow_92f84_22 : decode cJx4a65c_grow_92f84 22 = .ok (.iload_n 2, 1) := by decide +kernel
theorem dJx4a65c_grow_92f84_23 : decode cJx4a65c_grow_92f84 23 = .ok (.isub, 1) := by decide +kernel
theorem dJx4a65c_grow_92f84_24 : decode cJx4a65c_grow_92f84 24 = .ok (.iload_n 2, 1) := by decide +kernel
theorem dJx4a65c_grow_92f84_25 : decode cJx4a65c_grow_92f84 25 = .ok (.iconst 1, 1) := by decide +kernel
theorem dJx4a65c_grow_92f84_26 : decode cJx4a65c_grow_92f84 26 = .ok (.ishr, 1) := by decide +kernel
theorem dJx4a65c_grow_92f84_27 : decode cJx4a65c_grow_92f84 27 = .ok (.invokestatic 73, 3) := by decide +kernel
theorem dJx4a65c_grow_92f84_30 : decode cJx4a65c_grow_92f84 30 = .ok (.istore_n 3, 1) := by decide +kernel
theorem dJx4a65c_grow_92f84_31 : decode cJx4a65c_grow_92f84 31 = .ok (.aload_n 0, 1) := by decide +kernel
theorem dJx4a65c_grow_92f84_32 : decode cJx4a65c_grow_92f84 32 = .ok (.aload_n 0, 1) := by decide +kernel
theorem dJx4a65c_grow_92f84_33 : decode cJx4a65c_grow_92f84 33 = .ok (.getfield 9, 3) := by decide +kernel
theorem dJx4a65c_grow_92f84_36 : decode cJx4a65c_grow_92f84 36 = .ok (.iload_n 3, 1) := by decide +kernel
theorem dJx4a65c_grow_92f84_37 : decode cJx4a65c_grow_92f84 37 = .ok (.invokestatic 66, 3) := by decide +kernel
theorem dJx4a65c_grow_92f84_40 : decode cJx4a65c_grow_92f84 40 = .ok (.dup_x1, 1) := by decide +kernel
theorem dJx4a65c_grow_92f84_41 : decode cJx4a65c_grow_92f84 41 = .ok (.putfield 9, 3) := by decide +kernel
theorem dJx4a65c_grow_92f84_44 : decode cJx4a65c_grow_92f84 44 = .ok (.areturn, 1) := by decide +kernel
theorem dJx4a65c_grow_92f84_45 : decode cJx4a65c_grow_92f84 45 = .ok (.aload_n 0, 1) := by decide +kernel
theorem dJx4a65c_grow_92f84_46 : decode cJx4a65c_grow_92f84 46 = .ok (.bipush 10, 2) := by decide +kernel
theorem dJx4a65c_grow_92f84_48 : decode cJx4a65c_grow_92f84 48 = .ok (.iload_n 1, 1) := by decide +kernel
theorem dJx4a65c_grow_92f84_49 : decode cJx4a65c_grow_92f84 49 = .ok (.invokestatic 79, 3) := by decide +kernel
theorem dJx4a65c_grow_92f84_52 : decode cJx4a65c_grow_92f84 52 = .ok (.anewarray 7, 3) := by decide +kernel
theorem dJx4a65c_grow_92f84_55 : decode cJx4a65c_grow_92f84 55 = .ok (.dup_x1, 1) := by decide +kernel
theorem dJx4a65c_grow_92f84_56 : decode cJx4a65c_grow_92f84 56 = .ok (.putfield 9, 3) := by decide +kernel
theorem dJx4a65c_grow_92f84_59 : decode cJx4a65c_grow_92f84 59 = .ok (.areturn, 1) := by decide +kernel
theorem dJx4a65c_grow_d5877_0 : decode cJx4a65c_grow_d5877 0 = .ok (.aload_n 0, 1) := by decide +kernel
theorem dJx4a65c_grow_d5877_1 : decode cJx4a65c_grow_d5877 1 = .ok (.aload_n 0, 1) := by decide +kernel
theorem dJx4a65c_grow_d5877_2 : decode cJx4a65c_grow_d5877 2 = .ok (.getfield 48, 3) := by decide +kernel
theorem dJx4a65c_grow_d5877_5 : decode cJx4a65c_grow_d5877 5 = .ok (.iconst 1, 1) := by decide +kernel
theorem dJx4a65c_grow_d5877_6 : decode cJx4a65c_grow_d5877 6 = .ok (.iadd, 1) := by decide +kernel
theorem dJx4a65c_grow_d5877_7 : decode cJx4a65c_grow_d5877 7 = .ok (.invokevirtual 69, 3) := by decide +kernel
theorem dJx4a65c_grow_d5877_10 : decode cJx4a65c_grow_d5877 10 = .ok (.areturn, 1) := by decide +kernel
theorem dJx4a65c_size_8abf5_0 : decode cJx4a65c_size_8abf5 0 = .ok (.aload_n 0, 1) := by decide +kernel
theorem dJx4a65c_size_8abf5_1 : decode cJx4a65c_size_8abf5 1 = .ok (.getfield 48, 3) := by decide +kernel
theorem dJx4a65c_size_8abf5_4 : decode cJx4a65c_size_8abf5 4 = .ok (.ireturn, 1) := by decide +kernel
theorem dJx4a65c_elementData_915e3_0 : decode cJx4a65c_elementData_915e3 0 = .ok (.aload_n 0, 1) := by decide +kernel
theorem dJx4a65c_elementData_915e3_1 : decode cJx4a65c_elementData_915e3 1 = .ok (.getfield 9, 3) := by decide +kernel
theorem dJx4a65c_elementData_915e3_4 : decode cJx4a65c_elementData_915e3 4 = .ok (.iload_n 1, 1) := by decide +kernel
theorem dJx4a65c_elementData_915e3_5 : decode cJx4a65c_elementData_915e3 5 = .ok (.aaload, 1) := by decide +kernel
theorem dJx4a65c_elementData_915e3_6 : decode cJx4a65c_elementData_915e3 6 = .ok (.areturn, 1) := by decide +kernel
theorem dJx4a65c_get_915e3_0 : decode cJx4a65c_get_915e3 0 = .ok (.iload_n 1, 1) := by decide +kernel
theorem dJx4a65c_get_915e3_1 : decode cJx4a65c_get_915e3 1 = .ok (.aload_n 0, 1) := by decide +kernel
theorem dJx4a65c_get_915e3_2 : decode cJx4a65c_get_915e3 2 = .ok (.getfield 48, 3) := by decide +kernel
theorem dJx4a65c_get_915e3_5 : decode cJx4a65c_get_915e3 5 = .ok (.invokestatic 118, 3) := by decide +kernel
theorem dJx4a65c_get_915e3_8 : decode cJx4a65c_get_915e3 8 = .ok (.pop, 1) := by decide +kernel
theorem dJx4a65c_get_915e3_9 : decode cJx4a65c_get_915e3 9 = .ok (.aload_n 0, 1) := by decide +kernel
theorem dJx4a65c_get_915e3_10 : decode cJx4a65c_get_915e3 10 = .ok (.iload_n 1, 1) := by decide +kernel
theorem dJx4a65c_get_915e3_11 : decode cJx4a65c_get_915e3 11 = .ok (.invokevirtual 123, 3) := by decide +kernel
theorem dJx4a65c_get_915e3_14 : decode cJx4a65c_get_915e3 14 = .ok (.areturn, 1) := by decide +kernel
theorem dJx4a65c_add_72be8_0 : decode cJx4a65c_add_72be8 0 = .ok (.iload_n 3, 1) := by decide +kernel
theorem dJx4a65c_add_72be8_1 : decode cJx4a65c_add_72be8 1 = .ok (.aload_n 2, 1) := by decide +kernel
theorem dJx4a65c_add_72be8_2 : decode cJx4a65c_add_72be8 2 = .ok (.arraylength, 1) := by decide +kernel
theorem dJx4a65c_add_72be8_3 : decode cJx4a65c_add_72be8 3 = .ok (.if_icmp .ne 8, 3) := by decide +kernel
theorem dJx4a65c_add_72be8_6 : decode cJx4a65c_add_72be8 6 = .ok (.aload_n 0, 1) := by decide +kernel
theorem dJx4a65c_add_72be8_7 : decode cJx4a65c_add_72be8 7 = .ok (.invokevirtual 129, 3) := by decide +kernel
theorem dJx4a65c_add_72be8_10 : decode cJx4a65c_add_72be8 10 = .ok (.astore_n 2, 1) := by decide +kernel
theorem dJx4a65c_add_72be8_11 : decode cJx4a65c_add_72be8 11 = .ok (.aload_n 2, 1) := by decide +kernel
theorem dJx4a65c_add_72be8_12 : decode cJx4a65c_add_72be8 12 = .ok (.iload_n 3, 1) := by decide +kernel
theorem dJx4a65c_add_72be8_13 : decode cJx4a65c_add_72be8 13 = .ok (.aload_n 1, 1) := by decide +kernel
theorem dJx4a65c_add_72be8_14 : decode cJx4a65c_add_72be8 14 = .ok (.aastore, 1) := by decide +kernel
theorem dJx4a65c_add_72be8_15 : decode cJx4a65c_add_72be8 15 = .ok (.aload_n 0, 1) := by decide +kernel
theorem dJx4a65c_add_72be8_16 : decode cJx4a65c_add_72be8 16 = .ok (.iload_n 3, 1) := by decide +kernel
theorem dJx4a65c_add_72be8_17 : decode cJx4a65c_add_72be8 17 = .ok (.iconst 1, 1) := by decide +kernel
theorem dJx4a65c_add_72be8_18 : decode cJx4a65c_add_72be8 18 = .ok (.iadd, 1) := by decide +kernel
theorem dJx4a65c_add_72be8_19 : decode cJx4a65c_add_72be8 19 = .ok (.putfield 48, 3) := by decide +kernel
theorem dJx4a65c_add_72be8_22 : decode cJx4a65c_add_72be8 22 = .ok (.return_, 1) := by decide +kernel
theorem dJx4a65c_add_9ea2d_0 : decode cJx4a65c_add_9ea2d 0 = .ok (.aload_n 0, 1) := by decide +kernel
theorem dJx4a65c_add_9ea2d_1 : decode cJx4a65c_add_9ea2d 1 = .ok (.dup, 1) := by decide +kernel
theorem dJx4a65c_add_9ea2d_2 : decode cJx4a65c_add_9ea2d 2 = .ok (.getfield 63, 3) := by decide +kernel
theorem dJx4a65c_add_9ea2d_5 : decode cJx4a65c_add_9ea2d 5 = .ok (.iconst 1, 1) := by decide +kernel
theorem dJx4a65c_add_9ea2d_6 : decode cJx4a65c_add_9ea2d 6 = .ok (.iadd, 1) := by decide +kernel
theorem dJx4a65c_add_9ea2d_7 : decode cJx4a65c_add_9ea2d 7 = .ok (.putfield 63, 3) := by decide +kernel
theorem dJx4a65c_add_9ea2d_10 : decode cJx4a65c_add_9ea2d 10 = .ok (.aload_n 0, 1) := by decide +kernel
theorem dJx4a65c_add_9ea2d_11 : decode cJx4a65c_add_9ea2d 11 = .ok (.aload_n 1, 1) := by decide +kernel
theorem dJx4a65c_add_9ea2d_12 : decode cJx4a65c_add_9ea2d 12 = .ok (.aload_n 0, 1) := by decide +kernel
theorem dJx4a65c_add_9ea2d_13 : decode cJx4a65c_add_9ea2d 13 = .ok (.getfield 9, 3) := by decide +kernel
theorem dJx4a65c_add_9ea2d_16 : decode cJx4a65c_add_9ea2d 16 = .ok (.aload_n 0, 1) := by decide +kernel
theorem dJx4a65c_add_9ea2d_17 : decode cJx4a65c_add_9ea2d 17 = .ok (.getfield 48, 3) := by decide +kernel
theorem dJx4a65c_add_9ea2d_20 : decode cJx4a65c_add_9ea2d 20 = .ok (.invokevirtual 131, 3) := by decide +kernel
theorem dJx4a65c_add_9ea2d_23 : decode cJx4a65c_add_9ea2d 23 = .ok (.iconst 1, 1) := by decide +kernel
theorem dJx4a65c_add_9ea2d_24 : decode cJx4a65c_add_9ea2d 24 = .ok (.ireturn, 1) := by decide +kernel
theorem dJx4a65c_clear_da8c8_0 : decode cJx4a65c_clear_da8c8 0 = .ok (.aload_n 0, 1) := by decide +kernel
theorem dJx4a65c_clear_da8c8_1 : decode cJx4a65c_clear_da8c8 1 = .ok (.dup, 1) := by decide +kernel
theorem dJx4a65c_clear_da8c8_2 : decode cJx4a65c_clear_da8c8 2 = .ok (.getfield 63, 3) := by decide +kernel
theorem dJx4a65c_clear_da8c8_5 : decode cJx4a65c_clear_da8c8 5 = .ok (.iconst 1, 1) := by decide +kernel
theorem dJx4a65c_clear_da8c8_6 : decode cJx4a65c_clear_da8c8 6 = .ok (.iadd, 1) := by decide +kernel
theorem dJx4a65c_clear_da8c8_7 : decode cJx4a65c_clear_da8c8 7 = .ok (.putfield 63, 3) := by decide +kernel
theorem dJx4a65c_clear_da8c8_10 : decode cJx4a65c_clear_da8c8 10 = .ok (.aload_n 0, 1) := by decide +kernel
theorem dJx4a65c_clear_da8c8_11 : decode cJx4a65c_clear_da8c8 11 = .ok (.getfield 9, 3) := by decide +kernel
theorem dJx4a65c_clear_da8c8_14 : decode cJx4a65c_clear_da8c8 14 = .ok (.astore_n 1, 1) := by decide +kernel
theorem dJx4a65c_clear_da8c8_15 : decode cJx4a65c_clear_da8c8 15 = .ok (.aload_n 0, 1) := by decide +kernel
theorem dJx4a65c_clear_da8c8_16 : decode cJx4a65c_clear_da8c8 16 = .ok (.getfield 48, 3) := by decide +kernel
theorem dJx4a65c_clear_da8c8_19 : decode cJx4a65c_clear_da8c8 19 = .ok (.istore_n 2, 1) := by decide +kernel
theorem dJx4a65c_clear_da8c8_20 : decode cJx4a65c_clear_da8c8 20 = .ok (.aload_n 0, 1) := by decide +kernel
theorem dJx4a65c_clear_da8c8_21 : decode cJx4a65c_clear_da8c8 21 = .ok (.iconst 0, 1) := by decide +kernel
theorem dJx4a65c_clear_da8c8_22 : decode cJx4a65c_clear_da8c8 22 = .ok (.dup_x1, 1) := by decide +kernel
theorem dJx4a65c_clear_da8c8_23 : decode cJx4a65c_clear_da8c8 23 = .ok (.putfield 48, 3) := by decide +kernel
theorem dJx4a65c_clear_da8c8_26 : decode cJx4a65c_clear_da8c8 26 = .ok (.istore_n 3, 1) := by decide +kernel
theorem dJx4a65c_clear_da8c8_27 : decode cJx4a65c_clear_da8c8 27 = .ok (.iload_n 3, 1) := by decide +kernel
theorem dJx4a65c_clear_da8c8_28 : decode cJx4a65c_clear_da8c8 28 = .ok (.iload_n 2, 1) := by decide +kernel
theorem dJx4a65c_clear_da8c8_29 : decode cJx4a65c_clear_da8c8 29 = .ok (.if_icmp .ge 13, 3) := by decide +kernel
theorem dJx4a65c_clear_da8c8_32 : decode cJx4a65c_clear_da8c8 32 = .ok (.aload_n 1, 1) := by decide +kernel
theorem dJx4a65c_clear_da8c8_33 : decode cJx4a65c_clear_da8c8 33 = .ok (.iload_n 3, 1) := by decide +kernel
theorem dJx4a65c_clear_da8c8_34 : decode cJx4a65c_clear_da8c8 34 = .ok (.aconst_null, 1) := by decide +kernel
theorem dJx4a65c_clear_da8c8_35 : decode cJx4a65c_clear_da8c8 35 = .ok (.aastore, 1) := by decide +kernel
theorem dJx4a65c_clear_da8c8_36 : decode cJx4a65c_clear_da8c8 36 = .ok (.iinc 3 1, 3) := by decide +kernel
theorem dJx4a65c_clear_da8c8_39 : decode cJx4a65c_clear_da8c8 39 = .ok (.goto (-12), 3) := by decide +kernel
theorem dJx4a65c_clear_da8c8_42 : decode cJx4a65c_clear_da8c8 42 = .ok (.return_, 1) := by decide +kernel
theorem dJ7_fill_d0a16_0 : decode cJ7_fill_d0a16 0 = .ok (.iconst 0, 1) := by decide +kernel
theorem dJ7_fill_d0a16_1 : decode cJ7_fill_d0a16 1 = .ok (.istore_n 3, 1) := by decide +kernel
theorem dJ7_fill_d0a16_2 : decode cJ7_fill_d0a16 2 = .ok (.aload_n 0, 1) := by decide +kernel
theorem dJ7_fill_d0a16_3 : decode cJ7_fill_d0a16 3 = .ok (.arraylength, 1) := by decide +kernel
theorem dJ7_fill_d0a16_4 : decode cJ7_fill_d0a16 4 = .ok (.istore 4, 2) := by decide +kernel
theorem dJ7_fill_d0a16_6 : decode cJ7_fill_d0a16 6 = .ok (.iload_n 3, 1) := by decide +kernel
theorem dJ7_fill_d0a16_7 : decode cJ7_fill_d0a16 7 = .ok (.iload 4, 2) := by decide +kernel
theorem dJ7_fill_d0a16_9 : decode cJ7_fill_d0a16 9 = .ok (.if_icmp .ge 13, 3) := by decide +kernel
theorem dJ7_fill_d0a16_12 : decode cJ7_fill_d0a16 12 = .ok (.aload_n 0, 1) := by decide +kernel
theorem dJ7_fill_d0a16_13 : decode cJ7_fill_d0a16 13 = .ok (.iload_n 3, 1) := by decide +kernel
theorem dJ7_fill_d0a16_14 : decode cJ7_fill_d0a16 14 = .ok (.lload_n 1, 1) := by decide +kernel
theorem dJ7_fill_d0a16_15 : decode cJ7_fill_d0a16 15 = .ok (.lastore, 1) := by decide +kernel
theorem dJ7_fill_d0a16_16 : decode cJ7_fill_d0a16 16 = .ok (.iinc 3 1, 3) := by decide +kernel
theorem dJ7_fill_d0a16_19 : decode cJ7_fill_d0a16 19 = .ok (.goto (-13), 3) := by decide +kernel
theorem dJ7_fill_d0a16_22 : decode cJ7_fill_d0a16 22 = .ok (.return_, 1) := by decide +kernel
theorem dJ7_fill_53178_0 : decode cJ7_fill_53178 0 = .ok (.iconst 0, 1) := by decide +kernel
theorem dJ7_fill_53178_1 : decode cJ7_fill_53178 1 = .ok (.istore_n 2, 1) := by decide +kernel
theorem dJ7_fill_53178_2 : decode cJ7_fill_53178 2 = .ok (.aload_n 0, 1) := by decide +kernel
theorem dJ7_fill_53178_3 : decode cJ7_fill_53178 3 = .ok (.arraylength, 1) := by decide +kernel
theorem dJ7_fill_53178_4 : decode cJ7_fill_53178 4 = .ok (.istore_n 3, 1) := by decide +kernel
theorem dJ7_fill_53178_5 : decode cJ7_fill_53178 5 = .ok (.iload_n 2, 1) := by decide +kernel
theorem dJ7_fill_53178_6 : decode cJ7_fill_53178 6 = .ok (.iload_n 3, 1) := by decide +kernel
theorem dJ7_fill_53178_7 : decode cJ7_fill_53178 7 = .ok (.if_icmp .ge 13, 3) := by decide +kernel
theorem dJ7_fill_53178_10 : decode cJ7_fill_53178 10 = .ok (.aload_n 0, 1) := by decide +kernel
theorem dJ7_fill_53178_11 : decode cJ7_fill_53178 11 = .ok (.iload_n 2, 1) := by decide +kernel
theorem dJ7_fill_53178_12 : decode cJ7_fill_53178 12 = .ok (.iload_n 1, 1) := by decide +kernel
theorem dJ7_fill_53178_13 : decode cJ7_fill_53178 13 = .ok (.iastore, 1) := by decide +kernel
theorem dJ7_fill_53178_14 : decode cJ7_fill_53178 14 = .ok (.iinc 2 1, 3) := by decide +kernel
theorem dJ7_fill_53178_17 : decode cJ7_fill_53178 17 = .ok (.goto (-12), 3) := by decide +kernel
theorem dJ7_fill_53178_20 : decode cJ7_fill_53178 20 = .ok (.return_, 1) := by decide +kernel
theorem dJ7_copyOf_1904c_0 : decode cJ7_copyOf_1904c 0 = .ok (.aload_n 0, 1) := by decide +kernel
theorem dJ7_copyOf_1904c_1 : decode cJ7_copyOf_1904c 1 = .ok (.iload_n 1, 1) := by decide +kernel
theorem dJ7_copyOf_1904c_2 : decode cJ7_copyOf_1904c 2 = .ok (.aload_n 0, 1) := by decide +kernel
theorem dJ7_copyOf_1904c_3 : decode cJ7_copyOf_1904c 3 = .ok (.invokevirtual 86, 3) := by decide +kernel
theorem dJ7_copyOf_1904c_6 : decode cJ7_copyOf_1904c 6 = .ok (.invokestatic 300, 3) := by decide +kernel
theorem dJ7_copyOf_1904c_9 : decode cJ7_copyOf_1904c 9 = .ok (.areturn, 1) := by decide +kernel
theorem dJ7_copyOf_6403c_0 : decode cJ7_copyOf_6403c 0 = .ok (.aload_n 2, 1) := by decide +kernel
theorem dJ7_copyOf_6403c_1 : decode cJ7_copyOf_6403c 1 = .ok (.ldc 110, 2) := by decide +kernel
theorem dJ7_copyOf_6403c_3 : decode cJ7_copyOf_6403c 3 = .ok (.if_acmp .ne 10, 3) := by decide +kernel
theorem dJ7_copyOf_6403c_6 : decode cJ7_copyOf_6403c 6 = .ok (.iload_n 1, 1) := by decide +kernel
theorem dJ7_copyOf_6403c_7 : decode cJ7_copyOf_6403c 7 = .ok (.anewarray 2, 3) := by decide +kernel
theorem dJ7_copyOf_6403c_10 : decode cJ7_copyOf_6403c 10 = .ok (.goto 14, 3) := by decide +kernel
theorem dJ7_copyOf_6403c_13 : decode cJ7_copyOf_6403c 13 = .ok (.aload_n 2, 1) := by decide +kernel
theorem dJ7_copyOf_6403c_14 : decode cJ7_copyOf_6403c 14 = .ok (.invokevirtual 90, 3) := by decide +kernel
theorem dJ7_copyOf_6403c_17 : decode cJ7_copyOf_6403c 17 = .ok (.iload_n 1, 1) := by decide +kernel
theorem dJ7_copyOf_6403c_18 : decode cJ7_copyOf_6403c 18 = .ok (.invokestatic 95, 3) := by decide +kernel
theorem dJ7_copyOf_6403c_21 : decode cJ7_copyOf_6403c 21 = .ok (.checkcast 110, 3) := by decide +kernel
theorem dJ7_copyOf_6403c_24 : decode cJ7_copyOf_6403c 24 = .ok (.astore_n 3, 1) := by decide +kernel
theorem dJ7_copyOf_6403c_25 : decode cJ7_copyOf_6403c 25 = .ok (.aload_n 0, 1) := by decide +kernel
theorem dJ7_copyOf_6403c_26 : decode cJ7_copyOf_6403c 26 = .ok (.iconst 0, 1) := by decide +kernel
theorem dJ7_copyOf_6403c_27 : decode cJ7_copyOf_6403c 27 = .ok (.aload_n 3, 1) := by decide +kernel
theorem dJ7_copyOf_6403c_28 : decode cJ7_copyOf_6403c 28 = .ok (.iconst 0, 1) := by decide +kernel
theorem dJ7_copyOf_6403c_29 : decode cJ7_copyOf_6403c 29 = .ok (.aload_n 0, 1) := by decide +kernel
theorem dJ7_copyOf_6403c_30 : decode cJ7_copyOf_6403c 30 = .ok (.arraylength, 1) := by decide +kernel
theorem dJ7_copyOf_6403c_31 : decode cJ7_copyOf_6403c 31 = .ok (.iload_n 1, 1) := by decide +kernel
theorem dJ7_copyOf_6403c_32 : decode cJ7_copyOf_6403c 32 = .ok (.invokestatic 304, 3) := by decide +kernel
theorem dJ7_copyOf_6403c_35 : decode cJ7_copyOf_6403c 35 = .ok (.invokestatic 150, 3) := by decide +kernel
theorem dJ7_copyOf_6403c_38 : decode cJ7_copyOf_6403c 38 = .ok (.aload_n 3, 1) := by decide +kernel
theorem dJ7_copyOf_6403c_39 : decode cJ7_copyOf_6403c 39 = .ok (.areturn, 1) := by decide +kernel
theorem dJ15_checkIndex_7cf53_0 : decode cJ15_checkIndex_7cf53 0 = .ok (.iload_n 0, 1) := by decide +kernel
theorem dJ15_checkIndex_7cf53_1 : decode cJ15_checkIndex_7cf53 1 = .ok (.iload_n 1, 1) := by decide +kernel
theorem dJ15_checkIndex_7cf53_2 : decode cJ15_checkIndex_7cf53 2 = .ok (.aconst_null, 1) := by decide +kernel
theorem dJ15_checkIndex_7cf53_3 : decode cJ15_checkIndex_7cf53 3 = .ok (.invokestatic 105, 3) := by decide +kernel
theorem dJ15_checkIndex_7cf53_6 : decode cJ15_checkIndex_7cf53 6 = .ok (.ireturn, 1) := by decide +kernel
theorem dJ8_newLength_cabcc_0 : decode cJ8_newLength_cabcc 0 = .ok (.iload_n 0, 1) := by decide +kernel
theorem dJ8_newLength_cabcc_1 : decode cJ8_newLength_cabcc 1 = .ok (.iload_n 1, 1) := by decide +kernel
theorem dJ8_newLength_cabcc_2 : decode cJ8_newLength_cabcc 2 = .ok (.iload_n 2, 1) := by decide +kernel
theorem dJ8_newLength_cabcc_3 : decode cJ8_newLength_cabcc 3 = .ok (.invokestatic 194, 3) := by decide +kernel
theorem dJ8_newLength_cabcc_6 : decode cJ8_newLength_cabcc 6 = .ok (.iadd, 1) := by decide +kernel
theorem dJ8_newLength_cabcc_7 : decode cJ8_newLength_cabcc 7 = .ok (.istore_n 3, 1) := by decide +kernel
theorem dJ8_newLength_cabcc_8 : decode cJ8_newLength_cabcc 8 = .ok (.iconst 0, 1) := by decide +kernel
theorem dJ8_newLength_cabcc_9 : decode cJ8_newLength_cabcc 9 = .ok (.iload_n 3, 1) := by decide +kernel
theorem dJ8_newLength_cabcc_10 : decode cJ8_newLength_cabcc 10 = .ok (.if_icmp .ge 11, 3) := by decide +kernel
theorem dJ8_newLength_cabcc_13 : decode cJ8_newLength_cabcc 13 = .ok (.iload_n 3, 1) := by decide +kernel
theorem dJ8_newLength_cabcc_14 : decode cJ8_newLength_cabcc 14 = .ok (.ldc 200, 2) := by decide +kernel
theorem dJ8_newLength_cabcc_16 : decode cJ8_newLength_cabcc 16 = .ok (.if_icmp .gt 5, 3) := by decide +kernel
theorem dJ8_newLength_cabcc_19 : decode cJ8_newLength_cabcc 19 = .ok (.iload_n 3, 1) := by decide +kernel
theorem dJ8_newLength_cabcc_20 : decode cJ8_newLength_cabcc 20 = .ok (.ireturn, 1) := by decide +kernel
theorem dJ8_newLength_cabcc_21 : decode cJ8_newLength_cabcc 21 = .ok (.iload_n 0, 1) := by decide +kernel
theorem dJ8_newLength_cabcc_22 : decode cJ8_newLength_cabcc 22 = .ok (.iload_n 1, 1) := by decide +kernel
theorem dJ8_newLength_cabcc_23 : decode cJ8_newLength_cabcc 23 = .ok (.invokestatic 201, 3) := by decide +kernel
theorem dJ8_newLength_cabcc_26 : decode cJ8_newLength_cabcc 26 = .ok (.ireturn, 1) := by decide +kernel
theorem dJ8_hugeLength_7cf53_0 : decode cJ8_hugeLength_7cf53 0 = .ok (.iload_n 0, 1) := by decide +kernel
theorem dJ8_hugeLength_7cf53_1 : decode cJ8_hugeLength_7cf53 1 = .ok (.iload_n 1, 1) := by decide +kernel
theorem dJ8_hugeLength_7cf53_2 : decode cJ8_hugeLength_7cf53 2 = .ok (.iadd, 1) := by decide +kernel
theorem dJ8_hugeLength_7cf53_3 : decode cJ8_hugeLength_7cf53 3 = .ok (.istore_n 2, 1) := by decide +kernel
theorem dJ8_hugeLength_7cf53_4 : decode cJ8_hugeLength_7cf53 4 = .ok (.iload_n 2, 1) := by decide +kernel
theorem dJ8_hugeLength_7cf53_5 : decode cJ8_hugeLength_7cf53 5 = .ok (.ifCond .ge 44, 3) := by decide +kernel
theorem dJ8_hugeLength_7cf53_8 : decode cJ8_hugeLength_7cf53 8 = .ok (.new 204, 3) := by decide +kernel
theorem dJ8_hugeLength_7cf53_11 : decode cJ8_hugeLength_7cf53 11 = .ok (.dup, 1) := by decide +kernel
theorem dJ8_hugeLength_7cf53_12 : decode cJ8_hugeLength_7cf53 12 = .ok (.new 89, 3) := by decide +kernel
theorem dJ8_hugeLength_7cf53_15 : decode cJ8_hugeLength_7cf53 15 = .ok (.dup, 1) := by decide +kernel
theorem dJ8_hugeLength_7cf53_16 : decode cJ8_hugeLength_7cf53 16 = .ok (.invokespecial 91, 3) := by decide +kernel
theorem dJ8_hugeLength_7cf53_19 : decode cJ8_hugeLength_7cf53 19 = .ok (.ldc 206, 2) := by decide +kernel
theorem dJ8_hugeLength_7cf53_21 : decode cJ8_hugeLength_7cf53 21 = .ok (.invokevirtual 94, 3) := by decide +kernel
theorem dJ8_hugeLength_7cf53_24 : decode cJ8_hugeLength_7cf53 24 = .ok (.iload_n 0, 1) := by decide +kernel
theorem dJ8_hugeLength_7cf53_25 : decode cJ8_hugeLength_7cf53 25 = .ok (.invokevirtual 98, 3) := by decide +kernel
theorem dJ8_hugeLength_7cf53_28 : decode cJ8_hugeLength_7cf53 28 = .ok (.ldc 208, 2) := by decide +kernel
theorem dJ8_hugeLength_7cf53_30 : decode cJ8_hugeLength_7cf53 30 = .ok (.invokevirtual 94, 3) := by decide +kernel
theorem dJ8_hugeLength_7cf53_33 : decode cJ8_hugeLength_7cf53 33 = .ok (.iload_n 1, 1) := by decide +kernel
theorem dJ8_hugeLength_7cf53_34 : decode cJ8_hugeLength_7cf53 34 = .ok (.invokevirtual 98, 3) := by decide +kernel
theorem dJ8_hugeLength_7cf53_37 : decode cJ8_hugeLength_7cf53 37 = .ok (.ldc 210, 2) := by decide +kernel
theorem dJ8_hugeLength_7cf53_39 : decode cJ8_hugeLength_7cf53 39 = .ok (.invokevirtual 94, 3) := by decide +kernel
theorem dJ8_hugeLength_7cf53_42 : decode cJ8_hugeLength_7cf53 42 = .ok (.invokevirtual 101, 3) := by decide +kernel
theorem dJ8_hugeLength_7cf53_45 : decode cJ8_hugeLength_7cf53 45 = .ok (.invokespecial 212, 3) := by decide +kernel
theorem dJ8_hugeLength_7cf53_48 : decode cJ8_hugeLength_7cf53 48 = .ok (.athrow, 1) := by decide +kernel
theorem dJ8_hugeLength_7cf53_49 : decode cJ8_hugeLength_7cf53 49 = .ok (.iload_n 2, 1) := by decide +kernel
theorem dJ8_hugeLength_7cf53_50 : decode cJ8_hugeLength_7cf53 50 = .ok (.ldc 200, 2) := by decide +kernel
theorem dJ8_hugeLength_7cf53_52 : decode cJ8_hugeLength_7cf53 52 = .ok (.if_icmp .gt 6, 3) := by decide +kernel
theorem dJ8_hugeLength_7cf53_55 : decode cJ8_hugeLength_7cf53 55 = .ok (.ldc 200, 2) := by decide +kernel
theorem dJ8_hugeLength_7cf53_57 : decode cJ8_hugeLength_7cf53 57 = .ok (.ireturn, 1) := by decide +kernel
theorem dJ8_hugeLength_7cf53_58 : decode cJ8_hugeLength_7cf53 58 = .ok (.iload_n 2, 1) := by decide +kernel
theorem dJ8_hugeLength_7cf53_59 : decode cJ8_hugeLength_7cf53 59 = .ok (.ireturn, 1) := by decide +kernel
theorem dJ3_checkIndex_8e157_0 : decode cJ3_checkIndex_8e157 0 = .ok (.iload_n 0, 1) := by decide +kernel
theorem dJ3_checkIndex_8e157_1 : decode cJ3_checkIndex_8e157 1 = .ok (.ifCond .lt 8, 3) := by decide +kernel
theorem dJ3_checkIndex_8e157_4 : decode cJ3_checkIndex_8e157 4 = .ok (.iload_n 0, 1) := by decide +kernel
theorem dJ3_checkIndex_8e157_5 : decode cJ3_checkIndex_8e157 5 = .ok (.iload_n 1, 1) := by decide +kernel
theorem dJ3_checkIndex_8e157_6 : decode cJ3_checkIndex_8e157 6 = .ok (.if_icmp .lt 10, 3) := by decide +kernel
theorem dJ3_checkIndex_8e157_9 : decode cJ3_checkIndex_8e157 9 = .ok (.aload_n 2, 1) := by decide +kernel
theorem dJ3_checkIndex_8e157_10 : decode cJ3_checkIndex_8e157 10 = .ok (.iload_n 0, 1) := by decide +kernel
theorem dJ3_checkIndex_8e157_11 : decode cJ3_checkIndex_8e157 11 = .ok (.iload_n 1, 1) := by decide +kernel
theorem dJ3_checkIndex_8e157_12 : decode cJ3_checkIndex_8e157 12 = .ok (.invokestatic 95, 3) := by decide +kernel
theorem dJ3_checkIndex_8e157_15 : decode cJ3_checkIndex_8e157 15 = .ok (.athrow, 1) := by decide +kernel
theorem dJ3_checkIndex_8e157_16 : decode cJ3_checkIndex_8e157 16 = .ok (.iload_n 0, 1) := by decide +kernel
theorem dJ3_checkIndex_8e157_17 : decode cJ3_checkIndex_8e157 17 = .ok (.ireturn, 1) := by decide +kernel
theorem dL_place_0 : decode cL_place 0 = .ok (.aload_n 2, 1) := by decide +kernel
theorem dL_place_1 : decode cL_place 1 = .ok (.iconst 0, 1) := by decide +kernel
theorem dL_place_2 : decode cL_place 2 = .ok (.aload_n 0, 1) := by decide +kernel
theorem dL_place_3 : decode cL_place 3 = .ok (.iload_n 1, 1) := by decide +kernel
theorem dL_place_4 : decode cL_place 4 = .ok (.invokevirtual 7, 3) := by decide +kernel
theorem dL_place_7 : decode cL_place 7 = .ok (.lastore, 1) := by decide +kernel
theorem dL_place_8 : decode cL_place 8 = .ok (.goto 9, 3) := by decide +kernel
theorem dL_place_11 : decode cL_place 11 = .ok (.astore_n 3, 1) := by decide +kernel
theorem dL_place_12 : decode cL_place 12 = .ok (.iconst 1, 1) := by decide +kernel
theorem dL_place_13 : decode cL_place 13 = .ok (.ireturn, 1) := by decide +kernel
theorem dL_place_14 : decode cL_place 14 = .ok (.astore_n 3, 1) := by decide +kernel
theorem dL_place_15 : decode cL_place 15 = .ok (.iconst 2, 1) := by decide +kernel
theorem dL_place_16 : decode cL_place 16 = .ok (.ireturn, 1) := by decide +kernel
theorem dL_place_17 : decode cL_place 17 = .ok (.iconst 0, 1) := by decide +kernel
theorem dL_place_18 : decode cL_place 18 = .ok (.ireturn, 1) := by decide +kernel
theorem dL_value_0 : decode cL_value 0 = .ok (.aload_n 2, 1) := by decide +kernel
theorem dL_value_1 : decode cL_value 1 = .ok (.iconst 0, 1) := by decide +kernel
theorem dL_value_2 : decode cL_value 2 = .ok (.aload_n 0, 1) := by decide +kernel
theorem dL_value_3 : decode cL_value 3 = .ok (.iload_n 1, 1) := by decide +kernel
theorem dL_value_4 : decode cL_value 4 = .ok (.invokevirtual 17, 3) := by decide +kernel
theorem dL_value_7 : decode cL_value 7 = .ok (.lastore, 1) := by decide +kernel
theorem dL_value_8 : decode cL_value 8 = .ok (.goto 9, 3) := by decide +kernel
theorem dL_value_11 : decode cL_value 11 = .ok (.astore_n 3, 1) := by decide +kernel
theorem dL_value_12 : decode cL_value 12 = .ok (.iconst 1, 1) := by decide +kernel
theorem dL_value_13 : decode cL_value 13 = .ok (.ireturn, 1) := by decide +kernel
theorem dL_value_14 : decode cL_value 14 = .ok (.astore_n 3, 1) := by decide +kernel
theorem dL_value_15 : decode cL_value 15 = .ok (.iconst 2, 1) := by decide +kernel
theorem dL_value_16 : decode cL_value 16 = .ok (.ireturn, 1) := by decide +kernel
theorem dL_value_17 : decode cL_value 17 = .ok (.iconst 0, 1) := by decide +kernel
theorem dL_value_18 : decode cL_value 18 = .ok (.ireturn, 1) := by decide +kernel
theorem dL_range_0 : decode cL_range 0 = .ok (.aload_n 3, 1) := by decide +kernel
theorem dL_range_1 : decode cL_range 1 = .ok (.iconst 0, 1) := by decide +kernel
theorem dL_range_2 : decode cL_range 2 = .ok (.aload_n 0, 1) := by decide +kernel
theorem dL_range_3 : decode cL_range 3 = .ok (.iload_n 1, 1) := by decide +kernel
theorem dL_range_4 : decode cL_range 4 = .ok (.iload_n 2, 1) := by decide +kernel
theorem dL_range_5 : decode cL_range 5 = .ok (.invokevirtual 20, 3) := by decide +kernel
theorem dL_range_8 : decode cL_range 8 = .ok (.lastore, 1) := by decide +kernel
theorem dL_range_9 : decode cL_range 9 = .ok (.goto 11, 3) := by decide +kernel
theorem dL_range_12 : decode cL_range 12 = .ok (.astore 4, 2) := by decide +kernel
theorem dL_range_14 : decode cL_range 14 = .ok (.iconst 1, 1) := by decide +kernel
theorem dL_range_15 : decode cL_range 15 = .ok (.ireturn, 1) := by decide +kernel
theorem dL_range_16 : decode cL_range 16 = .ok (.astore 4, 2) := by decide +kernel
theorem dL_range_18 : decode cL_range 18 = .ok (.iconst 2, 1) := by decide +kernel
theorem dL_range_19 : decode cL_range 19 = .ok (.ireturn, 1) := by decide +kernel
theorem dL_range_20 : decode cL_range 20 = .ok (.iconst 0, 1) := by decide +kernel
theorem dL_range_21 : decode cL_range 21 = .ok (.ireturn, 1) := by decide +kernel
theorem dL_law_0 : decode cL_law 0 = .ok (.new 8, 3) := by decide +kernel
theorem dL_law_3 : decode cL_law 3 = .ok (.dup, 1) := by decide +kernel
theorem dL_law_4 : decode cL_law 4 = .ok (.invokespecial 24, 3) := by decide +kernel
theorem dL_law_7 : decode cL_law 7 = .ok (.astore_n 1, 1) := by decide +kernel
theorem dL_law_8 : decode cL_law 8 = .ok (.new 25, 3) := by decide +kernel
theorem dL_law_11 : decode cL_law 11 = .ok (.dup, 1) := by decide +kernel
theorem dL_law_12 : decode cL_law 12 = .ok (.invokespecial 27, 3) := by decide +kernel
theorem dL_law_15 : decode cL_law 15 = .ok (.astore_n 2, 1) := by decide +kernel
theorem dL_law_16 : decode cL_law 16 = .ok (.iconst 1, 1) := by decide +kernel
theorem dL_law_17 : decode cL_law 17 = .ok (.newarray .long, 2) := by decide +kernel
theorem dL_law_19 : decode cL_law 19 = .ok (.astore_n 3, 1) := by decide +kernel
theorem dL_law_20 : decode cL_law 20 = .ok (.iconst 0, 1) := by decide +kernel
theorem dL_law_21 : decode cL_law 21 = .ok (.istore 4, 2) := by decide +kernel
theorem dL_law_23 : decode cL_law 23 = .ok (.iload 4, 2) := by decide +kernel
theorem dL_law_25 : decode cL_law 25 = .ok (.aload_n 0, 1) := by decide +kernel
theorem dL_law_26 : decode cL_law 26 = .ok (.arraylength, 1) := by decide +kernel
theorem dL_law_27 : decode cL_law 27 = .ok (.bipush 6, 2) := by decide +kernel
theorem dL_law_29 : decode cL_law 29 = .ok (.isub, 1) := by decide +kernel
theorem dL_law_30 : decode cL_law 30 = .ok (.if_icmp .gt 883, 3) := by decide +kernel
theorem dL_law_33 : decode cL_law 33 = .ok (.aload_n 0, 1) := by decide +kernel
theorem dL_law_34 : decode cL_law 34 = .ok (.iload 4, 2) := by decide +kernel
theorem dL_law_36 : decode cL_law 36 = .ok (.iaload, 1) := by decide +kernel
theorem dL_law_37 : decode cL_law 37 = .ok (.bipush 31, 2) := by decide +kernel
theorem dL_law_39 : decode cL_law 39 = .ok (.iand, 1) := by decide +kernel
theorem dL_law_40 : decode cL_law 40 = .ok (.tableswitch 867 0 16 #[84, 97, 170, 219, 268, 341, 414, 439, 476, 517, 530, 567, 622, 677, 734, 817, 842], 84) := by decide +kernel
theorem dL_law_124 : decode cL_law 124 = .ok (.aload_n 1, 1) := by decide +kernel
theorem dL_law_125 : decode cL_law 125 = .ok (.invokevirtual 28, 3) := by decide +kernel
theorem dL_law_128 : decode cL_law 128 = .ok (.aload_n 2, 1) := by decide +kernel
theorem dL_law_129 : decode cL_law 129 = .ok (.invokevirtual 32, 3) := by decide +kernel
theorem dL_law_132 : decode cL_law 132 = .ok (.if_icmp .eq 775, 3) := by decide +kernel
theorem dL_law_135 : decode cL_law 135 = .ok (.iconst 0, 1) := by decide +kernel
theorem dL_law_136 : decode cL_law 136 = .ok (.ireturn, 1) := by decide +kernel
theorem dL_law_137 : decode cL_law 137 = .ok (.aload_n 1, 1) := by decide +kernel
theorem dL_law_138 : decode cL_law 138 = .ok (.aload_n 0, 1) := by decide +kernel
theorem dL_law_139 : decode cL_law 139 = .ok (.iload 4, 2) := by decide +kernel
theorem dL_law_141 : decode cL_law 141 = .ok (.iconst 1, 1) := by decide +kernel
theorem dL_law_142 : decode cL_law 142 = .ok (.iadd, 1) := by decide +kernel
theorem dL_law_143 : decode cL_law 143 = .ok (.iaload, 1) := by decide +kernel
theorem dL_law_144 : decode cL_law 144 = .ok (.aload_n 0, 1) := by decide +kernel
theorem dL_law_145 : decode cL_law 145 = .ok (.iload 4, 2) := by decide +kernel
theorem dL_law_147 : decode cL_law 147 = .ok (.iconst 2, 1) := by decide +kernel
theorem dL_law_148 : decode cL_law 148 = .ok (.iadd, 1) := by decide +kernel
theorem dL_law_149 : decode cL_law 149 = .ok (.iaload, 1) := by decide +kernel
theorem dL_law_150 : decode cL_law 150 = .ok (.aload_n 0, 1) := by decide +kernel
theorem dL_law_151 : decode cL_law 151 = .ok (.iload 4, 2) := by decide +kernel
theorem dL_law_153 : decode cL_law 153 = .ok (.iconst 3, 1) := by decide +kernel
theorem dL_law_154 : decode cL_law 154 = .ok (.iadd, 1) := by decide +kernel
theorem dL_law_155 : decode cL_law 155 = .ok (.iaload, 1) := by decide +kernel
theorem dL_law_156 : decode cL_law 156 = .ok (.aload_n 0, 1) := by decide +kernel
theorem dL_law_157 : decode cL_law 157 = .ok (.iload 4, 2) := by decide +kernel
theorem dL_law_159 : decode cL_law 159 = .ok (.iconst 4, 1) := by decide +kernel
theorem dL_law_160 : decode cL_law 160 = .ok (.iadd, 1) := by decide +kernel
theorem dL_law_161 : decode cL_law 161 = .ok (.iaload, 1) := by decide +kernel
theorem dL_law_162 : decode cL_law 162 = .ok (.aload_n 0, 1) := by decide +kernel
theorem dL_law_163 : decode cL_law 163 = .ok (.iload 4, 2) := by decide +kernel
theorem dL_law_165 : decode cL_law 165 = .ok (.iconst 5, 1) := by decide +kernel
theorem dL_law_166 : decode cL_law 166 = .ok (.iadd, 1) := by decide +kernel
theorem dL_law_167 : decode cL_law 167 = .ok (.iaload, 1) := by decide +kernel
theorem dL_law_168 : decode cL_law 168 = .ok (.invokevirtual 33, 3) := by decide +kernel
theorem dL_law_171 : decode cL_law 171 = .ok (.aload_n 2, 1) := by decide +kernel
theorem dL_law_172 : decode cL_law 172 = .ok (.aload_n 0, 1) := by decide +kernel
theorem dL_law_173 : decode cL_law 173 = .ok (.iload 4, 2) := by decide +kernel
theorem dL_law_175 : decode cL_law 175 = .ok (.iconst 1, 1) := by decide +kernel
theorem dL_law_176 : decode cL_law 176 = .ok (.iadd, 1) := by decide +kernel
theorem dL_law_177 : decode cL_law 177 = .ok (.iaload, 1) := by decide +kernel
theorem dL_law_178 : decode cL_law 178 = .ok (.aload_n 0, 1) := by decide +kernel
theorem dL_law_179 : decode cL_law 179 = .ok (.iload 4, 2) := by decide +kernel
theorem dL_law_181 : decode cL_law 181 = .ok (.iconst 2, 1) := by decide +kernel
theorem dL_law_182 : decode cL_law 182 = .ok (.iadd, 1) := by decide +kernel
theorem dL_law_183 : decode cL_law 183 = .ok (.iaload, 1) := by decide +kernel
theorem dL_law_184 : decode cL_law 184 = .ok (.aload_n 0, 1) := by decide +kernel
theorem dL_law_185 : decode cL_law 185 = .ok (.iload 4, 2) := by decide +kernel
theorem dL_law_187 : decode cL_law 187 = .ok (.iconst 3, 1) := by decide +kernel
theorem dL_law_188 : decode cL_law 188 = .ok (.iadd, 1) := by decide +kernel
theorem dL_law_189 : decode cL_law 189 = .ok (.iaload, 1) := by decide +kernel
theorem dL_law_190 : decode cL_law 190 = .ok (.aload_n 0, 1) := by decide +kernel
theorem dL_law_191 : decode cL_law 191 = .ok (.iload 4, 2) := by decide +kernel
theorem dL_law_193 : decode cL_law 193 = .ok (.iconst 4, 1) := by decide +kernel
theorem dL_law_194 : decode cL_law 194 = .ok (.iadd, 1) := by decide +kernel
theorem dL_law_195 : decode cL_law 195 = .ok (.iaload, 1) := by decide +kernel
theorem dL_law_196 : decode cL_law 196 = .ok (.aload_n 0, 1) := by decide +kernel
theorem dL_law_197 : decode cL_law 197 = .ok (.iload 4, 2) := by decide +kernel
theorem dL_law_199 : decode cL_law 199 = .ok (.iconst 5, 1) := by decide +kernel
theorem dL_law_200 : decode cL_law 200 = .ok (.iadd, 1) := by decide +kernel
theorem dL_law_201 : decode cL_law 201 = .ok (.iaload, 1) := by decide +kernel
theorem dL_law_202 : decode cL_law 202 = .ok (.invokevirtual 37, 3) := by decide +kernel
theorem dL_law_205 : decode cL_law 205 = .ok (.if_icmp .eq 702, 3) := by decide +kernel
theorem dL_law_208 : decode cL_law 208 = .ok (.iconst 0, 1) := by decide +kernel
theorem dL_law_209 : decode cL_law 209 = .ok (.ireturn, 1) := by decide +kernel
theorem dL_law_210 : decode cL_law 210 = .ok (.aload_n 1, 1) := by decide +kernel
theorem dL_law_211 : decode cL_law 211 = .ok (.aload_n 0, 1) := by decide +kernel
theorem dL_law_212 : decode cL_law 212 = .ok (.iload 4, 2) := by decide +kernel
theorem dL_law_214 : decode cL_law 214 = .ok (.iconst 1, 1) := by decide +kernel
theorem dL_law_215 : decode cL_law 215 = .ok (.iadd, 1) := by decide +kernel
theorem dL_law_216 : decode cL_law 216 = .ok (.iaload, 1) := by decide +kernel
theorem dL_law_217 : decode cL_law 217 = .ok (.aload_n 0, 1) := by decide +kernel
theorem dL_law_218 : decode cL_law 218 = .ok (.iload 4, 2) := by decide +kernel
theorem dL_law_220 : decode cL_law 220 = .ok (.iconst 2, 1) := by decide +kernel
theorem dL_law_221 : decode cL_law 221 = .ok (.iadd, 1) := by decide +kernel
theorem dL_law_222 : decode cL_law 222 = .ok (.iaload, 1) := by decide +kernel
theorem dL_law_223 : decode cL_law 223 = .ok (.aload_n 0, 1) := by decide +kernel
theorem dL_law_224 : decode cL_law 224 = .ok (.iload 4, 2) := by decide +kernel
theorem dL_law_226 : decode cL_law 226 = .ok (.iconst 3, 1) := by decide +kernel
theorem dL_law_227 : decode cL_law 227 = .ok (.iadd, 1) := by decide +kernel
theorem dL_law_228 : decode cL_law 228 = .ok (.iaload, 1) := by decide +kernel
theorem dL_law_229 : decode cL_law 229 = .ok (.invokevirtual 38, 3) := by decide +kernel
theorem dL_law_232 : decode cL_law 232 = .ok (.aload_n 2, 1) := by decide +kernel
theorem dL_law_233 : decode cL_law 233 = .ok (.aload_n 0, 1) := by decide +kernel
theorem dL_law_234 : decode cL_law 234 = .ok (.iload 4, 2) := by decide +kernel
theorem dL_law_236 : decode cL_law 236 = .ok (.iconst 1, 1) := by decide +kernel
theorem dL_law_237 : decode cL_law 237 = .ok (.iadd, 1) := by decide +kernel
theorem dL_law_238 : decode cL_law 238 = .ok (.iaload, 1) := by decide +kernel
theorem dL_law_239 : decode cL_law 239 = .ok (.aload_n 0, 1) := by decide +kernel
theorem dL_law_240 : decode cL_law 240 = .ok (.iload 4, 2) := by decide +kernel
theorem dL_law_242 : decode cL_law 242 = .ok (.iconst 2, 1) := by decide +kernel
theorem dL_law_243 : decode cL_law 243 = .ok (.iadd, 1) := by decide +kernel
theorem dL_law_244 : decode cL_law 244 = .ok (.iaload, 1) := by decide +kernel
theorem dL_law_245 : decode cL_law 245 = .ok (.aload_n 0, 1) := by decide +kernel
theorem dL_law_246 : decode cL_law 246 = .ok (.iload 4, 2) := by decide +kernel
theorem dL_law_248 : decode cL_law 248 = .ok (.iconst 3, 1) := by decide +kernel
theorem dL_law_249 : decode cL_law 249 = .ok (.iadd, 1) := by decide +kernel
theorem dL_law_250 : decode cL_law 250 = .ok (.iaload, 1) := by decide +kernel
theorem dL_law_251 : decode cL_law 251 = .ok (.invokevirtual 42, 3) := by decide +kernel
theorem dL_law_254 : decode cL_law 254 = .ok (.if_icmp .eq 653, 3) := by decide +kernel
theorem dL_law_257 : decode cL_law 257 = .ok (.iconst 0, 1) := by decide +kernel
theorem dL_law_258 : decode cL_law 258 = .ok (.ireturn, 1) := by decide +kernel
theorem dL_law_259 : decode cL_law 259 = .ok (.aload_n 1, 1) := by decide +kernel
theorem dL_law_260 : decode cL_law 260 = .ok (.aload_n 0, 1) := by decide +kernel
theorem dL_law_261 : decode cL_law 261 = .ok (.iload 4, 2) := by decide +kernel
theorem dL_law_263 : decode cL_law 263 = .ok (.iconst 1, 1) := by decide +kernel
theorem dL_law_264 : decode cL_law 264 = .ok (.iadd, 1) := by decide +kernel
theorem dL_law_265 : decode cL_law 265 = .ok (.iaload, 1) := by decide +kernel
theorem dL_law_266 : decode cL_law 266 = .ok (.aload_n 0, 1) := by decide +kernel
theorem dL_law_267 : decode cL_law 267 = .ok (.iload 4, 2) := by decide +kernel
theorem dL_law_269 : decode cL_law 269 = .ok (.iconst 2, 1) := by decide +kernel
theorem dL_law_270 : decode cL_law 270 = .ok (.iadd, 1) := by decide +kernel
theorem dL_law_271 : decode cL_law 271 = .ok (.iaload, 1) := by decide +kernel
theorem dL_law_272 : decode cL_law 272 = .ok (.aload_n 0, 1) := by decide +kernel
theorem dL_law_273 : decode cL_law 273 = .ok (.iload 4, 2) := by decide +kernel
theorem dL_law_275 : decode cL_law 275 = .ok (.iconst 3, 1) := by decide +kernel
theorem dL_law_276 : decode cL_law 276 = .ok (.iadd, 1) := by decide +kernel
theorem dL_law_277 : decode cL_law 277 = .ok (.iaload, 1) := by decide +kernel
theorem dL_law_278 : decode cL_law 278 = .ok (.invokevirtual 43, 3) := by decide +kernel
theorem dL_law_281 : decode cL_law 281 = .ok (.aload_n 2, 1) := by decide +kernel
theorem dL_law_282 : decode cL_law 282 = .ok (.aload_n 0, 1) := by decide +kernel
theorem dL_law_283 : decode cL_law 283 = .ok (.iload 4, 2) := by decide +kernel
theorem dL_law_285 : decode cL_law 285 = .ok (.iconst 1, 1) := by decide +kernel
theorem dL_law_286 : decode cL_law 286 = .ok (.iadd, 1) := by decide +kernel
theorem dL_law_287 : decode cL_law 287 = .ok (.iaload, 1) := by decide +kernel
theorem dL_law_288 : decode cL_law 288 = .ok (.aload_n 0, 1) := by decide +kernel
theorem dL_law_289 : decode cL_law 289 = .ok (.iload 4, 2) := by decide +kernel
theorem dL_law_291 : decode cL_law 291 = .ok (.iconst 2, 1) := by decide +kernel
theorem dL_law_292 : decode cL_law 292 = .ok (.iadd, 1) := by decide +kernel
theorem dL_law_293 : decode cL_law 293 = .ok (.iaload, 1) := by decide +kernel
theorem dL_law_294 : decode cL_law 294 = .ok (.aload_n 0, 1) := by decide +kernel
theorem dL_law_295 : decode cL_law 295 = .ok (.iload 4, 2) := by decide +kernel
theorem dL_law_297 : decode cL_law 297 = .ok (.iconst 3, 1) := by decide +kernel
theorem dL_law_298 : decode cL_law 298 = .ok (.iadd, 1) := by decide +kernel
theorem dL_law_299 : decode cL_law 299 = .ok (.iaload, 1) := by decide +kernel
theorem dL_law_300 : decode cL_law 300 = .ok (.invokevirtual 46, 3) := by decide +kernel
theorem dL_law_303 : decode cL_law 303 = .ok (.if_icmp .eq 604, 3) := by decide +kernel
theorem dL_law_306 : decode cL_law 306 = .ok (.iconst 0, 1) := by decide +kernel
theorem dL_law_307 : decode cL_law 307 = .ok (.ireturn, 1) := by decide +kernel
theorem dL_law_308 : decode cL_law 308 = .ok (.aload_n 1, 1) := by decide +kernel
theorem dL_law_309 : decode cL_law 309 = .ok (.aload_n 0, 1) := by decide +kernel
theorem dL_law_310 : decode cL_law 310 = .ok (.iload 4, 2) := by decide +kernel
theorem dL_law_312 : decode cL_law 312 = .ok (.iconst 1, 1) := by decide +kernel
theorem dL_law_313 : decode cL_law 313 = .ok (.iadd, 1) := by decide +kernel
theorem dL_law_314 : decode cL_law 314 = .ok (.iaload, 1) := by decide +kernel
theorem dL_law_315 : decode cL_law 315 = .ok (.aload_n 0, 1) := by decide +kernel
theorem dL_law_316 : decode cL_law 316 = .ok (.iload 4, 2) := by decide +kernel
theorem dL_law_318 : decode cL_law 318 = .ok (.iconst 2, 1) := by decide +kernel
theorem dL_law_319 : decode cL_law 319 = .ok (.iadd, 1) := by decide +kernel
theorem dL_law_320 : decode cL_law 320 = .ok (.iaload, 1) := by decide +kernel
theorem dL_law_321 : decode cL_law 321 = .ok (.aload_n 0, 1) := by decide +kernel
theorem dL_law_322 : decode cL_law 322 = .ok (.iload 4, 2) := by decide +kernel
theorem dL_law_324 : decode cL_law 324 = .ok (.iconst 3, 1) := by decide +kernel
theorem dL_law_325 : decode cL_law 325 = .ok (.iadd, 1) := by decide +kernel
theorem dL_law_326 : decode cL_law 326 = .ok (.iaload, 1) := by decide +kernel
theorem dL_law_327 : decode cL_law 327 = .ok (.aload_n 0, 1) := by decide +kernel
theorem dL_law_328 : decode cL_law 328 = .ok (.iload 4, 2) := by decide +kernel
theorem dL_law_330 : decode cL_law 330 = .ok (.iconst 4, 1) := by decide +kernel
theorem dL_law_331 : decode cL_law 331 = .ok (.iadd, 1) := by decide +kernel
theorem dL_law_332 : decode cL_law 332 = .ok (.iaload, 1) := by decide +kernel
theorem dL_law_333 : decode cL_law 333 = .ok (.aload_n 0, 1) := by decide +kernel
theorem dL_law_334 : decode cL_law 334 = .ok (.iload 4, 2) := by decide +kernel
theorem dL_law_336 : decode cL_law 336 = .ok (.iconst 5, 1) := by decide +kernel
theorem dL_law_337 : decode cL_law 337 = .ok (.iadd, 1) := by decide +kernel
theorem dL_law_338 : decode cL_law 338 = .ok (.iaload, 1) := by decide +kernel
theorem dL_law_339 : decode cL_law 339 = .ok (.invokevirtual 47, 3) := by decide +kernel
theorem dL_law_342 : decode cL_law 342 = .ok (.aload_n 2, 1) := by decide +kernel
theorem dL_law_343 : decode cL_law 343 = .ok (.aload_n 0, 1) := by decide +kernel
theorem dL_law_344 : decode cL_law 344 = .ok (.iload 4, 2) := by decide +kernel
theorem dL_law_346 : decode cL_law 346 = .ok (.iconst 1, 1) := by decide +kernel
theorem dL_law_347 : decode cL_law 347 = .ok (.iadd, 1) := by decide +kernel
theorem dL_law_348 : decode cL_law 348 = .ok (.iaload, 1) := by decide +kernel
theorem dL_law_349 : decode cL_law 349 = .ok (.aload_n 0, 1) := by decide +kernel
theorem dL_law_350 : decode cL_law 350 = .ok (.iload 4, 2) := by decide +kernel
theorem dL_law_352 : decode cL_law 352 = .ok (.iconst 2, 1) := by decide +kernel
theorem dL_law_353 : decode cL_law 353 = .ok (.iadd, 1) := by decide +kernel
theorem dL_law_354 : decode cL_law 354 = .ok (.iaload, 1) := by decide +kernel
theorem dL_law_355 : decode cL_law 355 = .ok (.aload_n 0, 1) := by decide +kernel
theorem dL_law_356 : decode cL_law 356 = .ok (.iload 4, 2) := by decide +kernel
theorem dL_law_358 : decode cL_law 358 = .ok (.iconst 3, 1) := by decide +kernel
theorem dL_law_359 : decode cL_law 359 = .ok (.iadd, 1) := by decide +kernel
theorem dL_law_360 : decode cL_law 360 = .ok (.iaload, 1) := by decide +kernel
theorem dL_law_361 : decode cL_law 361 = .ok (.aload_n 0, 1) := by decide +kernel
theorem dL_law_362 : decode cL_law 362 = .ok (.iload 4, 2) := by decide +kernel
theorem dL_law_364 : decode cL_law 364 = .ok (.iconst 4, 1) := by decide +kernel
theorem dL_law_365 : decode cL_law 365 = .ok (.iadd, 1) := by decide +kernel
theorem dL_law_366 : decode cL_law 366 = .ok (.iaload, 1) := by decide +kernel
theorem dL_law_367 : decode cL_law 367 = .ok (.aload_n 0, 1) := by decide +kernel
theorem dL_law_368 : decode cL_law 368 = .ok (.iload 4, 2) := by decide +kernel
theorem dL_law_370 : decode cL_law 370 = .ok (.iconst 5, 1) := by decide +kernel
theorem dL_law_371 : decode cL_law 371 = .ok (.iadd, 1) := by decide +kernel
theorem dL_law_372 : decode cL_law 372 = .ok (.iaload, 1) := by decide +kernel
theorem dL_law_373 : decode cL_law 373 = .ok (.invokevirtual 50, 3) := by decide +kernel
theorem dL_law_376 : decode cL_law 376 = .ok (.if_icmp .eq 531, 3) := by decide +kernel
theorem dL_law_379 : decode cL_law 379 = .ok (.iconst 0, 1) := by decide +kernel
theorem dL_law_380 : decode cL_law 380 = .ok (.ireturn, 1) := by decide +kernel
theorem dL_law_381 : decode cL_law 381 = .ok (.aload_n 1, 1) := by decide +kernel
theorem dL_law_382 : decode cL_law 382 = .ok (.aload_n 0, 1) := by decide +kernel
theorem dL_law_383 : decode cL_law 383 = .ok (.iload 4, 2) := by decide +kernel
theorem dL_law_385 : decode cL_law 385 = .ok (.iconst 1, 1) := by decide +kernel
theorem dL_law_386 : decode cL_law 386 = .ok (.iadd, 1) := by decide +kernel
theorem dL_law_387 : decode cL_law 387 = .ok (.iaload, 1) := by decide +kernel
theorem dL_law_388 : decode cL_law 388 = .ok (.aload_n 0, 1) := by decide +kernel
theorem dL_law_389 : decode cL_law 389 = .ok (.iload 4, 2) := by decide +kernel
theorem dL_law_391 : decode cL_law 391 = .ok (.iconst 2, 1) := by decide +kernel
theorem dL_law_392 : decode cL_law 392 = .ok (.iadd, 1) := by decide +kernel
theorem dL_law_393 : decode cL_law 393 = .ok (.iaload, 1) := by decide +kernel
theorem dL_law_394 : decode cL_law 394 = .ok (.aload_n 0, 1) := by decide +kernel
theorem dL_law_395 : decode cL_law 395 = .ok (.iload 4, 2) := by decide +kernel
theorem dL_law_397 : decode cL_law 397 = .ok (.iconst 3, 1) := by decide +kernel
theorem dL_law_398 : decode cL_law 398 = .ok (.iadd, 1) := by decide +kernel
theorem dL_law_399 : decode cL_law 399 = .ok (.iaload, 1) := by decide +kernel
theorem dL_law_400 : decode cL_law 400 = .ok (.aload_n 0, 1) := by decide +kernel
theorem dL_law_401 : decode cL_law 401 = .ok (.iload 4, 2) := by decide +kernel
theorem dL_law_403 : decode cL_law 403 = .ok (.iconst 4, 1) := by decide +kernel
theorem dL_law_404 : decode cL_law 404 = .ok (.iadd, 1) := by decide +kernel
theorem dL_law_405 : decode cL_law 405 = .ok (.iaload, 1) := by decide +kernel
theorem dL_law_406 : decode cL_law 406 = .ok (.aload_n 0, 1) := by decide +kernel
theorem dL_law_407 : decode cL_law 407 = .ok (.iload 4, 2) := by decide +kernel
theorem dL_law_409 : decode cL_law 409 = .ok (.iconst 5, 1) := by decide +kernel
theorem dL_law_410 : decode cL_law 410 = .ok (.iadd, 1) := by decide +kernel
theorem dL_law_411 : decode cL_law 411 = .ok (.iaload, 1) := by decide +kernel
theorem dL_law_412 : decode cL_law 412 = .ok (.invokevirtual 51, 3) := by decide +kernel
theorem dL_law_415 : decode cL_law 415 = .ok (.aload_n 2, 1) := by decide +kernel
theorem dL_law_416 : decode cL_law 416 = .ok (.aload_n 0, 1) := by decide +kernel
theorem dL_law_417 : decode cL_law 417 = .ok (.iload 4, 2) := by decide +kernel
theorem dL_law_419 : decode cL_law 419 = .ok (.iconst 1, 1) := by decide +kernel
theorem dL_law_420 : decode cL_law 420 = .ok (.iadd, 1) := by decide +kernel
theorem dL_law_421 : decode cL_law 421 = .ok (.iaload, 1) := by decide +kernel
theorem dL_law_422 : decode cL_law 422 = .ok (.aload_n 0, 1) := by decide +kernel
theorem dL_law_423 : decode cL_law 423 = .ok (.iload 4, 2) := by decide +kernel
theorem dL_law_425 : decode cL_law 425 = .ok (.iconst 2, 1) := by decide +kernel
theorem dL_law_426 : decode cL_law 426 = .ok (.iadd, 1) := by decide +kernel
theorem dL_law_427 : decode cL_law 427 = .ok (.iaload, 1) := by decide +kernel
theorem dL_law_428 : decode cL_law 428 = .ok (.aload_n 0, 1) := by decide +kernel
theorem dL_law_429 : decode cL_law 429 = .ok (.iload 4, 2) := by decide +kernel
theorem dL_law_431 : decode cL_law 431 = .ok (.iconst 3, 1) := by decide +kernel
theorem dL_law_432 : decode cL_law 432 = .ok (.iadd, 1) := by decide +kernel
theorem dL_law_433 : decode cL_law 433 = .ok (.iaload, 1) := by decide +kernel
theorem dL_law_434 : decode cL_law 434 = .ok (.aload_n 0, 1) := by decide +kernel
theorem dL_law_435 : decode cL_law 435 = .ok (.iload 4, 2) := by decide +kernel
theorem dL_law_437 : decode cL_law 437 = .ok (.iconst 4, 1) := by decide +kernel
theorem dL_law_438 : decode cL_law 438 = .ok (.iadd, 1) := by decide +kernel
theorem dL_law_439 : decode cL_law 439 = .ok (.iaload, 1) := by decide +kernel
theorem dL_law_440 : decode cL_law 440 = .ok (.aload_n 0, 1) := by decide +kernel
theorem dL_law_441 : decode cL_law 441 = .ok (.iload 4, 2) := by decide +kernel
theorem dL_law_443 : decode cL_law 443 = .ok (.iconst 5, 1) := by decide +kernel
theorem dL_law_444 : decode cL_law 444 = .ok (.iadd, 1) := by decide +kernel
theorem dL_law_445 : decode cL_law 445 = .ok (.iaload, 1) := by decide +kernel
theorem dL_law_446 : decode cL_law 446 = .ok (.invokevirtual 54, 3) := by decide +kernel
theorem dL_law_449 : decode cL_law 449 = .ok (.if_icmp .eq 458, 3) := by decide +kernel
theorem dL_law_452 : decode cL_law 452 = .ok (.iconst 0, 1) := by decide +kernel
theorem dL_law_453 : decode cL_law 453 = .ok (.ireturn, 1) := by decide +kernel
theorem dL_law_454 : decode cL_law 454 = .ok (.aload_n 1, 1) := by decide +kernel
theorem dL_law_455 : decode cL_law 455 = .ok (.aload_n 0, 1) := by decide +kernel
theorem dL_law_456 : decode cL_law 456 = .ok (.iload 4, 2) := by decide +kernel
theorem dL_law_458 : decode cL_law 458 = .ok (.iconst 1, 1) := by decide +kernel
theorem dL_law_459 : decode cL_law 459 = .ok (.iadd, 1) := by decide +kernel
theorem dL_law_460 : decode cL_law 460 = .ok (.iaload, 1) := by decide +kernel
theorem dL_law_461 : decode cL_law 461 = .ok (.invokevirtual 55, 3) := by decide +kernel
theorem dL_law_464 : decode cL_law 464 = .ok (.aload_n 2, 1) := by decide +kernel
theorem dL_law_465 : decode cL_law 465 = .ok (.aload_n 0, 1) := by decide +kernel
theorem dL_law_466 : decode cL_law 466 = .ok (.iload 4, 2) := by decide +kernel
theorem dL_law_468 : decode cL_law 468 = .ok (.iconst 1, 1) := by decide +kernel
theorem dL_law_469 : decode cL_law 469 = .ok (.iadd, 1) := by decide +kernel
theorem dL_law_470 : decode cL_law 470 = .ok (.iaload, 1) := by decide +kernel
theorem dL_law_471 : decode cL_law 471 = .ok (.invokevirtual 59, 3) := by decide +kernel
theorem dL_law_474 : decode cL_law 474 = .ok (.if_icmp .eq 433, 3) := by decide +kernel
theorem dL_law_477 : decode cL_law 477 = .ok (.iconst 0, 1) := by decide +kernel
theorem dL_law_478 : decode cL_law 478 = .ok (.ireturn, 1) := by decide +kernel
theorem dL_law_479 : decode cL_law 479 = .ok (.aload_n 1, 1) := by decide +kernel
theorem dL_law_480 : decode cL_law 480 = .ok (.aload_n 0, 1) := by decide +kernel
theorem dL_law_481 : decode cL_law 481 = .ok (.iload 4, 2) := by decide +kernel
theorem dL_law_483 : decode cL_law 483 = .ok (.iconst 1, 1) := by decide +kernel
theorem dL_law_484 : decode cL_law 484 = .ok (.iadd, 1) := by decide +kernel
theorem dL_law_485 : decode cL_law 485 = .ok (.iaload, 1) := by decide +kernel
theorem dL_law_486 : decode cL_law 486 = .ok (.aload_n 0, 1) := by decide +kernel
theorem dL_law_487 : decode cL_law 487 = .ok (.iload 4, 2) := by decide +kernel
theorem dL_law_489 : decode cL_law 489 = .ok (.iconst 2, 1) := by decide +kernel
theorem dL_law_490 : decode cL_law 490 = .ok (.iadd, 1) := by decide +kernel
theorem dL_law_491 : decode cL_law 491 = .ok (.iaload, 1) := by decide +kernel
theorem dL_law_492 : decode cL_law 492 = .ok (.invokevirtual 60, 3) := by decide +kernel
theorem dL_law_495 : decode cL_law 495 = .ok (.aload_n 2, 1) := by decide +kernel
theorem dL_law_496 : decode cL_law 496 = .ok (.aload_n 0, 1) := by decide +kernel
theorem dL_law_497 : decode cL_law 497 = .ok (.iload 4, 2) := by decide +kernel
theorem dL_law_499 : decode cL_law 499 = .ok (.iconst 1, 1) := by decide +kernel
theorem dL_law_500 : decode cL_law 500 = .ok (.iadd, 1) := by decide +kernel
theorem dL_law_501 : decode cL_law 501 = .ok (.iaload, 1) := by decide +kernel
theorem dL_law_502 : decode cL_law 502 = .ok (.aload_n 0, 1) := by decide +kernel
theorem dL_law_503 : decode cL_law 503 = .ok (.iload 4, 2) := by decide +kernel
theorem dL_law_505 : decode cL_law 505 = .ok (.iconst 2, 1) := by decide +kernel
theorem dL_law_506 : decode cL_law 506 = .ok (.iadd, 1) := by decide +kernel
theorem dL_law_507 : decode cL_law 507 = .ok (.iaload, 1) := by decide +kernel
theorem dL_law_508 : decode cL_law 508 = .ok (.invokevirtual 64, 3) := by decide +kernel
theorem dL_law_511 : decode cL_law 511 = .ok (.if_icmp .eq 396, 3) := by decide +kernel
theorem dL_law_514 : decode cL_law 514 = .ok (.iconst 0, 1) := by decide +kernel
theorem dL_law_515 : decode cL_law 515 = .ok (.ireturn, 1) := by decide +kernel
theorem dL_law_516 : decode cL_law 516 = .ok (.aload_n 1, 1) := by decide +kernel
theorem dL_law_517 : decode cL_law 517 = .ok (.aload_n 0, 1) := by decide +kernel
theorem dL_law_518 : decode cL_law 518 = .ok (.iload 4, 2) := by decide +kernel
theorem dL_law_520 : decode cL_law 520 = .ok (.iconst 1, 1) := by decide +kernel
theorem dL_law_521 : decode cL_law 521 = .ok (.iadd, 1) := by decide +kernel
theorem dL_law_522 : decode cL_law 522 = .ok (.iaload, 1) := by decide +kernel
theorem dL_law_523 : decode cL_law 523 = .ok (.ifCond .eq 7, 3) := by decide +kernel
theorem dL_law_526 : decode cL_law 526 = .ok (.iconst 1, 1) := by decide +kernel
theorem dL_law_527 : decode cL_law 527 = .ok (.goto 4, 3) := by decide +kernel
theorem dL_law_530 : decode cL_law 530 = .ok (.iconst 0, 1) := by decide +kernel
theorem dL_law_531 : decode cL_law 531 = .ok (.invokevirtual 65, 3) := by decide +kernel
theorem dL_law_534 : decode cL_law 534 = .ok (.aload_n 2, 1) := by decide +kernel
theorem dL_law_535 : decode cL_law 535 = .ok (.aload_n 0, 1) := by decide +kernel
theorem dL_law_536 : decode cL_law 536 = .ok (.iload 4, 2) := by decide +kernel
theorem dL_law_538 : decode cL_law 538 = .ok (.iconst 1, 1) := by decide +kernel
theorem dL_law_539 : decode cL_law 539 = .ok (.iadd, 1) := by decide +kernel
theorem dL_law_540 : decode cL_law 540 = .ok (.iaload, 1) := by decide +kernel
theorem dL_law_541 : decode cL_law 541 = .ok (.ifCond .eq 7, 3) := by decide +kernel
theorem dL_law_544 : decode cL_law 544 = .ok (.iconst 1, 1) := by decide +kernel
theorem dL_law_545 : decode cL_law 545 = .ok (.goto 4, 3) := by decide +kernel
theorem dL_law_548 : decode cL_law 548 = .ok (.iconst 0, 1) := by decide +kernel
theorem dL_law_549 : decode cL_law 549 = .ok (.invokevirtual 69, 3) := by decide +kernel
theorem dL_law_552 : decode cL_law 552 = .ok (.if_icmp .eq 355, 3) := by decide +kernel
theorem dL_law_555 : decode cL_law 555 = .ok (.iconst 0, 1) := by decide +kernel
theorem dL_law_556 : decode cL_law 556 = .ok (.ireturn, 1) := by decide +kernel
theorem dL_law_557 : decode cL_law 557 = .ok (.aload_n 1, 1) := by decide +kernel
theorem dL_law_558 : decode cL_law 558 = .ok (.invokevirtual 70, 3) := by decide +kernel
theorem dL_law_561 : decode cL_law 561 = .ok (.aload_n 2, 1) := by decide +kernel
theorem dL_law_562 : decode cL_law 562 = .ok (.invokevirtual 73, 3) := by decide +kernel
theorem dL_law_565 : decode cL_law 565 = .ok (.if_icmp .eq 342, 3) := by decide +kernel
theorem dL_law_568 : decode cL_law 568 = .ok (.iconst 0, 1) := by decide +kernel
theorem dL_law_569 : decode cL_law 569 = .ok (.ireturn, 1) := by decide +kernel
theorem dL_law_570 : decode cL_law 570 = .ok (.aload_n 1, 1) := by decide +kernel
theorem dL_law_571 : decode cL_law 571 = .ok (.aload_n 0, 1) := by decide +kernel
theorem dL_law_572 : decode cL_law 572 = .ok (.iload 4, 2) := by decide +kernel
theorem dL_law_574 : decode cL_law 574 = .ok (.iconst 1, 1) := by decide +kernel
theorem dL_law_575 : decode cL_law 575 = .ok (.iadd, 1) := by decide +kernel
theorem dL_law_576 : decode cL_law 576 = .ok (.iaload, 1) := by decide +kernel
theorem dL_law_577 : decode cL_law 577 = .ok (.aload_n 0, 1) := by decide +kernel
theorem dL_law_578 : decode cL_law 578 = .ok (.iload 4, 2) := by decide +kernel
theorem dL_law_580 : decode cL_law 580 = .ok (.iconst 2, 1) := by decide +kernel
theorem dL_law_581 : decode cL_law 581 = .ok (.iadd, 1) := by decide +kernel
theorem dL_law_582 : decode cL_law 582 = .ok (.iaload, 1) := by decide +kernel
theorem dL_law_583 : decode cL_law 583 = .ok (.invokevirtual 74, 3) := by decide +kernel
theorem dL_law_586 : decode cL_law 586 = .ok (.aload_n 2, 1) := by decide +kernel
theorem dL_law_587 : decode cL_law 587 = .ok (.aload_n 0, 1) := by decide +kernel
theorem dL_law_588 : decode cL_law 588 = .ok (.iload 4, 2) := by decide +kernel
theorem dL_law_590 : decode cL_law 590 = .ok (.iconst 1, 1) := by decide +kernel
theorem dL_law_591 : decode cL_law 591 = .ok (.iadd, 1) := by decide +kernel
theorem dL_law_592 : decode cL_law 592 = .ok (.iaload, 1) := by decide +kernel
theorem dL_law_593 : decode cL_law 593 = .ok (.aload_n 0, 1) := by decide +kernel
theorem dL_law_594 : decode cL_law 594 = .ok (.iload 4, 2) := by decide +kernel
theorem dL_law_596 : decode cL_law 596 = .ok (.iconst 2, 1) := by decide +kernel
theorem dL_law_597 : decode cL_law 597 = .ok (.iadd, 1) := by decide +kernel
theorem dL_law_598 : decode cL_law 598 = .ok (.iaload, 1) := by decide +kernel
theorem dL_law_599 : decode cL_law 599 = .ok (.invokevirtual 77, 3) := by decide +kernel
theorem dL_law_602 : decode cL_law 602 = .ok (.if_icmp .eq 305, 3) := by decide +kernel
theorem dL_law_605 : decode cL_law 605 = .ok (.iconst 0, 1) := by decide +kernel
theorem dL_law_606 : decode cL_law 606 = .ok (.ireturn, 1) := by decide +kernel
theorem dL_law_607 : decode cL_law 607 = .ok (.aload_n 1, 1) := by decide +kernel
theorem dL_law_608 : decode cL_law 608 = .ok (.aload_n 0, 1) := by decide +kernel
theorem dL_law_609 : decode cL_law 609 = .ok (.iload 4, 2) := by decide +kernel
theorem dL_law_611 : decode cL_law 611 = .ok (.iconst 1, 1) := by decide +kernel
theorem dL_law_612 : decode cL_law 612 = .ok (.iadd, 1) := by decide +kernel
theorem dL_law_613 : decode cL_law 613 = .ok (.iaload, 1) := by decide +kernel
theorem dL_law_614 : decode cL_law 614 = .ok (.aload_n 3, 1) := by decide +kernel
theorem dL_law_615 : decode cL_law 615 = .ok (.invokestatic 78, 3) := by decide +kernel
theorem dL_law_618 : decode cL_law 618 = .ok (.istore 5, 2) := by decide +kernel
theorem dL_law_620 : decode cL_law 620 = .ok (.aload_n 2, 1) := by decide +kernel
theorem dL_law_621 : decode cL_law 621 = .ok (.aload_n 0, 1) := by decide +kernel
theorem dL_law_622 : decode cL_law 622 = .ok (.iload 4, 2) := by decide +kernel
theorem dL_law_624 : decode cL_law 624 = .ok (.iconst 1, 1) := by decide +kernel
theorem dL_law_625 : decode cL_law 625 = .ok (.iadd, 1) := by decide +kernel
theorem dL_law_626 : decode cL_law 626 = .ok (.iaload, 1) := by decide +kernel
theorem dL_law_627 : decode cL_law 627 = .ok (.invokevirtual 83, 3) := by decide +kernel
theorem dL_law_630 : decode cL_law 630 = .ok (.lstore 6, 2) := by decide +kernel
theorem dL_law_632 : decode cL_law 632 = .ok (.aload_n 2, 1) := by decide +kernel
theorem dL_law_633 : decode cL_law 633 = .ok (.invokevirtual 84, 3) := by decide +kernel
theorem dL_law_636 : decode cL_law 636 = .ok (.iload 5, 2) := by decide +kernel
theorem dL_law_638 : decode cL_law 638 = .ok (.if_icmp .eq 5, 3) := by decide +kernel
theorem dL_law_641 : decode cL_law 641 = .ok (.iconst 0, 1) := by decide +kernel
theorem dL_law_642 : decode cL_law 642 = .ok (.ireturn, 1) := by decide +kernel
theorem dL_law_643 : decode cL_law 643 = .ok (.iload 5, 2) := by decide +kernel
theorem dL_law_645 : decode cL_law 645 = .ok (.ifCond .ne 14, 3) := by decide +kernel
theorem dL_law_648 : decode cL_law 648 = .ok (.aload_n 3, 1) := by decide +kernel
theorem dL_law_649 : decode cL_law 649 = .ok (.iconst 0, 1) := by decide +kernel
theorem dL_law_650 : decode cL_law 650 = .ok (.laload, 1) := by decide +kernel
theorem dL_law_651 : decode cL_law 651 = .ok (.lload 6, 2) := by decide +kernel
theorem dL_law_653 : decode cL_law 653 = .ok (.lcmp, 1) := by decide +kernel
theorem dL_law_654 : decode cL_law 654 = .ok (.ifCond .eq 5, 3) := by decide +kernel
theorem dL_law_657 : decode cL_law 657 = .ok (.iconst 0, 1) := by decide +kernel
theorem dL_law_658 : decode cL_law 658 = .ok (.ireturn, 1) := by decide +kernel
theorem dL_law_659 : decode cL_law 659 = .ok (.goto 248, 3) := by decide +kernel
theorem dL_law_662 : decode cL_law 662 = .ok (.aload_n 1, 1) := by decide +kernel
theorem dL_law_663 : decode cL_law 663 = .ok (.aload_n 0, 1) := by decide +kernel
theorem dL_law_664 : decode cL_law 664 = .ok (.iload 4, 2) := by decide +kernel
theorem dL_law_666 : decode cL_law 666 = .ok (.iconst 1, 1) := by decide +kernel
theorem dL_law_667 : decode cL_law 667 = .ok (.iadd, 1) := by decide +kernel
theorem dL_law_668 : decode cL_law 668 = .ok (.iaload, 1) := by decide +kernel
theorem dL_law_669 : decode cL_law 669 = .ok (.aload_n 3, 1) := by decide +kernel
theorem dL_law_670 : decode cL_law 670 = .ok (.invokestatic 87, 3) := by decide +kernel
theorem dL_law_673 : decode cL_law 673 = .ok (.istore 5, 2) := by decide +kernel
theorem dL_law_675 : decode cL_law 675 = .ok (.aload_n 2, 1) := by decide +kernel
theorem dL_law_676 : decode cL_law 676 = .ok (.aload_n 0, 1) := by decide +kernel
theorem dL_law_677 : decode cL_law 677 = .ok (.iload 4, 2) := by decide +kernel
theorem dL_law_679 : decode cL_law 679 = .ok (.iconst 1, 1) := by decide +kernel
theorem dL_law_680 : decode cL_law 680 = .ok (.iadd, 1) := by decide +kernel
theorem dL_law_681 : decode cL_law 681 = .ok (.iaload, 1) := by decide +kernel
theorem dL_law_682 : decode cL_law 682 = .ok (.invokevirtual 89, 3) := by decide +kernel
theorem dL_law_685 : decode cL_law 685 = .ok (.lstore 6, 2) := by decide +kernel
theorem dL_law_687 : decode cL_law 687 = .ok (.aload_n 2, 1) := by decide +kernel
theorem dL_law_688 : decode cL_law 688 = .ok (.invokevirtual 84, 3) := by decide +kernel
theorem dL_law_691 : decode cL_law 691 = .ok (.iload 5, 2) := by decide +kernel
theorem dL_law_693 : decode cL_law 693 = .ok (.if_icmp .eq 5, 3) := by decide +kernel
theorem dL_law_696 : decode cL_law 696 = .ok (.iconst 0, 1) := by decide +kernel
theorem dL_law_697 : decode cL_law 697 = .ok (.ireturn, 1) := by decide +kernel
theorem dL_law_698 : decode cL_law 698 = .ok (.iload 5, 2) := by decide +kernel
theorem dL_law_700 : decode cL_law 700 = .ok (.ifCond .ne 14, 3) := by decide +kernel
theorem dL_law_703 : decode cL_law 703 = .ok (.aload_n 3, 1) := by decide +kernel
theorem dL_law_704 : decode cL_law 704 = .ok (.iconst 0, 1) := by decide +kernel
theorem dL_law_705 : decode cL_law 705 = .ok (.laload, 1) := by decide +kernel
theorem dL_law_706 : decode cL_law 706 = .ok (.lload 6, 2) := by decide +kernel
theorem dL_law_708 : decode cL_law 708 = .ok (.lcmp, 1) := by decide +kernel
theorem dL_law_709 : decode cL_law 709 = .ok (.ifCond .eq 5, 3) := by decide +kernel
theorem dL_law_712 : decode cL_law 712 = .ok (.iconst 0, 1) := by decide +kernel
theorem dL_law_713 : decode cL_law 713 = .ok (.ireturn, 1) := by decide +kernel
theorem dL_law_714 : decode cL_law 714 = .ok (.goto 193, 3) := by decide +kernel
theorem dL_law_717 : decode cL_law 717 = .ok (.aload_n 1, 1) := by decide +kernel
theorem dL_law_718 : decode cL_law 718 = .ok (.aload_n 0, 1) := by decide +kernel
theorem dL_law_719 : decode cL_law 719 = .ok (.iload 4, 2) := by decide +kernel
theorem dL_law_721 : decode cL_law 721 = .ok (.iconst 1, 1) := by decide +kernel
theorem dL_law_722 : decode cL_law 722 = .ok (.iadd, 1) := by decide +kernel
theorem dL_law_723 : decode cL_law 723 = .ok (.iaload, 1) := by decide +kernel
theorem dL_law_724 : decode cL_law 724 = .ok (.i2l, 1) := by decide +kernel
theorem dL_law_725 : decode cL_law 725 = .ok (.bipush 32, 2) := by decide +kernel
theorem dL_law_727 : decode cL_law 727 = .ok (.lshl, 1) := by decide +kernel
theorem dL_law_728 : decode cL_law 728 = .ok (.aload_n 0, 1) := by decide +kernel
theorem dL_law_729 : decode cL_law 729 = .ok (.iload 4, 2) := by decide +kernel
theorem dL_law_731 : decode cL_law 731 = .ok (.iconst 2, 1) := by decide +kernel
theorem dL_law_732 : decode cL_law 732 = .ok (.iadd, 1) := by decide +kernel
theorem dL_law_733 : decode cL_law 733 = .ok (.iaload, 1) := by decide +kernel
theorem dL_law_734 : decode cL_law 734 = .ok (.i2l, 1) := by decide +kernel
theorem dL_law_735 : decode cL_law 735 = .ok (.ldc2_w 90, 3) := by decide +kernel
theorem dL_law_738 : decode cL_law 738 = .ok (.land, 1) := by decide +kernel
theorem dL_law_739 : decode cL_law 739 = .ok (.lor, 1) := by decide +kernel
theorem dL_law_740 : decode cL_law 740 = .ok (.invokevirtual 92, 3) := by decide +kernel
theorem dL_law_743 : decode cL_law 743 = .ok (.aload_n 2, 1) := by decide +kernel
theorem dL_law_744 : decode cL_law 744 = .ok (.aload_n 0, 1) := by decide +kernel
theorem dL_law_745 : decode cL_law 745 = .ok (.iload 4, 2) := by decide +kernel
theorem dL_law_747 : decode cL_law 747 = .ok (.iconst 1, 1) := by decide +kernel
theorem dL_law_748 : decode cL_law 748 = .ok (.iadd, 1) := by decide +kernel
theorem dL_law_749 : decode cL_law 749 = .ok (.iaload, 1) := by decide +kernel
theorem dL_law_750 : decode cL_law 750 = .ok (.i2l, 1) := by decide +kernel
theorem dL_law_751 : decode cL_law 751 = .ok (.bipush 32, 2) := by decide +kernel
theorem dL_law_753 : decode cL_law 753 = .ok (.lshl, 1) := by decide +kernel
theorem dL_law_754 : decode cL_law 754 = .ok (.aload_n 0, 1) := by decide +kernel
theorem dL_law_755 : decode cL_law 755 = .ok (.iload 4, 2) := by decide +kernel
theorem dL_law_757 : decode cL_law 757 = .ok (.iconst 2, 1) := by decide +kernel
theorem dL_law_758 : decode cL_law 758 = .ok (.iadd, 1) := by decide +kernel
theorem dL_law_759 : decode cL_law 759 = .ok (.iaload, 1) := by decide +kernel
theorem dL_law_760 : decode cL_law 760 = .ok (.i2l, 1) := by decide +kernel
theorem dL_law_761 : decode cL_law 761 = .ok (.ldc2_w 90, 3) := by decide +kernel
theorem dL_law_764 : decode cL_law 764 = .ok (.land, 1) := by decide +kernel
theorem dL_law_765 : decode cL_law 765 = .ok (.lor, 1) := by decide +kernel
theorem dL_law_766 : decode cL_law 766 = .ok (.invokevirtual 96, 3) := by decide +kernel
theorem dL_law_769 : decode cL_law 769 = .ok (.if_icmp .eq 138, 3) := by decide +kernel
theorem dL_law_772 : decode cL_law 772 = .ok (.iconst 0, 1) := by decide +kernel
theorem dL_law_773 : decode cL_law 773 = .ok (.ireturn, 1) := by decide +kernel
theorem dL_law_774 : decode cL_law 774 = .ok (.aload_n 1, 1) := by decide +kernel
theorem dL_law_775 : decode cL_law 775 = .ok (.aload_n 0, 1) := by decide +kernel
theorem dL_law_776 : decode cL_law 776 = .ok (.iload 4, 2) := by decide +kernel
theorem dL_law_778 : decode cL_law 778 = .ok (.iconst 1, 1) := by decide +kernel
theorem dL_law_779 : decode cL_law 779 = .ok (.iadd, 1) := by decide +kernel
theorem dL_law_780 : decode cL_law 780 = .ok (.iaload, 1) := by decide +kernel
theorem dL_law_781 : decode cL_law 781 = .ok (.aload_n 0, 1) := by decide +kernel
theorem dL_law_782 : decode cL_law 782 = .ok (.iload 4, 2) := by decide +kernel
theorem dL_law_784 : decode cL_law 784 = .ok (.iconst 2, 1) := by decide +kernel
theorem dL_law_785 : decode cL_law 785 = .ok (.iadd, 1) := by decide +kernel
theorem dL_law_786 : decode cL_law 786 = .ok (.iaload, 1) := by decide +kernel
theorem dL_law_787 : decode cL_law 787 = .ok (.ifCond .eq 7, 3) := by decide +kernel
theorem dL_law_790 : decode cL_law 790 = .ok (.iconst 1, 1) := by decide +kernel
theorem dL_law_791 : decode cL_law 791 = .ok (.goto 4, 3) := by decide +kernel
theorem dL_law_794 : decode cL_law 794 = .ok (.iconst 0, 1) := by decide +kernel
theorem dL_law_795 : decode cL_law 795 = .ok (.aload_n 3, 1) := by decide +kernel
theorem dL_law_796 : decode cL_law 796 = .ok (.invokestatic 97, 3) := by decide +kernel
theorem dL_law_799 : decode cL_law 799 = .ok (.istore 5, 2) := by decide +kernel
theorem dL_law_801 : decode cL_law 801 = .ok (.aload_n 2, 1) := by decide +kernel
theorem dL_law_802 : decode cL_law 802 = .ok (.aload_n 0, 1) := by decide +kernel
theorem dL_law_803 : decode cL_law 803 = .ok (.iload 4, 2) := by decide +kernel
theorem dL_law_805 : decode cL_law 805 = .ok (.iconst 1, 1) := by decide +kernel
theorem dL_law_806 : decode cL_law 806 = .ok (.iadd, 1) := by decide +kernel
theorem dL_law_807 : decode cL_law 807 = .ok (.iaload, 1) := by decide +kernel
theorem dL_law_808 : decode cL_law 808 = .ok (.aload_n 0, 1) := by decide +kernel
theorem dL_law_809 : decode cL_law 809 = .ok (.iload 4, 2) := by decide +kernel
theorem dL_law_811 : decode cL_law 811 = .ok (.iconst 2, 1) := by decide +kernel
theorem dL_law_812 : decode cL_law 812 = .ok (.iadd, 1) := by decide +kernel
theorem dL_law_813 : decode cL_law 813 = .ok (.iaload, 1) := by decide +kernel
theorem dL_law_814 : decode cL_law 814 = .ok (.ifCond .eq 7, 3) := by decide +kernel
theorem dL_law_817 : decode cL_law 817 = .ok (.iconst 1, 1) := by decide +kernel
theorem dL_law_818 : decode cL_law 818 = .ok (.goto 4, 3) := by decide +kernel
theorem dL_law_821 : decode cL_law 821 = .ok (.iconst 0, 1) := by decide +kernel
theorem dL_law_822 : decode cL_law 822 = .ok (.invokevirtual 100, 3) := by decide +kernel
theorem dL_law_825 : decode cL_law 825 = .ok (.lstore 6, 2) := by decide +kernel
theorem dL_law_827 : decode cL_law 827 = .ok (.aload_n 2, 1) := by decide +kernel
theorem dL_law_828 : decode cL_law 828 = .ok (.invokevirtual 84, 3) := by decide +kernel
theorem dL_law_831 : decode cL_law 831 = .ok (.iload 5, 2) := by decide +kernel
theorem dL_law_833 : decode cL_law 833 = .ok (.if_icmp .eq 5, 3) := by decide +kernel
theorem dL_law_836 : decode cL_law 836 = .ok (.iconst 0, 1) := by decide +kernel
theorem dL_law_837 : decode cL_law 837 = .ok (.ireturn, 1) := by decide +kernel
theorem dL_law_838 : decode cL_law 838 = .ok (.iload 5, 2) := by decide +kernel
theorem dL_law_840 : decode cL_law 840 = .ok (.ifCond .ne 14, 3) := by decide +kernel
theorem dL_law_843 : decode cL_law 843 = .ok (.aload_n 3, 1) := by decide +kernel
theorem dL_law_844 : decode cL_law 844 = .ok (.iconst 0, 1) := by decide +kernel
theorem dL_law_845 : decode cL_law 845 = .ok (.laload, 1) := by decide +kernel
theorem dL_law_846 : decode cL_law 846 = .ok (.lload 6, 2) := by decide +kernel
theorem dL_law_848 : decode cL_law 848 = .ok (.lcmp, 1) := by decide +kernel
theorem dL_law_849 : decode cL_law 849 = .ok (.ifCond .eq 5, 3) := by decide +kernel
theorem dL_law_852 : decode cL_law 852 = .ok (.iconst 0, 1) := by decide +kernel
theorem dL_law_853 : decode cL_law 853 = .ok (.ireturn, 1) := by decide +kernel
theorem dL_law_854 : decode cL_law 854 = .ok (.goto 53, 3) := by decide +kernel
theorem dL_law_857 : decode cL_law 857 = .ok (.aload_n 1, 1) := by decide +kernel
theorem dL_law_858 : decode cL_law 858 = .ok (.aload_n 0, 1) := by decide +kernel
theorem dL_law_859 : decode cL_law 859 = .ok (.iload 4, 2) := by decide +kernel
theorem dL_law_861 : decode cL_law 861 = .ok (.iconst 1, 1) := by decide +kernel
theorem dL_law_862 : decode cL_law 862 = .ok (.iadd, 1) := by decide +kernel
theorem dL_law_863 : decode cL_law 863 = .ok (.iaload, 1) := by decide +kernel
theorem dL_law_864 : decode cL_law 864 = .ok (.invokevirtual 101, 3) := by decide +kernel
theorem dL_law_867 : decode cL_law 867 = .ok (.aload_n 2, 1) := by decide +kernel
theorem dL_law_868 : decode cL_law 868 = .ok (.aload_n 0, 1) := by decide +kernel
theorem dL_law_869 : decode cL_law 869 = .ok (.iload 4, 2) := by decide +kernel
theorem dL_law_871 : decode cL_law 871 = .ok (.iconst 1, 1) := by decide +kernel
theorem dL_law_872 : decode cL_law 872 = .ok (.iadd, 1) := by decide +kernel
theorem dL_law_873 : decode cL_law 873 = .ok (.iaload, 1) := by decide +kernel
theorem dL_law_874 : decode cL_law 874 = .ok (.invokevirtual 104, 3) := by decide +kernel
theorem dL_law_877 : decode cL_law 877 = .ok (.if_icmp .eq 30, 3) := by decide +kernel
theorem dL_law_880 : decode cL_law 880 = .ok (.iconst 0, 1) := by decide +kernel
theorem dL_law_881 : decode cL_law 881 = .ok (.ireturn, 1) := by decide +kernel
theorem dL_law_882 : decode cL_law 882 = .ok (.aload_n 1, 1) := by decide +kernel
theorem dL_law_883 : decode cL_law 883 = .ok (.aload_n 0, 1) := by decide +kernel
theorem dL_law_884 : decode cL_law 884 = .ok (.iload 4, 2) := by decide +kernel
theorem dL_law_886 : decode cL_law 886 = .ok (.iconst 1, 1) := by decide +kernel
theorem dL_law_887 : decode cL_law 887 = .ok (.iadd, 1) := by decide +kernel
theorem dL_law_888 : decode cL_law 888 = .ok (.iaload, 1) := by decide +kernel
theorem dL_law_889 : decode cL_law 889 = .ok (.invokevirtual 105, 3) := by decide +kernel
theorem dL_law_892 : decode cL_law 892 = .ok (.aload_n 2, 1) := by decide +kernel
theorem dL_law_893 : decode cL_law 893 = .ok (.aload_n 0, 1) := by decide +kernel
theorem dL_law_894 : decode cL_law 894 = .ok (.iload 4, 2) := by decide +kernel
theorem dL_law_896 : decode cL_law 896 = .ok (.iconst 1, 1) := by decide +kernel
theorem dL_law_897 : decode cL_law 897 = .ok (.iadd, 1) := by decide +kernel
theorem dL_law_898 : decode cL_law 898 = .ok (.iaload, 1) := by decide +kernel
theorem dL_law_899 : decode cL_law 899 = .ok (.invokevirtual 108, 3) := by decide +kernel
theorem dL_law_902 : decode cL_law 902 = .ok (.if_icmp .eq 5, 3) := by decide +kernel
theorem dL_law_905 : decode cL_law 905 = .ok (.iconst 0, 1) := by decide +kernel
theorem dL_law_906 : decode cL_law 906 = .ok (.ireturn, 1) := by decide +kernel
theorem dL_law_907 : decode cL_law 907 = .ok (.iinc 4 6, 3) := by decide +kernel
theorem dL_law_910 : decode cL_law 910 = .ok (.goto (-887), 3) := by decide +kernel
theorem dL_law_913 : decode cL_law 913 = .ok (.iconst 1, 1) := by decide +kernel
theorem dL_law_914 : decode cL_law 914 = .ok (.ireturn, 1) := by decide +kernel
end
section
/-! ===== A small machine over which the methods are read. Values are the model's; a heap is a function of addresses; locals are a function of places. A cell: an array (number of its type, contents), or an object (number of its class, fields). ===== -/
abbrev mx_C : Type := (Nat × vp_A) ⊕ (Nat × List Value)
/-- cells, how many there are, slots used -/
abbrev mx_H : Type := (Nat → Option mx_C) × Nat × Nat
abbrev mx_L : Type := Nat → Option Value
/-- returned, or threw: the exception's number, its address -/
abbrev mx_O : Type := Option Value ⊕ (Nat × Nat)
/-- class number, name, code, locals, type of the answer, places of longs, frames and locals' room below -/
abbrev mx_M : Type := Nat × MethodName × ByteArray × Nat × Option FieldType × List Nat × Nat × Nat
abbrev mx_mc (M : mx_M) : Nat := M.1
abbrev mx_my (M : mx_M) : MethodName := M.2.1
abbrev mx_mb (M : mx_M) : ByteArray := M.2.2.1
abbrev mx_ml (M : mx_M) : Nat := M.2.2.2.1
abbrev mx_mr (M : mx_M) : Option FieldType := M.2.2.2.2.1
abbrev mx_mg (M : mx_M) : List Nat := M.2.2.2.2.2.1
abbrev mx_mf (M : mx_M) : Nat := M.2.2.2.2.2.2.1
abbrev mx_mw (M : mx_M) : Nat := M.2.2.2.2.2.2.2
/-- a program's tables, by class number and pool index: fields (class, place, type, final), constants, classes to make (number, first fields), array types to make, casts (classes that pass), statics, calls (kind, arguments, method); the array types; which classes a reference array of a type takes; the first address that may be written -/
abbrev mx_T : Type := (Nat → Nat → Option (Nat × Nat × FieldType × Bool)) × (Nat → Nat → Option Value) × (Nat → Nat → Option (Nat × List Value)) × (Nat → Nat → Option Nat) × (Nat → Nat → Option (List Nat)) × (Nat → Nat → Option Value) × (Nat → Nat → Option (Nat × Nat × mx_M)) × List FieldType × (Nat → Nat → Bool) × Nat × Nat × (Nat → Nat → Nat → Option Value) × (Nat → Option Nat)
abbrev mx_tf (P : mx_T) : Nat → Nat → Option (Nat × Nat × FieldType × Bool) := P.1
abbrev mx_tc (P : mx_T) : Nat → Nat → Option Value := P.2.1
abbrev mx_tn (P : mx_T) : Nat → Nat → Option (Nat × List Value) := P.2.2.1
abbrev mx_ta (P : mx_T) : Nat → Nat → Option Nat := P.2.2.2.1
abbrev mx_tk (P : mx_T) : Nat → Nat → Option (List Nat) := P.2.2.2.2.1
abbrev mx_ts (P : mx_T) : Nat → Nat → Option Value := P.2.2.2.2.2.1
abbrev mx_tm (P : mx_T) : Nat → Nat → Option (Nat × Nat × mx_M) := P.2.2.2.2.2.2.1
abbrev mx_ty (P : mx_T) : List FieldType := P.2.2.2.2.2.2.2.1
abbrev mx_tg (P : mx_T) : Nat → Nat → Bool := P.2.2.2.2.2.2.2.2.1
abbrev mx_t0 (P : mx_T) : Nat := P.2.2.2.2.2.2.2.2.2.1
/-- the class object of Object[] -/
abbrev mx_tr (P : mx_T) : Nat := P.2.2.2.2.2.2.2.2.2.2.1
/-- what constant objects' fields hold, by address; their class -/
abbrev mx_te (P : mx_T) : Nat → Nat → Nat → Option Value := P.2.2.2.2.2.2.2.2.2.2.2.1
abbrev mx_to (P : mx_T) : Nat → Option Nat := P.2.2.2.2.2.2.2.2.2.2.2.2
/-- a cell anew; a cell more -/
def mx_up (G : mx_H) (a : Nat) (c : mx_C) : mx_H := (fun b => if b = a then some c else G.1 b, G.2.1, G.2.2)
def mx_pu (G : mx_H) (c : mx_C) (n : Nat) : mx_H := (fun b => if b = G.2.1 then some c else G.1 b, G.2.1 + 1, G.2.2 + n)
theorem mx_up_s (G : mx_H) (a : Nat) (c : mx_C) : (mx_up G a c).1 a = some c := by simp [mx_up]
theorem mx_up_n (G : mx_H) {a b : Nat} (c : mx_C) (h : b ≠ a) : (mx_up G a c).1 b = G.1 b := by simp [mx_up, h]
theorem mx_pu_s (G : mx_H) (c : mx_C) (n : Nat) : (mx_pu G c n).1 G.2.1 = some c := by simp [mx_pu]
theorem mx_pu_n (G : mx_H) {b : Nat} (c : mx_C) (n : Nat) (h : b ≠ G.2.1) : (mx_pu G c n).1 b = G.1 b := by simp [mx_pu, h]
/-- a local of one word, of two words -/
def mx_s1 (g : List Nat) (L : mx_L) (i : Nat) (v : Value) : mx_L := fun j => bif Nat.beq j i then some v else bif Nat.beq (j + 1) i && g.any (Nat.beq j) then none else L j
def mx_s2 (g : List Nat) (L : mx_L) (i : Nat) (v : Value) : mx_L := fun j => bif Nat.beq j i then some v else bif Nat.beq j (i + 1) then none else bif Nat.beq (j + 1) i && g.any (Nat.beq j) then none else L j
/-- the locals with which a method begins -/
def mx_en : Nat → List Value → mx_L
  | _, [] => fun _ => none
  | i, v :: vs => fun j => bif Nat.beq j i then some v else mx_en (match v with | .long _ => i + 2 | .double _ => i + 2 | _ => i + 1) vs j
/-- the longs among the arguments lie where the method keeps longs -/
def mx_eg (g : List Nat) : Nat → List Value → Bool
  | _, [] => true
  | i, v :: vs => match v with
    | .long _ => g.any (Nat.beq i) && mx_eg g (i + 2) vs
    | .double _ => false
    | _ => mx_eg g (i + 1) vs
def mx_rv (v : Value) : Prop := v = .null ∨ ∃ a : Nat, v = .ref a
def mx_cd (k : Jvm.ClassFile.Cond) (x y : Int32) : Prop := match k with
  | .eq => x = y
  | .ne => ¬ x = y
  | .lt => x < y
  | .ge => y ≤ x
  | .gt => y < x
  | .le => x ≤ y
def mx_aq (f : Nat → Option Nat) : (Nat → Int32) ⊕ (Nat → Int64) ⊕ (Nat → UInt32) ⊕ (Nat → UInt64) ⊕ (Nat → Option Nat) := .inr (.inr (.inr (.inr f)))
/-- one instruction that is neither a call nor an end: what must hold for it to go on, and how it goes on -/
def mx_nx (P : mx_T) (M : mx_M) (pc : Nat) (L : mx_L) (st : List Value) (G : mx_H) (n : Nat) (K : Nat → mx_L → List Value → mx_H → Prop) (i : Instr) : Prop :=
  match i with
  | .aconst_null => n = 1 ∧ K (pc + 1) L (.null :: st) G
  | .iconst k => n = 1 ∧ K (pc + 1) L (.int (Int32.ofInt k) :: st) G
  | .lconst k => n = 1 ∧ K (pc + 1) L (.long (Int64.ofNat k) :: st) G
  | .bipush k => n = 2 ∧ K (pc + 2) L (.int (Int8.ofInt k).toInt32 :: st) G
  | .sipush k => n = 3 ∧ K (pc + 3) L (.int (Int16.ofInt k).toInt32 :: st) G
  | .ldc k => n = 2 ∧ ∃ x, mx_tc P (mx_mc M) k = some x ∧ ((∃ y, x = .int y) ∨ x = .ref (mx_tr P)) ∧ K (pc + 2) L (x :: st) G
  | .ldc_w k => n = 3 ∧ ∃ x, mx_tc P (mx_mc M) k = some (.int x) ∧ K (pc + 3) L (.int x :: st) G
  | .ldc2_w k => n = 3 ∧ ∃ x, mx_tc P (mx_mc M) k = some (.long x) ∧ K (pc + 3) L (.long x :: st) G
  | .iload_n k => n = 1 ∧ ∃ x, L k = some (.int x) ∧ K (pc + 1) L (.int x :: st) G
  | .iload k => n = 2 ∧ ∃ x, L k = some (.int x) ∧ K (pc + 2) L (.int x :: st) G
  | .lload_n k => n = 1 ∧ ∃ x, L k = some (.long x) ∧ K (pc + 1) L (.long x :: st) G
  | .lload k => n = 2 ∧ ∃ x, L k = some (.long x) ∧ K (pc + 2) L (.long x :: st) G
  | .aload_n k => n = 1 ∧ ∃ x, L k = some x ∧ mx_rv x ∧ K (pc + 1) L (x :: st) G
  | .aload k => n = 2 ∧ ∃ x, L k = some x ∧ mx_rv x ∧ K (pc + 2) L (x :: st) G
  | .istore_n k => n = 1 ∧ ∃ x r, st = .int x :: r ∧ (k : Nat) < mx_ml M ∧ K (pc + 1) (mx_s1 (mx_mg M) L k (.int x)) r G
  | .istore k => n = 2 ∧ ∃ x r, st = .int x :: r ∧ k < mx_ml M ∧ K (pc + 2) (mx_s1 (mx_mg M) L k (.int x)) r G
  | .lstore_n k => n = 1 ∧ ∃ x r, st = .long x :: r ∧ (k : Nat) + 1 < mx_ml M ∧ (mx_mg M).any (Nat.beq k) = true ∧ K (pc + 1) (mx_s2 (mx_mg M) L k (.long x)) r G
  | .lstore k => n = 2 ∧ ∃ x r, st = .long x :: r ∧ k + 1 < mx_ml M ∧ (mx_mg M).any (Nat.beq k) = true ∧ K (pc + 2) (mx_s2 (mx_mg M) L k (.long x)) r G
  | .astore_n k => n = 1 ∧ ∃ x r, st = x :: r ∧ mx_rv x ∧ (k : Nat) < mx_ml M ∧ K (pc + 1) (mx_s1 (mx_mg M) L k x) r G
  | .astore k => n = 2 ∧ ∃ x r, st = x :: r ∧ mx_rv x ∧ k < mx_ml M ∧ K (pc + 2) (mx_s1 (mx_mg M) L k x) r G
  | .iinc k c => n = 3 ∧ ∃ x, L k = some (.int x) ∧ k < mx_ml M ∧ K (pc + 3) (mx_s1 (mx_mg M) L k (.int (x + Int32.ofInt c))) st G
  | .iadd => n = 1 ∧ ∃ x y r, st = .int y :: .int x :: r ∧ K (pc + 1) L (.int (x + y) :: r) G
  | .isub => n = 1 ∧ ∃ x y r, st = .int y :: .int x :: r ∧ K (pc + 1) L (.int (x - y) :: r) G
  | .imul => n = 1 ∧ ∃ x y r, st = .int y :: .int x :: r ∧ K (pc + 1) L (.int (x * y) :: r) G
  | .iand => n = 1 ∧ ∃ x y r, st = .int y :: .int x :: r ∧ K (pc + 1) L (.int (x &&& y) :: r) G
  | .ixor => n = 1 ∧ ∃ x y r, st = .int y :: .int x :: r ∧ K (pc + 1) L (.int (x ^^^ y) :: r) G
  | .ishr => n = 1 ∧ ∃ x y r, st = .int y :: .int x :: r ∧ K (pc + 1) L (.int (x >>> (y &&& 31)) :: r) G
  | .ladd => n = 1 ∧ ∃ x y r, st = .long y :: .long x :: r ∧ K (pc + 1) L (.long (x + y) :: r) G
  | .lsub => n = 1 ∧ ∃ x y r, st = .long y :: .long x :: r ∧ K (pc + 1) L (.long (x - y) :: r) G
  | .lmul => n = 1 ∧ ∃ x y r, st = .long y :: .long x :: r ∧ K (pc + 1) L (.long (x * y) :: r) G
  | .ldiv => n = 1 ∧ ∃ x y r, st = .long y :: .long x :: r ∧ ¬ y = 0 ∧ K (pc + 1) L (.long (x / y) :: r) G
  | .lrem => n = 1 ∧ ∃ x y r, st = .long y :: .long x :: r ∧ ¬ y = 0 ∧ K (pc + 1) L (.long (x - x / y * y) :: r) G
  | .land => n = 1 ∧ ∃ x y r, st = .long y :: .long x :: r ∧ K (pc + 1) L (.long (x &&& y) :: r) G
  | .lor => n = 1 ∧ ∃ x y r, st = .long y :: .long x :: r ∧ K (pc + 1) L (.long (x ||| y) :: r) G
  | .lxor => n = 1 ∧ ∃ x y r, st = .long y :: .long x :: r ∧ K (pc + 1) L (.long (x ^^^ y) :: r) G
  | .lshl => n = 1 ∧ ∃ x y r, st = .int y :: .long x :: r ∧ K (pc + 1) L (.long (x <<< (y.toInt64 &&& 63)) :: r) G
  | .lshr => n = 1 ∧ ∃ x y r, st = .int y :: .long x :: r ∧ K (pc + 1) L (.long (x >>> (y.toInt64 &&& 63)) :: r) G
  | .i2l => n = 1 ∧ ∃ x r, st = .int x :: r ∧ K (pc + 1) L (.long x.toInt64 :: r) G
  | .l2i => n = 1 ∧ ∃ x r, st = .long x :: r ∧ K (pc + 1) L (.int x.toInt32 :: r) G
  | .i2b => n = 1 ∧ ∃ x r, st = .int x :: r ∧ K (pc + 1) L (.int x.toInt8.toInt32 :: r) G
  | .lcmp => n = 1 ∧ ∃ x y r, st = .long y :: .long x :: r ∧ K (pc + 1) L (.int (lg_cmp x y) :: r) G
  | .dup => n = 1 ∧ ∃ x r, st = x :: r ∧ x.category = 1 ∧ K (pc + 1) L (x :: x :: r) G
  | .dup_x1 => n = 1 ∧ ∃ x y r, st = x :: y :: r ∧ x.category = 1 ∧ y.category = 1 ∧ K (pc + 1) L (x :: y :: x :: r) G
  | .pop => n = 1 ∧ ∃ x r, st = x :: r ∧ x.category = 1 ∧ K (pc + 1) L r G
  | .ifCond k off => n = 3 ∧ ∃ x r, ∃ t : Nat, st = .int x :: r ∧ (pc : Int) + off = (t : Int) ∧ (mx_cd k x 0 → K t L r G) ∧ (¬ mx_cd k x 0 → K (pc + 3) L r G)
  | .if_icmp k off => n = 3 ∧ ∃ x y r, ∃ t : Nat, st = .int y :: .int x :: r ∧ (pc : Int) + off = (t : Int) ∧ (mx_cd k x y → K t L r G) ∧ (¬ mx_cd k x y → K (pc + 3) L r G)
  | .if_acmp .eq off => n = 3 ∧ ∃ x y r, ∃ t : Nat, st = va_rf y :: va_rf x :: r ∧ (pc : Int) + off = (t : Int) ∧ (x = y → K t L r G) ∧ (¬ x = y → K (pc + 3) L r G)
  | .if_acmp .ne off => n = 3 ∧ ∃ x y r, ∃ t : Nat, st = va_rf y :: va_rf x :: r ∧ (pc : Int) + off = (t : Int) ∧ (¬ x = y → K t L r G) ∧ (x = y → K (pc + 3) L r G)
  | .ifnull off => n = 3 ∧ ∃ x r, ∃ t : Nat, st = va_rf x :: r ∧ (pc : Int) + off = (t : Int) ∧ (x = none → K t L r G) ∧ (¬ x = none → K (pc + 3) L r G)
  | .ifnonnull off => n = 3 ∧ ∃ x r, ∃ t : Nat, st = va_rf x :: r ∧ (pc : Int) + off = (t : Int) ∧ (¬ x = none → K t L r G) ∧ (x = none → K (pc + 3) L r G)
  | .goto off => n = 3 ∧ ∃ t : Nat, (pc : Int) + off = (t : Int) ∧ K t L st G
  | .tableswitch d lo hi offs => ∃ x r, st = .int x :: r ∧ ((x.toInt < lo ∨ hi < x.toInt) → ∃ t : Nat, (pc : Int) + d = (t : Int) ∧ K t L r G) ∧ (¬ (x.toInt < lo ∨ hi < x.toInt) → ∃ off, ∃ t : Nat, offs[(x.toInt - lo).toNat]? = some off ∧ (pc : Int) + off = (t : Int) ∧ K t L r G)
  | .lookupswitch d ps => ∃ x r, ∃ t : Nat, st = .int x :: r ∧ (ps.toList.zip (ps.toList.drop 1)).all (fun (a, next) => a.1 < next.1) = true ∧ (pc : Int) + Op.lookupswitch.offset ps.toList d x.toInt = (t : Int) ∧ K t L r G
  | .arraylength => n = 1 ∧ ∃ a t x r, st = .ref a :: r ∧ G.1 a = some (.inl (t, x)) ∧ (t < (mx_ty P).length ∨ t = 98 ∨ t = 99) ∧ K (pc + 1) L (.int (Int32.ofNat x.1) :: r) G
  | .iaload => n = 1 ∧ ∃ i a t m f r, st = .int i :: .ref a :: r ∧ (t = 0 ∨ t = 99) ∧ G.1 a = some (.inl (t, m, .inl f)) ∧ vp_in i m ∧ K (pc + 1) L (.int (f i.toNatClampNeg) :: r) G
  | .laload => n = 1 ∧ ∃ i a m f r, st = .int i :: .ref a :: r ∧ G.1 a = some (.inl (1, m, .inr (.inl f))) ∧ vp_in i m ∧ K (pc + 1) L (.long (f i.toNatClampNeg) :: r) G
  | .baload => n = 1 ∧ ∃ i a t m f r, st = .int i :: .ref a :: r ∧ (t = 2 ∨ t = 3) ∧ G.1 a = some (.inl (t, m, .inl f)) ∧ vp_in i m ∧ K (pc + 1) L (.int (f i.toNatClampNeg) :: r) G
  | .aaload => n = 1 ∧ ∃ i a t m f r, st = .int i :: .ref a :: r ∧ (4 ≤ t ∧ t < (mx_ty P).length ∨ t = 98) ∧ G.1 a = some (.inl (t, m, mx_aq f)) ∧ vp_in i m ∧ K (pc + 1) L (va_rf (f i.toNatClampNeg) :: r) G
  | .iastore => n = 1 ∧ ∃ x i a m f r, st = .int x :: .int i :: .ref a :: r ∧ G.1 a = some (.inl (0, m, .inl f)) ∧ mx_t0 P ≤ a ∧ vp_in i m ∧ K (pc + 1) L r (mx_up G a (.inl (0, m, .inl (upd f i.toNatClampNeg x))))
  | .lastore => n = 1 ∧ ∃ x i a m f r, st = .long x :: .int i :: .ref a :: r ∧ G.1 a = some (.inl (1, m, .inr (.inl f))) ∧ mx_t0 P ≤ a ∧ vp_in i m ∧ K (pc + 1) L r (mx_up G a (.inl (1, m, .inr (.inl (vp_updL f i.toNatClampNeg x)))))
  | .bastore => n = 1 ∧ ∃ x i a t m f r, st = .int x :: .int i :: .ref a :: r ∧ (t = 2 ∨ t = 3) ∧ G.1 a = some (.inl (t, m, .inl f)) ∧ mx_t0 P ≤ a ∧ vp_in i m ∧ K (pc + 1) L r (mx_up G a (.inl (t, m, .inl (upd f i.toNatClampNeg (vp_nar (if t = 2 then .byte else .boolean) x)))))
  | .aastore => n = 1 ∧ ∃ x i a t m f r, st = va_rf x :: .int i :: .ref a :: r ∧ 4 ≤ t ∧ t < (mx_ty P).length ∧ G.1 a = some (.inl (t, m, mx_aq f)) ∧ mx_t0 P ≤ a ∧ vp_in i m ∧ (∀ q, x = some q → ∃ c fs, G.1 q = some (.inr (c, fs)) ∧ mx_tg P t c = true) ∧ K (pc + 1) L r (mx_up G a (.inl (t, m, mx_aq (va_up f i.toNatClampNeg x))))
  | .newarray .int => n = 2 ∧ ∃ k r, st = .int k :: r ∧ ¬ k < 0 ∧ k.toNatClampNeg ≤ 1000000 ∧ K (pc + 2) L (.ref G.2.1 :: r) (mx_pu G (.inl (0, k.toNatClampNeg, .inl (fun _ => 0))) k.toNatClampNeg)
  | .newarray .long => n = 2 ∧ ∃ k r, st = .int k :: r ∧ ¬ k < 0 ∧ k.toNatClampNeg ≤ 1000000 ∧ K (pc + 2) L (.ref G.2.1 :: r) (mx_pu G (.inl (1, k.toNatClampNeg, .inr (.inl (fun _ => 0)))) k.toNatClampNeg)
  | .newarray .byte => n = 2 ∧ ∃ k r, st = .int k :: r ∧ ¬ k < 0 ∧ k.toNatClampNeg ≤ 1000000 ∧ K (pc + 2) L (.ref G.2.1 :: r) (mx_pu G (.inl (2, k.toNatClampNeg, .inl (fun _ => 0))) k.toNatClampNeg)
  | .newarray .boolean => n = 2 ∧ ∃ k r, st = .int k :: r ∧ ¬ k < 0 ∧ k.toNatClampNeg ≤ 1000000 ∧ K (pc + 2) L (.ref G.2.1 :: r) (mx_pu G (.inl (3, k.toNatClampNeg, .inl (fun _ => 0))) k.toNatClampNeg)
  | .anewarray j => n = 3 ∧ ∃ k t r, st = .int k :: r ∧ mx_ta P (mx_mc M) j = some t ∧ ¬ k < 0 ∧ k.toNatClampNeg ≤ 1000000 ∧ K (pc + 3) L (.ref G.2.1 :: r) (mx_pu G (.inl (t, k.toNatClampNeg, mx_aq (fun _ => none))) k.toNatClampNeg)
  | .new j => n = 3 ∧ ∃ c fs, mx_tn P (mx_mc M) j = some (c, fs) ∧ K (pc + 3) L (.ref G.2.1 :: st) (mx_pu G (.inr (c, fs)) fs.length)
  | .getfield j => n = 3 ∧ ∃ a v r, st = .ref a :: r ∧ ((∃ c k t b fs, mx_tf P (mx_mc M) j = some (c, k, t, b) ∧ G.1 a = some (.inr (c, fs)) ∧ fs[k]? = some v) ∨ mx_te P (mx_mc M) j a = some v) ∧ K (pc + 3) L (v :: r) G
  | .putfield j => n = 3 ∧ ∃ v a c k t b fs r, st = v :: .ref a :: r ∧ mx_tf P (mx_mc M) j = some (c, k, t, b) ∧ G.1 a = some (.inr (c, fs)) ∧ mx_t0 P ≤ a ∧ (b = true → (mx_my M).name = "<init>" ∧ c = mx_mc M) ∧ narrow t v = v ∧ fits t v = true ∧ k < fs.length ∧ K (pc + 3) L r (mx_up G a (.inr (c, fs.set k v)))
  | .getstatic j => n = 3 ∧ ∃ v, mx_ts P (mx_mc M) j = some v ∧ K (pc + 3) L (v :: st) G
  | .checkcast j => n = 3 ∧ ∃ x r, st = va_rf x :: r ∧ (∀ a, x = some a → ∃ cs c fs, mx_tk P (mx_mc M) j = some cs ∧ G.1 a = some (.inr (c, fs)) ∧ c ∈ cs) ∧ K (pc + 3) L (va_rf x :: r) G
  | .invokevirtual j => n = 3 ∧ ∃ a x r na M', st = .ref a :: r ∧ mx_tm P (mx_mc M) j = some (21, na, M') ∧ G.1 a = some (.inl (4, x)) ∧ (r.map fun v => v.category).sum ≤ 8 ∧ 1 ≤ mx_mf M ∧ 22 ≤ mx_mw M ∧ K (pc + 3) L (.ref (mx_tr P) :: r) G
  | .invokestatic j => n = 3 ∧ ((∃ sp dp cn a0 a n0 n1 f g r na M', st = .int cn :: .int dp :: .ref a :: .int sp :: .ref a0 :: r ∧ mx_tm P (mx_mc M) j = some (20, na, M') ∧ G.1 a0 = some (.inl (4, n0, mx_aq f)) ∧ G.1 a = some (.inl (4, n1, mx_aq g)) ∧ mx_t0 P ≤ a0 ∧ mx_t0 P ≤ a ∧ ¬ sp < 0 ∧ ¬ dp < 0 ∧ ¬ cn < 0 ∧ sp.toNatClampNeg + cn.toNatClampNeg ≤ n0 ∧ dp.toNatClampNeg + cn.toNatClampNeg ≤ n1 ∧ (∀ i, i < cn.toNatClampNeg → ∀ y, f (sp.toNatClampNeg + i) = some y → ∃ c fs, G.1 y = some (.inr (c, fs)) ∧ mx_tg P 4 c = true) ∧ (r.map fun v => v.category).sum ≤ 8 ∧ 1 ≤ mx_mf M ∧ 40 ≤ mx_mw M ∧ K (pc + 3) L r (mx_up G a (.inl (4, n1, mx_aq (va_cpy f g sp.toNatClampNeg dp.toNatClampNeg cn.toNatClampNeg))))) ∨ (∃ x y r na M', st = .int y :: .int x :: r ∧ mx_tm P (mx_mc M) j = some (22, na, M') ∧ (r.map fun v => v.category).sum ≤ 8 ∧ 1 ≤ mx_mf M ∧ 24 ≤ mx_mw M ∧ K (pc + 3) L (.int (if y < x then y else x) :: r) G) ∨ (∃ x y r na M', st = .int y :: .int x :: r ∧ mx_tm P (mx_mc M) j = some (23, na, M') ∧ (r.map fun v => v.category).sum ≤ 8 ∧ 1 ≤ mx_mf M ∧ 24 ≤ mx_mw M ∧ K (pc + 3) L (.int (if x < y then y else x) :: r) G) ∨ (∃ x y r na M', st = .long y :: .long x :: r ∧ mx_tm P (mx_mc M) j = some (24, na, M') ∧ (r.map fun v => v.category).sum ≤ 8 ∧ 1 ≤ mx_mf M ∧ 24 ≤ mx_mw M ∧ K (pc + 3) L (.long (if y < x then y else x) :: r) G) ∨ (∃ x y r na M', st = .long y :: .long x :: r ∧ mx_tm P (mx_mc M) j = some (25, na, M') ∧ (r.map fun v => v.category).sum ≤ 8 ∧ 1 ≤ mx_mf M ∧ 24 ≤ mx_mw M ∧ K (pc + 3) L (.long (if y < x then x else y) :: r) G))
  | _ => False
/-- a method's end -/
def mx_rt (M : mx_M) (st : List Value) (G : mx_H) (n : Nat) (Q : mx_O → mx_H → Prop) (i : Instr) : Prop :=
  match i with
  | .ireturn => n = 1 ∧ ∃ x ty, st = [.int x] ∧ mx_mr M = some ty ∧ narrow ty (.int x) = .int x ∧ Q (.inl (some (.int x))) G
  | .lreturn => n = 1 ∧ ∃ x, st = [.long x] ∧ mx_mr M = some .long ∧ Q (.inl (some (.long x))) G
  | .areturn => n = 1 ∧ ∃ x ty, st = [x] ∧ mx_rv x ∧ mx_mr M = some ty ∧ ((∃ n, ty = .object n) ∨ ∃ t, ty = .array t) ∧ Q (.inl (some x)) G
  | .return_ => n = 1 ∧ st = [] ∧ mx_mr M = none ∧ Q (.inl none) G
  | _ => False
/-- a call: kind (0 of an object's method, 1 a constructor, 11 one of a nest mate's, 2 static), the method, its arguments as they come, the operand stack below; the room below -/
def mx_ca (P : mx_T) (M : mx_M) (st : List Value) (G : mx_H) (n : Nat) (i : Instr) (M' : mx_M) (as rest : List Value) : Prop :=
  n = 3 ∧ (rest.map fun v => v.category).sum ≤ 8 ∧ (lg_sl as).length ≤ mx_ml M' ∧ mx_mf M' + 1 ≤ mx_mf M ∧ 8 + (mx_ml M' + 11) + mx_mw M' ≤ mx_mw M ∧ mx_eg (mx_mg M') 0 as = true ∧ match i with
  | .invokevirtual j => ∃ na a bs, mx_tm P (mx_mc M) j = some (0, na, M') ∧ bs.length = na ∧ as = .ref a :: bs ∧ st = bs.reverse ++ .ref a :: rest ∧ ((∃ fs, G.1 a = some (.inr (mx_mc M', fs))) ∨ mx_to P a = some (mx_mc M'))
  | .invokespecial j => ∃ k na a bs, mx_tm P (mx_mc M) j = some (k, na, M') ∧ (k = 1 ∨ k = 11) ∧ bs.length = na ∧ as = .ref a :: bs ∧ st = bs.reverse ++ .ref a :: rest
  | .invokestatic j => ∃ na, mx_tm P (mx_mc M) j = some (2, na, M') ∧ as.length = na ∧ st = as.reverse ++ rest
  | _ => False
/-- Object's constructor -/
def mx_oi (P : mx_T) (M : mx_M) (st : List Value) (n : Nat) (i : Instr) (rest : List Value) : Prop :=
  match i with
  | .invokespecial j => n = 3 ∧ (∃ na M', mx_tm P (mx_mc M) j = some (3, na, M')) ∧ (rest.map fun v => v.category).sum ≤ 8 ∧ 1 ≤ mx_mf M ∧ 20 ≤ mx_mw M ∧ ∃ a : Nat, st = .ref a :: rest
  | _ => False
/-- the weakest start from which at most k steps (calls counted by their depth and length) come to an end with Q -/
def mx_wp (P : mx_T) : Nat → mx_M → Nat → mx_L → List Value → mx_H → (mx_O → mx_H → Prop) → Prop
  | 0, _, _, _, _, _, _ => False
  | k + 1, M, pc, L, st, G, Q => ∃ i n, decode (mx_mb M) pc = .ok (i, n) ∧
      (mx_nx P M pc L st G n (fun pc' L' st' G' => mx_wp P k M pc' L' st' G' Q) i ∨ mx_rt M st G n Q i ∨
       (∃ rest, mx_oi P M st n i rest ∧ mx_wp P k M (pc + 3) L rest G Q) ∨
       (∃ M' as rest, mx_ca P M st G n i M' as rest ∧ mx_wp P k M' 0 (mx_en 0 as) [] G (fun o G' => ∃ v, o = .inl v ∧ mx_wp P k M (pc + 3) L (v.toList ++ rest) G' Q)))
end
section
set_option maxHeartbeats 4000000 in
/-- an instruction goes on in one way, and takes nothing back -/
theorem mx_nx_one {P : mx_T} {M : mx_M} {pc : Nat} {L : mx_L} {st : List Value} {G : mx_H} {n : Nat} {K : Nat → mx_L → List Value → mx_H → Prop} {i : Instr} (h : mx_nx P M pc L st G n K i) :
    ∃ pc' L' st' G', K pc' L' st' G' ∧ G.2.1 ≤ G'.2.1 ∧ G.2.2 ≤ G'.2.2 ∧ ∀ K' : Nat → mx_L → List Value → mx_H → Prop, K' pc' L' st' G' → mx_nx P M pc L st G n K' i := by
  cases i
  case ifCond k off =>
    obtain ⟨e, x, r, t, e1, e2, ht, hf⟩ := h
    by_cases hc : mx_cd k x 0
    · exact ⟨_, _, _, _, ht hc, Nat.le_refl _, Nat.le_refl _, fun K' h' => ⟨e, x, r, t, e1, e2, fun _ => h', fun q => absurd hc q⟩⟩
    · exact ⟨_, _, _, _, hf hc, Nat.le_refl _, Nat.le_refl _, fun K' h' => ⟨e, x, r, t, e1, e2, fun q => absurd q hc, fun _ => h'⟩⟩
  case if_icmp k off =>
    obtain ⟨e, x, y, r, t, e1, e2, ht, hf⟩ := h
    by_cases hc : mx_cd k x y
    · exact ⟨_, _, _, _, ht hc, Nat.le_refl _, Nat.le_refl _, fun K' h' => ⟨e, x, y, r, t, e1, e2, fun _ => h', fun q => absurd hc q⟩⟩
    · exact ⟨_, _, _, _, hf hc, Nat.le_refl _, Nat.le_refl _, fun K' h' => ⟨e, x, y, r, t, e1, e2, fun q => absurd q hc, fun _ => h'⟩⟩
  case if_acmp k off =>
    cases k
    case eq =>
      obtain ⟨e, x, y, r, t, e1, e2, ht, hf⟩ := h
      by_cases hc : x = y
      · exact ⟨_, _, _, _, ht hc, Nat.le_refl _, Nat.le_refl _, fun K' h' => ⟨e, x, y, r, t, e1, e2, fun _ => h', fun q => absurd hc q⟩⟩
      · exact ⟨_, _, _, _, hf hc, Nat.le_refl _, Nat.le_refl _, fun K' h' => ⟨e, x, y, r, t, e1, e2, fun q => absurd q hc, fun _ => h'⟩⟩
    case ne =>
      obtain ⟨e, x, y, r, t, e1, e2, ht, hf⟩ := h
      by_cases hc : x = y
      · exact ⟨_, _, _, _, hf hc, Nat.le_refl _, Nat.le_refl _, fun K' h' => ⟨e, x, y, r, t, e1, e2, fun q => absurd hc q, fun _ => h'⟩⟩
      · exact ⟨_, _, _, _, ht hc, Nat.le_refl _, Nat.le_refl _, fun K' h' => ⟨e, x, y, r, t, e1, e2, fun _ => h', fun q => absurd q hc⟩⟩
  case ifnull off =>
    obtain ⟨e, x, r, t, e1, e2, ht, hf⟩ := h
    by_cases hc : x = none
    · exact ⟨_, _, _, _, ht hc, Nat.le_refl _, Nat.le_refl _, fun K' h' => ⟨e, x, r, t, e1, e2, fun _ => h', fun q => absurd hc q⟩⟩
    · exact ⟨_, _, _, _, hf hc, Nat.le_refl _, Nat.le_refl _, fun K' h' => ⟨e, x, r, t, e1, e2, fun q => absurd q hc, fun _ => h'⟩⟩
  case ifnonnull off =>
    obtain ⟨e, x, r, t, e1, e2, ht, hf⟩ := h
    by_cases hc : x = none
    · exact ⟨_, _, _, _, hf hc, Nat.le_refl _, Nat.le_refl _, fun K' h' => ⟨e, x, r, t, e1, e2, fun q => absurd hc q, fun _ => h'⟩⟩
    · exact ⟨_, _, _, _, ht hc, Nat.le_refl _, Nat.le_refl _, fun K' h' => ⟨e, x, r, t, e1, e2, fun _ => h', fun q => absurd q hc⟩⟩
  case tableswitch d lo hi offs =>
    obtain ⟨x, r, e1, ht, hf⟩ := h
    by_cases hc : x.toInt < lo ∨ hi < x.toInt
    · obtain ⟨t, e2, h⟩ := ht hc
      exact ⟨_, _, _, _, h, Nat.le_refl _, Nat.le_refl _, fun K' h' => ⟨x, r, e1, fun _ => ⟨t, e2, h'⟩, fun q => absurd hc q⟩⟩
    · obtain ⟨off, t, e2, e3, h⟩ := hf hc
      exact ⟨_, _, _, _, h, Nat.le_refl _, Nat.le_refl _, fun K' h' => ⟨x, r, e1, fun q => absurd q hc, fun _ => ⟨off, t, e2, e3, h'⟩⟩⟩
  case lookupswitch d ps =>
    obtain ⟨x, r, t, e1, e2, e3, h⟩ := h
    exact ⟨_, _, _, _, h, Nat.le_refl _, Nat.le_refl _, fun K' h' => ⟨x, r, t, e1, e2, e3, h'⟩⟩
  case invokestatic j9 =>
    obtain ⟨e, h⟩ := h
    rcases h with h | h | h | h | h
    · obtain ⟨a0, a1, a2, a3, a4, a5, a6, a7, a8, a9, a10, a11, a12, a13, a14, a15, a16, a17, a18, a19, a20, a21, a22, a23, a24, a25, a26, h⟩ := h
      exact ⟨_, _, _, _, h, Nat.le_refl _, Nat.le_refl _, fun K' h' => ⟨e, Or.inl ⟨a0, a1, a2, a3, a4, a5, a6, a7, a8, a9, a10, a11, a12, a13, a14, a15, a16, a17, a18, a19, a20, a21, a22, a23, a24, a25, a26, h'⟩⟩⟩
    · obtain ⟨x, y, r, na, M', e1, e2, e3, e4, e5, h⟩ := h
      exact ⟨_, _, _, _, h, Nat.le_refl _, Nat.le_refl _, fun K' h' => ⟨e, Or.inr (Or.inl ⟨x, y, r, na, M', e1, e2, e3, e4, e5, h'⟩)⟩⟩
    · obtain ⟨x, y, r, na, M', e1, e2, e3, e4, e5, h⟩ := h
      exact ⟨_, _, _, _, h, Nat.le_refl _, Nat.le_refl _, fun K' h' => ⟨e, Or.inr (Or.inr (Or.inl ⟨x, y, r, na, M', e1, e2, e3, e4, e5, h'⟩))⟩⟩
    · obtain ⟨x, y, r, na, M', e1, e2, e3, e4, e5, h⟩ := h
      exact ⟨_, _, _, _, h, Nat.le_refl _, Nat.le_refl _, fun K' h' => ⟨e, Or.inr (Or.inr (Or.inr (Or.inl ⟨x, y, r, na, M', e1, e2, e3, e4, e5, h'⟩)))⟩⟩
    · obtain ⟨x, y, r, na, M', e1, e2, e3, e4, e5, h⟩ := h
      exact ⟨_, _, _, _, h, Nat.le_refl _, Nat.le_refl _, fun K' h' => ⟨e, Or.inr (Or.inr (Or.inr (Or.inr ⟨x, y, r, na, M', e1, e2, e3, e4, e5, h'⟩)))⟩⟩
  case newarray at9 =>
    cases at9
    all_goals first
    | exact False.elim h
    | (obtain ⟨e, a0, a1, a2, h⟩ := h; exact ⟨_, _, _, _, h, by first | exact Nat.le_refl _ | exact Nat.le_add_right _ _, by first | exact Nat.le_refl _ | exact Nat.le_add_right _ _, fun K' h' => ⟨e, a0, a1, a2, h'⟩⟩)
    | (obtain ⟨e, a0, a1, a2, a3, h⟩ := h; exact ⟨_, _, _, _, h, by first | exact Nat.le_refl _ | exact Nat.le_add_right _ _, by first | exact Nat.le_refl _ | exact Nat.le_add_right _ _, fun K' h' => ⟨e, a0, a1, a2, a3, h'⟩⟩)
    | (obtain ⟨e, a0, a1, a2, a3, a4, h⟩ := h; exact ⟨_, _, _, _, h, by first | exact Nat.le_refl _ | exact Nat.le_add_right _ _, by first | exact Nat.le_refl _ | exact Nat.le_add_right _ _, fun K' h' => ⟨e, a0, a1, a2, a3, a4, h'⟩⟩)
  all_goals first
    | exact False.elim h
    | (obtain ⟨e, h⟩ := h; exact ⟨_, _, _, _, h, by first | exact Nat.le_refl _ | exact Nat.le_add_right _ _, by first | exact Nat.le_refl _ | exact Nat.le_add_right _ _, fun K' h' => ⟨e, h'⟩⟩)
    | (obtain ⟨e, a0, h⟩ := h; exact ⟨_, _, _, _, h, by first | exact Nat.le_refl _ | exact Nat.le_add_right _ _, by first | exact Nat.le_refl _ | exact Nat.le_add_right _ _, fun K' h' => ⟨e, a0, h'⟩⟩)
    | (obtain ⟨e, a0, a1, h⟩ := h; exact ⟨_, _, _, _, h, by first | exact Nat.le_refl _ | exact Nat.le_add_right _ _, by first | exact Nat.le_refl _ | exact Nat.le_add_right _ _, fun K' h' => ⟨e, a0, a1, h'⟩⟩)
    | (obtain ⟨e, a0, a1, a2, h⟩ := h; exact ⟨_, _, _, _, h, by first | exact Nat.le_refl _ | exact Nat.le_add_right _ _, by first | exact Nat.le_refl _ | exact Nat.le_add_right _ _, fun K' h' => ⟨e, a0, a1, a2, h'⟩⟩)
    | (obtain ⟨e, a0, a1, a2, a3, h⟩ := h; exact ⟨_, _, _, _, h, by first | exact Nat.le_refl _ | exact Nat.le_add_right _ _, by first | exact Nat.le_refl _ | exact Nat.le_add_right _ _, fun K' h' => ⟨e, a0, a1, a2, a3, h'⟩⟩)
    | (obtain ⟨e, a0, a1, a2, a3, a4, h⟩ := h; exact ⟨_, _, _, _, h, by first | exact Nat.le_refl _ | exact Nat.le_add_right _ _, by first | exact Nat.le_refl _ | exact Nat.le_add_right _ _, fun K' h' => ⟨e, a0, a1, a2, a3, a4, h'⟩⟩)
    | (obtain ⟨e, a0, a1, a2, a3, a4, a5, h⟩ := h; exact ⟨_, _, _, _, h, by first | exact Nat.le_refl _ | exact Nat.le_add_right _ _, by first | exact Nat.le_refl _ | exact Nat.le_add_right _ _, fun K' h' => ⟨e, a0, a1, a2, a3, a4, a5, h'⟩⟩)
    | (obtain ⟨e, a0, a1, a2, a3, a4, a5, a6, h⟩ := h; exact ⟨_, _, _, _, h, by first | exact Nat.le_refl _ | exact Nat.le_add_right _ _, by first | exact Nat.le_refl _ | exact Nat.le_add_right _ _, fun K' h' => ⟨e, a0, a1, a2, a3, a4, a5, a6, h'⟩⟩)
    | (obtain ⟨e, a0, a1, a2, a3, a4, a5, a6, a7, h⟩ := h; exact ⟨_, _, _, _, h, by first | exact Nat.le_refl _ | exact Nat.le_add_right _ _, by first | exact Nat.le_refl _ | exact Nat.le_add_right _ _, fun K' h' => ⟨e, a0, a1, a2, a3, a4, a5, a6, a7, h'⟩⟩)
    | (obtain ⟨e, a0, a1, a2, a3, a4, a5, a6, a7, a8, h⟩ := h; exact ⟨_, _, _, _, h, by first | exact Nat.le_refl _ | exact Nat.le_add_right _ _, by first | exact Nat.le_refl _ | exact Nat.le_add_right _ _, fun K' h' => ⟨e, a0, a1, a2, a3, a4, a5, a6, a7, a8, h'⟩⟩)
    | (obtain ⟨e, a0, a1, a2, a3, a4, a5, a6, a7, a8, a9, h⟩ := h; exact ⟨_, _, _, _, h, by first | exact Nat.le_refl _ | exact Nat.le_add_right _ _, by first | exact Nat.le_refl _ | exact Nat.le_add_right _ _, fun K' h' => ⟨e, a0, a1, a2, a3, a4, a5, a6, a7, a8, a9, h'⟩⟩)
    | (obtain ⟨e, a0, a1, a2, a3, a4, a5, a6, a7, a8, a9, a10, h⟩ := h; exact ⟨_, _, _, _, h, by first | exact Nat.le_refl _ | exact Nat.le_add_right _ _, by first | exact Nat.le_refl _ | exact Nat.le_add_right _ _, fun K' h' => ⟨e, a0, a1, a2, a3, a4, a5, a6, a7, a8, a9, a10, h'⟩⟩)
    | (obtain ⟨e, a0, a1, a2, a3, a4, a5, a6, a7, a8, a9, a10, a11, h⟩ := h; exact ⟨_, _, _, _, h, by first | exact Nat.le_refl _ | exact Nat.le_add_right _ _, by first | exact Nat.le_refl _ | exact Nat.le_add_right _ _, fun K' h' => ⟨e, a0, a1, a2, a3, a4, a5, a6, a7, a8, a9, a10, a11, h'⟩⟩)
    | (obtain ⟨e, a0, a1, a2, a3, a4, a5, a6, a7, a8, a9, a10, a11, a12, h⟩ := h; exact ⟨_, _, _, _, h, by first | exact Nat.le_refl _ | exact Nat.le_add_right _ _, by first | exact Nat.le_refl _ | exact Nat.le_add_right _ _, fun K' h' => ⟨e, a0, a1, a2, a3, a4, a5, a6, a7, a8, a9, a10, a11, a12, h'⟩⟩)
    | (obtain ⟨e, a0, a1, a2, a3, a4, a5, a6, a7, a8, a9, a10, a11, a12, a13, h⟩ := h; exact ⟨_, _, _, _, h, by first | exact Nat.le_refl _ | exact Nat.le_add_right _ _, by first | exact Nat.le_refl _ | exact Nat.le_add_right _ _, fun K' h' => ⟨e, a0, a1, a2, a3, a4, a5, a6, a7, a8, a9, a10, a11, a12, a13, h'⟩⟩)
    | (obtain ⟨e, a0, a1, a2, a3, a4, a5, a6, a7, a8, a9, a10, a11, a12, a13, a14, h⟩ := h; exact ⟨_, _, _, _, h, by first | exact Nat.le_refl _ | exact Nat.le_add_right _ _, by first | exact Nat.le_refl _ | exact Nat.le_add_right _ _, fun K' h' => ⟨e, a0, a1, a2, a3, a4, a5, a6, a7, a8, a9, a10, a11, a12, a13, a14, h'⟩⟩)
    | (obtain ⟨e, a0, a1, a2, a3, a4, a5, a6, a7, a8, a9, a10, a11, a12, a13, a14, a15, h⟩ := h; exact ⟨_, _, _, _, h, by first | exact Nat.le_refl _ | exact Nat.le_add_right _ _, by first | exact Nat.le_refl _ | exact Nat.le_add_right _ _, fun K' h' => ⟨e, a0, a1, a2, a3, a4, a5, a6, a7, a8, a9, a10, a11, a12, a13, a14, a15, h'⟩⟩)
    | (obtain ⟨e, a0, a1, a2, a3, a4, a5, a6, a7, a8, a9, a10, a11, a12, a13, a14, a15, a16, h⟩ := h; exact ⟨_, _, _, _, h, by first | exact Nat.le_refl _ | exact Nat.le_add_right _ _, by first | exact Nat.le_refl _ | exact Nat.le_add_right _ _, fun K' h' => ⟨e, a0, a1, a2, a3, a4, a5, a6, a7, a8, a9, a10, a11, a12, a13, a14, a15, a16, h'⟩⟩)
    | (obtain ⟨e, a0, a1, a2, a3, a4, a5, a6, a7, a8, a9, a10, a11, a12, a13, a14, a15, a16, a17, h⟩ := h; exact ⟨_, _, _, _, h, by first | exact Nat.le_refl _ | exact Nat.le_add_right _ _, by first | exact Nat.le_refl _ | exact Nat.le_add_right _ _, fun K' h' => ⟨e, a0, a1, a2, a3, a4, a5, a6, a7, a8, a9, a10, a11, a12, a13, a14, a15, a16, a17, h'⟩⟩)
    | (obtain ⟨e, a0, a1, a2, a3, a4, a5, a6, a7, a8, a9, a10, a11, a12, a13, a14, a15, a16, a17, a18, h⟩ := h; exact ⟨_, _, _, _, h, by first | exact Nat.le_refl _ | exact Nat.le_add_right _ _, by first | exact Nat.le_refl _ | exact Nat.le_add_right _ _, fun K' h' => ⟨e, a0, a1, a2, a3, a4, a5, a6, a7, a8, a9, a10, a11, a12, a13, a14, a15, a16, a17, a18, h'⟩⟩)
    | (obtain ⟨e, a0, a1, a2, a3, a4, a5, a6, a7, a8, a9, a10, a11, a12, a13, a14, a15, a16, a17, a18, a19, h⟩ := h; exact ⟨_, _, _, _, h, by first | exact Nat.le_refl _ | exact Nat.le_add_right _ _, by first | exact Nat.le_refl _ | exact Nat.le_add_right _ _, fun K' h' => ⟨e, a0, a1, a2, a3, a4, a5, a6, a7, a8, a9, a10, a11, a12, a13, a14, a15, a16, a17, a18, a19, h'⟩⟩)
    | (obtain ⟨e, a0, a1, a2, a3, a4, a5, a6, a7, a8, a9, a10, a11, a12, a13, a14, a15, a16, a17, a18, a19, a20, h⟩ := h; exact ⟨_, _, _, _, h, by first | exact Nat.le_refl _ | exact Nat.le_add_right _ _, by first | exact Nat.le_refl _ | exact Nat.le_add_right _ _, fun K' h' => ⟨e, a0, a1, a2, a3, a4, a5, a6, a7, a8, a9, a10, a11, a12, a13, a14, a15, a16, a17, a18, a19, a20, h'⟩⟩)
    | (obtain ⟨e, a0, a1, a2, a3, a4, a5, a6, a7, a8, a9, a10, a11, a12, a13, a14, a15, a16, a17, a18, a19, a20, a21, h⟩ := h; exact ⟨_, _, _, _, h, by first | exact Nat.le_refl _ | exact Nat.le_add_right _ _, by first | exact Nat.le_refl _ | exact Nat.le_add_right _ _, fun K' h' => ⟨e, a0, a1, a2, a3, a4, a5, a6, a7, a8, a9, a10, a11, a12, a13, a14, a15, a16, a17, a18, a19, a20, a21, h'⟩⟩)
    | (obtain ⟨e, a0, a1, a2, a3, a4, a5, a6, a7, a8, a9, a10, a11, a12, a13, a14, a15, a16, a17, a18, a19, a20, a21, a22, h⟩ := h; exact ⟨_, _, _, _, h, by first | exact Nat.le_refl _ | exact Nat.le_add_right _ _, by first | exact Nat.le_refl _ | exact Nat.le_add_right _ _, fun K' h' => ⟨e, a0, a1, a2, a3, a4, a5, a6, a7, a8, a9, a10, a11, a12, a13, a14, a15, a16, a17, a18, a19, a20, a21, a22, h'⟩⟩)
    | (obtain ⟨e, a0, a1, a2, a3, a4, a5, a6, a7, a8, a9, a10, a11, a12, a13, a14, a15, a16, a17, a18, a19, a20, a21, a22, a23, h⟩ := h; exact ⟨_, _, _, _, h, by first | exact Nat.le_refl _ | exact Nat.le_add_right _ _, by first | exact Nat.le_refl _ | exact Nat.le_add_right _ _, fun K' h' => ⟨e, a0, a1, a2, a3, a4, a5, a6, a7, a8, a9, a10, a11, a12, a13, a14, a15, a16, a17, a18, a19, a20, a21, a22, a23, h'⟩⟩)
    | (obtain ⟨e, a0, a1, a2, a3, a4, a5, a6, a7, a8, a9, a10, a11, a12, a13, a14, a15, a16, a17, a18, a19, a20, a21, a22, a23, a24, h⟩ := h; exact ⟨_, _, _, _, h, by first | exact Nat.le_refl _ | exact Nat.le_add_right _ _, by first | exact Nat.le_refl _ | exact Nat.le_add_right _ _, fun K' h' => ⟨e, a0, a1, a2, a3, a4, a5, a6, a7, a8, a9, a10, a11, a12, a13, a14, a15, a16, a17, a18, a19, a20, a21, a22, a23, a24, h'⟩⟩)
    | (obtain ⟨e, a0, a1, a2, a3, a4, a5, a6, a7, a8, a9, a10, a11, a12, a13, a14, a15, a16, a17, a18, a19, a20, a21, a22, a23, a24, a25, h⟩ := h; exact ⟨_, _, _, _, h, by first | exact Nat.le_refl _ | exact Nat.le_add_right _ _, by first | exact Nat.le_refl _ | exact Nat.le_add_right _ _, fun K' h' => ⟨e, a0, a1, a2, a3, a4, a5, a6, a7, a8, a9, a10, a11, a12, a13, a14, a15, a16, a17, a18, a19, a20, a21, a22, a23, a24, a25, h'⟩⟩)
    | (obtain ⟨e, a0, a1, a2, a3, a4, a5, a6, a7, a8, a9, a10, a11, a12, a13, a14, a15, a16, a17, a18, a19, a20, a21, a22, a23, a24, a25, a26, h⟩ := h; exact ⟨_, _, _, _, h, by first | exact Nat.le_refl _ | exact Nat.le_add_right _ _, by first | exact Nat.le_refl _ | exact Nat.le_add_right _ _, fun K' h' => ⟨e, a0, a1, a2, a3, a4, a5, a6, a7, a8, a9, a10, a11, a12, a13, a14, a15, a16, a17, a18, a19, a20, a21, a22, a23, a24, a25, a26, h'⟩⟩)
    | (obtain ⟨e, a0, a1, a2, a3, a4, a5, a6, a7, a8, a9, a10, a11, a12, a13, a14, a15, a16, a17, a18, a19, a20, a21, a22, a23, a24, a25, a26, a27, h⟩ := h; exact ⟨_, _, _, _, h, by first | exact Nat.le_refl _ | exact Nat.le_add_right _ _, by first | exact Nat.le_refl _ | exact Nat.le_add_right _ _, fun K' h' => ⟨e, a0, a1, a2, a3, a4, a5, a6, a7, a8, a9, a10, a11, a12, a13, a14, a15, a16, a17, a18, a19, a20, a21, a22, a23, a24, a25, a26, a27, h'⟩⟩)
    | (obtain ⟨e, a0, a1, a2, a3, a4, a5, a6, a7, a8, a9, a10, a11, a12, a13, a14, a15, a16, a17, a18, a19, a20, a21, a22, a23, a24, a25, a26, a27, a28, h⟩ := h; exact ⟨_, _, _, _, h, by first | exact Nat.le_refl _ | exact Nat.le_add_right _ _, by first | exact Nat.le_refl _ | exact Nat.le_add_right _ _, fun K' h' => ⟨e, a0, a1, a2, a3, a4, a5, a6, a7, a8, a9, a10, a11, a12, a13, a14, a15, a16, a17, a18, a19, a20, a21, a22, a23, a24, a25, a26, a27, a28, h'⟩⟩)
theorem mx_nx_mono {P : mx_T} {M : mx_M} {pc : Nat} {L : mx_L} {st : List Value} {G : mx_H} {n : Nat} {K K' : Nat → mx_L → List Value → mx_H → Prop} {i : Instr} (hK : ∀ pc L st G, K pc L st G → K' pc L st G) (h : mx_nx P M pc L st G n K i) : mx_nx P M pc L st G n K' i := by
  obtain ⟨pc', L', st', G', h1, -, -, h2⟩ := mx_nx_one h
  exact h2 K' (hK _ _ _ _ h1)
theorem mx_rt_one {M : mx_M} {st : List Value} {G : mx_H} {n : Nat} {Q : mx_O → mx_H → Prop} {i : Instr} (h : mx_rt M st G n Q i) : ∃ o, Q o G ∧ ∀ Q' : mx_O → mx_H → Prop, Q' o G → mx_rt M st G n Q' i := by
  cases i
  all_goals first
    | exact False.elim h
    | (obtain ⟨e, x, ty, e1, e2, e3, h⟩ := h; exact ⟨_, h, fun Q' h' => ⟨e, x, ty, e1, e2, e3, h'⟩⟩)
    | (obtain ⟨e, x, ty, e1, e2, e3, e4, h⟩ := h; exact ⟨_, h, fun Q' h' => ⟨e, x, ty, e1, e2, e3, e4, h'⟩⟩)
    | (obtain ⟨e, x, e1, e2, h⟩ := h; exact ⟨_, h, fun Q' h' => ⟨e, x, e1, e2, h'⟩⟩)
    | (obtain ⟨e, e1, e2, h⟩ := h; exact ⟨_, h, fun Q' h' => ⟨e, e1, e2, h'⟩⟩)
theorem mx_rt_mono {M : mx_M} {st : List Value} {G : mx_H} {n : Nat} {Q Q' : mx_O → mx_H → Prop} {i : Instr} (hQ : ∀ o G, Q o G → Q' o G) (h : mx_rt M st G n Q i) : mx_rt M st G n Q' i := by
  obtain ⟨o, h1, h2⟩ := mx_rt_one h
  exact h2 Q' (hQ _ _ h1)
/-- more steps, a weaker end -/
theorem mx_mono {P : mx_T} : ∀ {k : Nat} {M : mx_M} {pc : Nat} {L : mx_L} {st : List Value} {G : mx_H} {Q Q' : mx_O → mx_H → Prop}, (∀ o G, Q o G → Q' o G) → mx_wp P k M pc L st G Q → mx_wp P k M pc L st G Q' := by
  intro k
  induction k with
  | zero => intro M pc L st G Q Q' _ h; exact h
  | succ k ih =>
    intro M pc L st G Q Q' hQ h
    obtain ⟨i, n, hd, h⟩ := h
    refine ⟨i, n, hd, ?_⟩
    rcases h with h | h | ⟨rest, h1, h2⟩ | ⟨M', as, rest, h1, h2⟩
    · exact Or.inl (mx_nx_mono (fun _ _ _ _ h => ih hQ h) h)
    · exact Or.inr (Or.inl (mx_rt_mono hQ h))
    · exact Or.inr (Or.inr (Or.inl ⟨rest, h1, ih hQ h2⟩))
    · exact Or.inr (Or.inr (Or.inr ⟨M', as, rest, h1, ih (fun o G ⟨v, e, h⟩ => ⟨v, e, ih hQ h⟩) h2⟩))
theorem mx_more {P : mx_T} : ∀ {k : Nat} {M : mx_M} {pc : Nat} {L : mx_L} {st : List Value} {G : mx_H} {Q : mx_O → mx_H → Prop}, mx_wp P k M pc L st G Q → mx_wp P (k + 1) M pc L st G Q := by
  intro k
  induction k with
  | zero => intro M pc L st G Q h; exact h.elim
  | succ k ih =>
    intro M pc L st G Q h
    obtain ⟨i, n, hd, h⟩ := h
    refine ⟨i, n, hd, ?_⟩
    rcases h with h | h | ⟨rest, h1, h2⟩ | ⟨M', as, rest, h1, h2⟩
    · exact Or.inl (mx_nx_mono (fun _ _ _ _ h => ih h) h)
    · exact Or.inr (Or.inl h)
    · exact Or.inr (Or.inr (Or.inl ⟨rest, h1, ih h2⟩))
    · exact Or.inr (Or.inr (Or.inr ⟨M', as, rest, h1, mx_mono (fun o G ⟨v, e, h⟩ => ⟨v, e, ih h⟩) (ih h2)⟩))
theorem mx_le {P : mx_T} {k k' : Nat} {M : mx_M} {pc : Nat} {L : mx_L} {st : List Value} {G : mx_H} {Q : mx_O → mx_H → Prop} (hk : k ≤ k') (h : mx_wp P k M pc L st G Q) : mx_wp P k' M pc L st G Q := by
  induction hk with
  | refl => exact h
  | step _ ih => exact mx_more ih
/-- the end that there is; the heap has only grown -/
theorem mx_exact {P : mx_T} : ∀ {k : Nat} {M : mx_M} {pc : Nat} {L : mx_L} {st : List Value} {G : mx_H} {Q : mx_O → mx_H → Prop}, mx_wp P k M pc L st G Q → ∃ o G', Q o G' ∧ G.2.1 ≤ G'.2.1 ∧ G.2.2 ≤ G'.2.2 ∧ mx_wp P k M pc L st G (fun a b => a = o ∧ b = G') := by
  intro k
  induction k with
  | zero => intro M pc L st G Q h; exact h.elim
  | succ k ih =>
    intro M pc L st G Q h
    obtain ⟨i, n, hd, h⟩ := h
    rcases h with h | h | ⟨rest, h1, h2⟩ | ⟨M', as, rest, h1, h2⟩
    · obtain ⟨pc', L', st', G', h1, s1, s2, h2⟩ := mx_nx_one h
      obtain ⟨o, G'', q1, q2, q3, q4⟩ := ih h1
      exact ⟨o, G'', q1, Nat.le_trans s1 q2, Nat.le_trans s2 q3, i, n, hd, Or.inl (h2 _ q4)⟩
    · obtain ⟨o, q1, q2⟩ := mx_rt_one h
      exact ⟨o, G, q1, Nat.le_refl _, Nat.le_refl _, i, n, hd, Or.inr (Or.inl (q2 _ ⟨rfl, rfl⟩))⟩
    · obtain ⟨o, G'', q1, q2, q3, q4⟩ := ih h2
      exact ⟨o, G'', q1, q2, q3, i, n, hd, Or.inr (Or.inr (Or.inl ⟨rest, h1, q4⟩))⟩
    · obtain ⟨o1, G1, ⟨v, e, h3⟩, s1, s2, h4⟩ := ih h2
      obtain ⟨o, G'', q1, q2, q3, q4⟩ := ih h3
      exact ⟨o, G'', q1, Nat.le_trans s1 q2, Nat.le_trans s2 q3, i, n, hd, Or.inr (Or.inr (Or.inr ⟨M', as, rest, h1, mx_mono (fun a b ⟨e1, e2⟩ => ⟨v, e1.trans e, by rw [e2]; exact q4⟩) h4⟩))⟩
/-- some number of steps does -/
def mx_W (P : mx_T) (M : mx_M) (pc : Nat) (L : mx_L) (st : List Value) (G : mx_H) (Q : mx_O → mx_H → Prop) : Prop := ∃ k, mx_wp P k M pc L st G Q
theorem mx_W.mono {P : mx_T} {M : mx_M} {pc : Nat} {L : mx_L} {st : List Value} {G : mx_H} {Q Q' : mx_O → mx_H → Prop} (hQ : ∀ o G, Q o G → Q' o G) (h : mx_W P M pc L st G Q) : mx_W P M pc L st G Q' := h.elim fun k hk => ⟨k, mx_mono hQ hk⟩
theorem mx_W.step {P : mx_T} {M : mx_M} {pc : Nat} {L : mx_L} {st : List Value} {G : mx_H} {Q : mx_O → mx_H → Prop} {i : Instr} {n : Nat} (hd : decode (mx_mb M) pc = .ok (i, n)) {pc' : Nat} {L' : mx_L} {st' : List Value} {G' : mx_H} (h : ∀ K : Nat → mx_L → List Value → mx_H → Prop, K pc' L' st' G' → mx_nx P M pc L st G n K i) (k : mx_W P M pc' L' st' G' Q) : mx_W P M pc L st G Q := by
  obtain ⟨k, hk⟩ := k
  exact ⟨k + 1, i, n, hd, Or.inl (h _ hk)⟩
theorem mx_W.two {P : mx_T} {M : mx_M} {pc : Nat} {L : mx_L} {st : List Value} {G : mx_H} {Q : mx_O → mx_H → Prop} {i : Instr} {n : Nat} (hd : decode (mx_mb M) pc = .ok (i, n)) {c : Prop} {p1 p2 : Nat} {L' : mx_L} {st' : List Value} {G' : mx_H} (h : ∀ K : Nat → mx_L → List Value → mx_H → Prop, (c → K p1 L' st' G') → (¬ c → K p2 L' st' G') → mx_nx P M pc L st G n K i) (kt : c → mx_W P M p1 L' st' G' Q) (kf : ¬ c → mx_W P M p2 L' st' G' Q) : mx_W P M pc L st G Q := by
  by_cases hc : c
  · obtain ⟨k, hk⟩ := kt hc
    exact ⟨k + 1, i, n, hd, Or.inl (h _ (fun _ => hk) (fun q => absurd hc q))⟩
  · obtain ⟨k, hk⟩ := kf hc
    exact ⟨k + 1, i, n, hd, Or.inl (h _ (fun q => absurd q hc) (fun _ => hk))⟩
end
section
/-! ===== What the small machine says, the machine does ===== -/
def mx_e (aC : Nat → ClassId) (c : mx_C) : va_E := match c with
  | .inl x => .inl (aC x.1, x.2)
  | .inr o => .inr o
/-- an array's place as a value -/
def mx_av (q : (Nat → Int32) ⊕ (Nat → Int64) ⊕ (Nat → UInt32) ⊕ (Nat → UInt64) ⊕ (Nat → Option Nat)) (j : Nat) : Value := match q with
  | .inl f => .int (f j)
  | .inr (.inl f) => .long (f j)
  | .inr (.inr (.inl f)) => .float (f j)
  | .inr (.inr (.inr (.inl f))) => .double (f j)
  | .inr (.inr (.inr (.inr f))) => va_rf (f j)
/-- a cell that was there before: it is read alone -/
def mx_old (cl : List vw_C) (D : va_G) (aC : Nat → ClassId) (a : Nat) (c : mx_C) (H : Heap) : Prop := match c with
  | .inl x => ∃ cell, H[a]? = some cell ∧ cell.cls = aC x.1 ∧ cell.vm.isStatics = false ∧ cell.vm ≠ .unknown ∧ cell.slots.size = x.2.1 ∧ ∀ j, j < x.2.1 → cell.slots[j]? = some (mx_av x.2.2 j)
  | .inr o => ∃ r cell, cl[o.1]? = some r ∧ H[a]? = some cell ∧ cell.cls = D.1 o.1 ∧ cell.vm.isStatics = false ∧ cell.vm ≠ .unknown ∧ ∀ k, k < r.2.2 → cell.slots[D.2 o.1 k]? = some (vp_V o.2 k)
/-- the heap H holds what G says -/
def mx_R (P : mx_T) (cl : List vw_C) (D : va_G) (aC : Nat → ClassId) (H : Heap) (G : mx_H) : Prop := H.size = G.2.1 ∧ ∀ a c, G.1 a = some c → (mx_t0 P ≤ a → va_at D cl (a, mx_e aC c) H) ∧ (a < mx_t0 P → mx_old cl D aC a c H)
def mx_A (P : mx_T) : Nat → Prop := fun q => mx_t0 P ≤ q
def mx_tl (P : mx_T) (aC : Nat → ClassId) : List (ClassId × FieldType) := (mx_ty P).mapIdx fun t ty => (aC t, ty)
/-- what is known of a state: classes, words that aren't of the tables' plain kind, statics -/
def mx_U (P : mx_T) (cn : Nat → String) (cl : List vw_C) (D : va_G) (aC : Nat → ClassId) (tbl nst : List Cond) (ao : List String) (U : State) : Prop :=
  va_K D cl (mx_tl P aC) U ∧ (∀ w ∈ nst, va_Nw w U) ∧ (∀ C ∈ ao, va_AO C U) ∧ (∀ c i v, mx_ts P c i = some v → ∃ C n d, va_Z C n d v (mx_A P) U U.heap ∧ Cond.fieldLink (cn c) i C n d ∈ tbl) ∧ mx_t0 P ≤ U.heap.size ∧ ArrOfT U (aC 99) .int ∧ (∃ C9, ArrOfT U (aC 98) (.object C9)) ∧ va_Mi "[Ljava/lang/Object;" (mx_tr P) U ∧ va_Dc U ∧ (∀ c i a v, mx_te P c i a = some v → ∃ C n d, va_OF C n d v a (mx_A P) U U.heap ∧ Cond.fieldLink (cn c) i C n d ∈ tbl) ∧ ∀ a c, mx_to P a = some c → va_O (cn c) a (mx_A P) U U.heap
/-- the tables say what the words say -/
def mx_okC (cn : Nat → String) (cl : List vw_C) (tbl : List Cond) : Prop := ∀ ci C T N, cl[ci]? = some (C, T, N) → cn ci = C ∧ (∀ w ∈ u_ws C T N, w ∈ tbl) ∧ ∃ ty : Nat → FieldType, (∀ k, k < N → parseFieldDescriptor (T k).2.2.1 = some (ty k)) ∧ ∀ a, a < N → ∀ b, b < N → a ≠ b → (T a).2.1 ≠ (T b).2.1
def mx_okF (P : mx_T) (cn : Nat → String) (cl : List vw_C) (tbl : List Cond) : Prop := ∀ c i ci j ty fin, mx_tf P c i = some (ci, j, ty, fin) → ∃ C T N ref, cl[ci]? = some (C, T, N) ∧ j < N ∧ parseFieldDescriptor (T j).2.2.1 = some ty ∧ (T j).2.2.2 = fin ∧ (fin = true → (T j).1 = cn ci) ∧ Cond.fieldLink (cn c) i ref (T j).2.1 (T j).2.2.1 ∈ tbl ∧ (ref = (T j).1 ∨ Cond.sameField ref (T j).1 (T j).2.1 (T j).2.2.1 ∈ tbl)
def mx_okK (P : mx_T) (cn : Nat → String) (tbl : List Cond) : Prop := (∀ c i x, mx_tc P c i = some (.int x) → Jvm.Cond.constant (cn c) i x ∈ tbl) ∧ (∀ c i x, mx_tc P c i = some (.long x) → Jvm.Cond.constantLong (cn c) i x ∈ tbl) ∧ ∀ c i a, mx_tc P c i = some (.ref a) → Cond.classLink (cn c) i "[Ljava/lang/Object;" ∈ tbl
def mx_okN (P : mx_T) (cn : Nat → String) (cl : List vw_C) (tbl : List Cond) : Prop := ∀ c i ci fs, mx_tn P c i = some (ci, fs) → ∃ C T, cl[ci]? = some (C, T, fs.length) ∧ Cond.classLink (cn c) i C ∈ tbl ∧ Cond.instantiable C fs.length ∈ tbl ∧ Cond.initialized C ∈ tbl ∧ ∀ j, j < fs.length → (parseFieldDescriptor (T j).2.2.1).map defaultValue = some (vp_V fs j)
def mx_okA (P : mx_T) (cn : Nat → String) (tbl : List Cond) (ao : List String) : Prop := ∀ c i t, mx_ta P c i = some t → ∃ C, (mx_ty P)[t]? = some (.object C) ∧ Cond.classLink (cn c) i C ∈ tbl ∧ C ∈ ao
def mx_okY (P : mx_T) (tbl : List Cond) : Prop := (mx_ty P)[0]? = some .int ∧ (mx_ty P)[1]? = some .long ∧ (mx_ty P)[2]? = some .byte ∧ (mx_ty P)[3]? = some .boolean ∧ (mx_ty P)[4]? = some (.object "java/lang/Object") ∧ (∀ t, 4 ≤ t → t < (mx_ty P).length → ∃ C, (mx_ty P)[t]? = some (.object C)) ∧ (∀ a : ArrayType, a = .int ∨ a = .long ∨ a = .byte ∨ a = .boolean → Cond.arrayClass (newarray.typeOf a) ∈ tbl)
def mx_okG (P : mx_T) (cl : List vw_C) (nst : List Cond) : Prop := ∀ t c, mx_tg P t c = true → ∃ E r, (mx_ty P)[t]? = some (.object E) ∧ cl[c]? = some r ∧ (Cond.castable r.1 E ∈ nst ∨ r.1 = E)
def mx_okT (P : mx_T) (cn : Nat → String) (cl : List vw_C) (tbl : List Cond) : Prop := ∀ c i cs, mx_tk P c i = some cs → ∃ nm, Cond.classLink (cn c) i nm ∈ tbl ∧ ∀ ci ∈ cs, ∃ T N, cl[ci]? = some (nm, T, N)
def mx_okM (P : mx_T) (cn : Nat → String) (cl : List vw_C) (tbl nst : List Cond) : Prop := ∀ c i k na M', mx_tm P c i = some (k, na, M') →
  (k = 3 → Cond.methodLink (cn c) i Lib.objectInit ∈ tbl ∧ Cond.instanceMethod Lib.objectInit ∈ tbl ∧ Cond.code Lib.objectInit ⟨#[0xb1]⟩ 1 none ∈ tbl) ∧
  (k = 20 → Cond.methodLink (cn c) i arraycopyName ∈ tbl ∧ Cond.native arraycopyName ∈ tbl ∧ Cond.static arraycopyName ∈ tbl ∧ Cond.initialized "java/lang/System" ∈ tbl) ∧
  (k = 21 → Cond.methodLink (cn c) i ⟨"java/lang/Object", "getClass", "()Ljava/lang/Class;"⟩ ∈ tbl ∧ Cond.selects "[Ljava/lang/Object;" ⟨"java/lang/Object", "getClass", "()Ljava/lang/Class;"⟩ ⟨"java/lang/Object", "getClass", "()Ljava/lang/Class;"⟩ ∈ tbl ∧ Cond.instanceMethod ⟨"java/lang/Object", "getClass", "()Ljava/lang/Class;"⟩ ∈ tbl ∧ Cond.native ⟨"java/lang/Object", "getClass", "()Ljava/lang/Class;"⟩ ∈ tbl) ∧
  (k = 22 → Cond.methodLink (cn c) i Lib.Math.min.name ∈ tbl ∧ Cond.static Lib.Math.min.name ∈ tbl ∧ Cond.initialized "java/lang/Math" ∈ tbl ∧ Cond.code Lib.Math.min.name Lib.Math.min.code 2 (some .int) ∈ tbl) ∧
  (k = 23 → Cond.methodLink (cn c) i Lib.Math.max.name ∈ tbl ∧ Cond.static Lib.Math.max.name ∈ tbl ∧ Cond.initialized "java/lang/Math" ∈ tbl ∧ Cond.code Lib.Math.max.name Lib.Math.max.code 2 (some .int) ∈ tbl) ∧
  (k = 24 → Cond.methodLink (cn c) i Lib.MathLoose.min_long.x ∈ tbl ∧ Cond.static Lib.MathLoose.min_long.x ∈ tbl ∧ Cond.initialized "java/lang/Math" ∈ tbl ∧ Cond.code Lib.MathLoose.min_long.x Lib.MathLoose.min_long.code 4 (some .long) ∈ tbl) ∧
  (k = 25 → Cond.methodLink (cn c) i Lib.MathLoose.max_long.x ∈ tbl ∧ Cond.static Lib.MathLoose.max_long.x ∈ tbl ∧ Cond.initialized "java/lang/Math" ∈ tbl ∧ Cond.code Lib.MathLoose.max_long.x Lib.MathLoose.max_long.code 4 (some .long) ∈ tbl) ∧
  (k ≠ 3 → k < 20 → plainName (mx_my M').cls = true ∧ Cond.code (mx_my M') (mx_mb M') (mx_ml M') (mx_mr M') ∈ tbl ∧ Cond.initialized (mx_my M').cls ∈ tbl ∧ ((mx_my M').cls ≠ "java/lang/invoke/MethodHandle" ∧ (mx_my M').cls ≠ "java/lang/invoke/VarHandle") ∧ (parseMethodDescriptor (mx_my M').desc).map (fun d => d.parameters.length) = some na ∧ (mx_my M').cls = cn (mx_mc M')) ∧
  (k = 0 → Cond.methodLink (cn c) i (mx_my M') ∈ tbl ∧ Cond.instanceMethod (mx_my M') ∈ tbl ∧ Cond.selects (cn (mx_mc M')) (mx_my M') (mx_my M') ∈ tbl) ∧
  (k = 1 → Cond.methodLink (cn c) i (mx_my M') ∈ tbl ∧ Cond.instanceMethod (mx_my M') ∈ tbl ∧ (mx_my M').name = "<init>" ∧ mx_mr M' = none) ∧
  (k = 11 → (∃ host, Cond.methodLinkNest (cn c) i (mx_my M') host ∈ nst) ∧ Cond.instanceMethod (mx_my M') ∈ tbl ∧ (mx_my M').name = "<init>" ∧ mx_mr M' = none) ∧
  (k = 2 → Cond.methodLink (cn c) i (mx_my M') ∈ tbl ∧ Cond.static (mx_my M') ∈ tbl)
def mx_okW (tbl nst : List Cond) : Prop := (∀ w ∈ tbl, goodWord w = true) ∧ ∀ w ∈ nst, (∃ a i x h, w = Cond.methodLinkNest a i x h) ∨ ∃ a b, w = Cond.castable a b
def mx_ok (P : mx_T) (cn : Nat → String) (cl : List vw_C) (tbl nst : List Cond) (ao : List String) : Prop :=
  mx_okW tbl nst ∧ mx_okC cn cl tbl ∧ mx_okF P cn cl tbl ∧ mx_okK P cn tbl ∧ mx_okN P cn cl tbl ∧ mx_okA P cn tbl ao ∧ mx_okY P tbl ∧ mx_okG P cl nst ∧ mx_okT P cn cl tbl ∧ mx_okM P cn cl tbl nst
/-- locals -/
def mx_RL (g : List Nat) (n : Nat) (ls : Array Slot) (L : mx_L) : Prop := ls.size = n ∧ lv_wf ls ∧ ∀ i v, L i = some v → ls[i]? = some (.val v) ∧ (v.category = 2 → g.any (Nat.beq i) = true)
def mx_lv (n : Nat) (L : mx_L) : List (Nat × Value) := (List.range n).filterMap fun j => (L j).map fun v => (j, v)
theorem mx_lv_mem {n : Nat} {L : mx_L} {j : Nat} {v : Value} : (j, v) ∈ mx_lv n L ↔ j < n ∧ L j = some v := by
  simp only [mx_lv, List.mem_filterMap, List.mem_range, Option.map_eq_some_iff]
  constructor
  · rintro ⟨a, h1, w, h2, h3⟩
    cases h3
    exact ⟨h1, h2⟩
  · rintro ⟨h1, h2⟩
    exact ⟨j, h1, v, h2, rfl⟩
theorem mx_lv_has {g : List Nat} {n : Nat} {ls : Array Slot} {L : mx_L} (h : mx_RL g n ls L) : lv_has ls n (mx_lv n L) :=
  ⟨h.1, h.2.1, fun q hq => (h.2.2 q.1 q.2 (mx_lv_mem.mp (show (q.1, q.2) ∈ _ from hq)).2).1⟩
theorem mx_beq {a b : Nat} : Nat.beq a b = true ↔ a = b := ⟨Nat.eq_of_beq_eq_true, fun h => by subst h; exact Nat.beq_refl a⟩
theorem mx_s1_i {g : List Nat} {L : mx_L} {i : Nat} {v : Value} : mx_s1 g L i v i = some v := by simp [mx_s1, Nat.beq_refl]
theorem mx_s1_ne {g : List Nat} {L : mx_L} {i j : Nat} {v w : Value} (hj : j ≠ i) (h : mx_s1 g L i v j = some w) : L j = some w ∧ ¬ (j + 1 = i ∧ g.any (Nat.beq j) = true) := by
  unfold mx_s1 at h
  have h1 : Nat.beq j i = false := by
    cases hb : Nat.beq j i with
    | false => rfl
    | true => exact absurd (mx_beq.mp hb) hj
  rw [h1, cond_false] at h
  cases hb : (Nat.beq (j + 1) i && g.any (Nat.beq j)) with
  | true => rw [hb, cond_true] at h; cases h
  | false =>
    rw [hb, cond_false] at h
    refine ⟨h, fun ⟨q1, q2⟩ => ?_⟩
    rw [mx_beq.mpr q1, q2] at hb
    cases hb
theorem mx_RL1 {g : List Nat} {n : Nat} {ls : Array Slot} {L : mx_L} {i : Nat} {v : Value} (h : mx_RL g n ls L) (hi : i < n) (hv : v.category = 1) {ls' : Array Slot} (h' : lv_has ls' n ((i, v) :: (mx_lv n L).filter (fun q => !(q.1 == i) && !(q.1 + 1 == i && q.2.category == 2)))) : mx_RL g n ls' (mx_s1 g L i v) := by
  refine ⟨h'.1, h'.2.1, fun j w hw => ?_⟩
  by_cases hj : j = i
  · subst hj
    rw [mx_s1_i] at hw
    cases hw
    exact ⟨h'.2.2 _ List.mem_cons_self, fun q => by omega⟩
  · obtain ⟨h1, h2⟩ := mx_s1_ne hj hw
    obtain ⟨h3, h4⟩ := h.2.2 j w h1
    have hjn : j < n := by rw [← h.1]; exact lv_lt h3
    refine ⟨h'.2.2 (j, w) (List.mem_cons_of_mem _ (List.mem_filter.mpr ⟨mx_lv_mem.mpr ⟨hjn, h1⟩, ?_⟩)), h4⟩
    have e1 : (j == i) = false := by simpa using hj
    by_cases hc : j + 1 = i ∧ w.category = 2
    · exact absurd ⟨hc.1, h4 hc.2⟩ h2
    · simp only [e1, Bool.not_false, Bool.true_and, Bool.not_eq_true', Bool.and_eq_false_iff, beq_eq_false_iff_ne]
      by_cases q1 : j + 1 = i
      · exact Or.inr fun q2 => hc ⟨q1, q2⟩
      · exact Or.inl q1
theorem mx_s2_i {g : List Nat} {L : mx_L} {i : Nat} {v : Value} : mx_s2 g L i v i = some v := by simp [mx_s2, Nat.beq_refl]
theorem mx_s2_ne {g : List Nat} {L : mx_L} {i j : Nat} {v w : Value} (hj : j ≠ i) (h : mx_s2 g L i v j = some w) : L j = some w ∧ j ≠ i + 1 ∧ ¬ (j + 1 = i ∧ g.any (Nat.beq j) = true) := by
  unfold mx_s2 at h
  have h1 : Nat.beq j i = false := by
    cases hb : Nat.beq j i with
    | false => rfl
    | true => exact absurd (mx_beq.mp hb) hj
  rw [h1, cond_false] at h
  cases hb0 : Nat.beq j (i + 1) with
  | true => rw [hb0, cond_true] at h; cases h
  | false =>
    rw [hb0, cond_false] at h
    cases hb : (Nat.beq (j + 1) i && g.any (Nat.beq j)) with
    | true => rw [hb, cond_true] at h; cases h
    | false =>
      rw [hb, cond_false] at h
      refine ⟨h, fun q => ?_, fun ⟨q1, q2⟩ => ?_⟩
      · rw [mx_beq.mpr q] at hb0; cases hb0
      · rw [mx_beq.mpr q1, q2] at hb
        cases hb
theorem mx_RL2 {g : List Nat} {n : Nat} {ls : Array Slot} {L : mx_L} {i : Nat} {v : Value} (h : mx_RL g n ls L) (hi : i + 1 < n) (hg : g.any (Nat.beq i) = true) {ls' : Array Slot} (h' : lv_has ls' n ((i, v) :: (mx_lv n L).filter (fun q => !(q.1 == i) && (!(q.1 == i + 1) && !(q.1 + 1 == i && q.2.category == 2))))) : mx_RL g n ls' (mx_s2 g L i v) := by
  refine ⟨h'.1, h'.2.1, fun j w hw => ?_⟩
  by_cases hj : j = i
  · subst hj
    rw [mx_s2_i] at hw
    cases hw
    exact ⟨h'.2.2 _ List.mem_cons_self, fun _ => hg⟩
  · obtain ⟨h1, h0, h2⟩ := mx_s2_ne hj hw
    obtain ⟨h3, h4⟩ := h.2.2 j w h1
    have hjn : j < n := by rw [← h.1]; exact lv_lt h3
    refine ⟨h'.2.2 (j, w) (List.mem_cons_of_mem _ (List.mem_filter.mpr ⟨mx_lv_mem.mpr ⟨hjn, h1⟩, ?_⟩)), h4⟩
    have e1 : (j == i) = false := by simpa using hj
    have e2 : (j == i + 1) = false := by simpa using h0
    by_cases hc : j + 1 = i ∧ w.category = 2
    · exact absurd ⟨hc.1, h4 hc.2⟩ h2
    · simp only [e1, e2, Bool.not_false, Bool.true_and, Bool.not_eq_true', Bool.and_eq_false_iff, beq_eq_false_iff_ne]
      by_cases q1 : j + 1 = i
      · exact Or.inr fun q2 => hc ⟨q1, q2⟩
      · exact Or.inl q1
theorem mx_en_mem : ∀ {as : List Value} {i j : Nat} {v : Value}, mx_en i as j = some v → (j, v) ∈ lv_args i as := by
  intro as
  induction as with
  | nil => intro i j v h; cases h
  | cons w ws ih =>
    intro i j v h
    simp only [mx_en] at h
    cases hb : Nat.beq j i with
    | true =>
      rw [hb, cond_true] at h
      cases h
      rw [mx_beq.mp hb]
      exact List.mem_cons_self
    | false =>
      rw [hb, cond_false] at h
      refine List.mem_cons_of_mem _ ?_
      have := ih h
      cases w <;> simpa [lv_args, Value.category] using this
theorem mx_eg_ok {g : List Nat} : ∀ {as : List Value} {i j : Nat} {v : Value}, mx_eg g i as = true → mx_en i as j = some v → v.category = 2 → g.any (Nat.beq j) = true := by
  intro as
  induction as with
  | nil => intro i j v _ h; cases h
  | cons w ws ih =>
    intro i j v hg h hc
    simp only [mx_en] at h
    cases hb : Nat.beq j i with
    | true =>
      rw [hb, cond_true] at h
      cases h
      have hji := mx_beq.mp hb
      subst hji
      cases w <;> simp [Value.category] at hc
      · simp only [mx_eg, Bool.and_eq_true] at hg
        exact hg.1
      · simp [mx_eg] at hg
    | false =>
      rw [hb, cond_false] at h
      cases w <;> first | (simp only [mx_eg, Bool.and_eq_true] at hg; exact ih hg.2 h hc) | (simp only [mx_eg] at hg; exact ih hg h hc) | (simp [mx_eg] at hg)
theorem mx_RL0 {g : List Nat} {n : Nat} {as : List Value} (h : (lg_sl as).length ≤ n) (hg : mx_eg g 0 as = true) : mx_RL g n ((lg_sl as ++ List.replicate (n - (lg_sl as).length) Slot.unset).toArray) (mx_en 0 as) := by
  have hl := lv_entry as h
  exact ⟨hl.1, hl.2.1, fun i v hv => ⟨hl.2.2 (i, v) (mx_en_mem hv), fun hc => mx_eg_ok hg hv hc⟩⟩
/-- heaps -/
theorem mx_old.kept {cl : List vw_C} {D : va_G} {aC : Nat → ClassId} {a : Nat} {c : mx_C} {H H1 : Heap} (h : mx_old cl D aC a c H) (hq : H1[a]? = H[a]?) : mx_old cl D aC a c H1 := by
  cases c with
  | inl x => obtain ⟨cell, h1, h2⟩ := h; exact ⟨cell, hq.trans h1, h2⟩
  | inr o => obtain ⟨r, cell, h0, h1, h2⟩ := h; exact ⟨r, cell, h0, hq.trans h1, h2⟩
theorem mx_old.lt {cl : List vw_C} {D : va_G} {aC : Nat → ClassId} {a : Nat} {c : mx_C} {H : Heap} (h : mx_old cl D aC a c H) : a < H.size := by
  cases c with
  | inl x => obtain ⟨cell, h1, h2⟩ := h; exact (Array.getElem?_eq_some_iff.mp h1).1
  | inr o => obtain ⟨r, cell, h0, h1, h2⟩ := h; exact (Array.getElem?_eq_some_iff.mp h1).1
theorem mx_R.lt {P : mx_T} {cl : List vw_C} {D : va_G} {aC : Nat → ClassId} {H : Heap} {G : mx_H} {a : Nat} {c : mx_C} (h : mx_R P cl D aC H G) (hc : G.1 a = some c) : a < H.size := by
  rcases Nat.lt_or_ge a (mx_t0 P) with q | q
  · exact ((h.2 a c hc).2 q).lt
  · exact ((h.2 a c hc).1 q).lt
theorem mx_R.up {P : mx_T} {cl : List vw_C} {D : va_G} {aC : Nat → ClassId} {H H1 : Heap} {G : mx_H} {a : Nat} {c : mx_C} (h : mx_R P cl D aC H G) (ha : mx_t0 P ≤ a) (z : H1.size = H.size) (oq : ∀ q : Nat, q ≠ a → H1[q]? = H[q]?) (hc : va_at D cl (a, mx_e aC c) H1) : mx_R P cl D aC H1 (mx_up G a c) := by
  refine ⟨z.trans h.1, fun b d hb => ?_⟩
  by_cases hab : b = a
  · subst hab
    rw [mx_up_s] at hb
    cases hb
    exact ⟨fun _ => hc, fun q => by omega⟩
  · rw [mx_up_n _ _ hab] at hb
    exact ⟨fun q => ((h.2 b d hb).1 q).kept (oq b hab), fun q => ((h.2 b d hb).2 q).kept (oq b hab)⟩
theorem mx_R.pu {P : mx_T} {cl : List vw_C} {D : va_G} {aC : Nat → ClassId} {H H1 : Heap} {G : mx_H} {c : mx_C} {n : Nat} (h : mx_R P cl D aC H G) (h0 : mx_t0 P ≤ H.size) (z : H1.size = H.size + 1) (oq : ∀ q : Nat, q < H.size → H1[q]? = H[q]?) (hc : va_at D cl (H.size, mx_e aC c) H1) : mx_R P cl D aC H1 (mx_pu G c n) := by
  refine ⟨by rw [z, h.1]; rfl, fun b d hb => ?_⟩
  by_cases hab : b = G.2.1
  · subst hab
    rw [mx_pu_s] at hb
    cases hb
    rw [h.1] at hc h0
    exact ⟨fun _ => hc, fun q => by omega⟩
  · rw [mx_pu_n _ _ _ hab] at hb
    have hl := h.lt hb
    exact ⟨fun q => ((h.2 b d hb).1 q).kept (oq b hl), fun q => ((h.2 b d hb).2 q).kept (oq b hl)⟩
/-- an array, an object, wherever it lies -/
theorem mx_arr {P : mx_T} {cl : List vw_C} {D : va_G} {aC : Nat → ClassId} {H : Heap} {G : mx_H} {a t n : Nat} {q : (Nat → Int32) ⊕ (Nat → Int64) ⊕ (Nat → UInt32) ⊕ (Nat → UInt64) ⊕ (Nat → Option Nat)} (h : mx_R P cl D aC H G) (hc : G.1 a = some (.inl (t, n, q))) : ∃ cell, H[a]? = some cell ∧ cell.cls = aC t ∧ cell.vm.isStatics = false ∧ cell.vm ≠ .unknown ∧ cell.slots.size = n ∧ ∀ j, j < n → cell.slots[j]? = some (mx_av q j) := by
  rcases Nat.lt_or_ge a (mx_t0 P) with z | z
  · exact (h.2 a _ hc).2 z
  · have h1 : H[a]? = some (vp_cell (aC t) (n, q)) := (h.2 a _ hc).1 z
    refine ⟨_, h1, ?_⟩
    obtain f | f | f | f | f := q
    · exact ⟨rfl, rfl, (fun e => by cases e), arrV_size _ _ _, fun j hj => arrV_read _ _ hj⟩
    · exact ⟨rfl, rfl, (fun e => by cases e), arrV_size _ _ _, fun j hj => arrV_read _ _ hj⟩
    · exact ⟨rfl, rfl, (fun e => by cases e), arrV_size _ _ _, fun j hj => arrV_read _ _ hj⟩
    · exact ⟨rfl, rfl, (fun e => by cases e), arrV_size _ _ _, fun j hj => arrV_read _ _ hj⟩
    · exact ⟨rfl, rfl, (fun e => by cases e), arrV_size _ _ _, fun j hj => arrV_read _ _ hj⟩
theorem mx_obj {P : mx_T} {cl : List vw_C} {D : va_G} {aC : Nat → ClassId} {H : Heap} {G : mx_H} {a ci : Nat} {fs : List Value} (h : mx_R P cl D aC H G) (hc : G.1 a = some (.inr (ci, fs))) : ∃ r cell, cl[ci]? = some r ∧ H[a]? = some cell ∧ cell.cls = D.1 ci ∧ cell.vm.isStatics = false ∧ cell.vm ≠ .unknown ∧ ∀ k, k < r.2.2 → cell.slots[D.2 ci k]? = some (vp_V fs k) := by
  rcases Nat.lt_or_ge a (mx_t0 P) with z | z
  · exact (h.2 a _ hc).2 z
  · obtain ⟨r, h1, cell, h2, h3, h4, h5⟩ := (h.2 a _ hc).1 z
    exact ⟨r, cell, h1, h2, h3, by rw [h4]; rfl, (by rw [h4]; exact (fun e => by cases e)), h5⟩
theorem mx_isarr {s : State} {cA : ClassId} {ty : FieldType} {cell : Cell} (h : ArrOfT s cA ty) (h1 : cell.cls = cA) (h2 : cell.vm.isStatics = false) : s.isArrayOf cell ty := by
  obtain ⟨-, k, hk, comp, hkind⟩ := h 0 (fun _ => .null)
  exact ⟨(fun z hz => by rw [hz] at h2; cases h2), k, by rw [h1]; exact hk, comp, hkind⟩
theorem mx_recv {P : mx_T} {s : State} {H : Heap} {D : va_G} {cl : List vw_C} {aC : Nat → ClassId} {G : mx_H} {a ci : Nat} {q : vw_C} {fs : List Value} {tys : List (ClassId × FieldType)} (hK : va_K D cl tys s) (hR : mx_R P cl D aC H G) (hc : cl[ci]? = some q) (he : G.1 a = some (.inr (ci, fs))) : ∃ cell : Cell, H[a]? = some cell ∧ cell.vm.isStatics = false ∧ s.vm.findClass q.1 = some cell.cls := by
  obtain ⟨r, cell, h1, h2, h3, h4, h5, h6⟩ := mx_obj hR he
  exact ⟨cell, h2, h4, by rw [h3]; exact (hK.1 ci q hc).2.1⟩
theorem mx_S.pu {A : Nat → Prop} {H0 H H1 : Heap} {locs : List Loc} (hS : va_S A H0 H locs) (z : H1.size = H.size + 1) (oq : ∀ q : Nat, q < H.size → H1[q]? = H[q]?) : va_S A H0 H1 locs :=
  ⟨Nat.le_trans hS.1 (by omega), fun x h1 h2 => (oq x (Nat.lt_of_lt_of_le h1 hS.1)).trans (hS.2.1 x h1 h2), hS.2.2⟩
theorem mx_tl_at {P : mx_T} {aC : Nat → ClassId} {t : Nat} {ty : FieldType} (h : (mx_ty P)[t]? = some ty) : (mx_tl P aC)[t]? = some (aC t, ty) := by
  simp [mx_tl, List.getElem?_mapIdx, h]
theorem mx_U.moved {P : mx_T} {cn : Nat → String} {cl : List vw_C} {D : va_G} {aC : Nat → ClassId} {tbl nst : List Cond} {ao : List String} {s U : State} (hw : mx_okW tbl nst) (h : mx_U P cn cl D aC tbl nst ao s) (hW : s.WarmedH U.vm) {locs : List Loc} (hS : va_S (mx_A P) s.heap U.heap locs) : mx_U P cn cl D aC tbl nst ao U := by
  obtain ⟨h1, h2, h3, h4, h5, h6, ⟨C9, h9⟩, h7, h8, h10, h11⟩ := h
  refine ⟨va_K.moved hW.alike h1, fun w hn => ?_, fun C hC => va_AO.moved hW.alike (h3 C hC), fun c i v hv => ?_, Nat.le_trans h5 hS.1, arrOfT_moved hW.alike h6, ⟨C9, arrOfT_moved hW.alike h9⟩, va_Mi.moved hW.alike h7, va_Dc.moved hW.alike h8, (fun c i a v hv => by obtain ⟨C, n, d, q1, q2⟩ := h10 c i a v hv; exact ⟨C, n, d, (va_OF.moved hW.alike q1).kept hS.2.1, q2⟩), fun a c hv => (va_O.moved hW.alike (h11 a c hv)).kept hS.2.1⟩
  · rcases hw.2 w hn with ⟨a, i, x, h, rfl⟩ | ⟨a, b, rfl⟩
    · exact va_Nw.warmM hW (h2 _ hn)
    · exact va_Nw.warmC hW (h2 _ hn)
  · obtain ⟨C, n, d, q1, q2⟩ := h4 c i v hv
    exact ⟨C, n, d, (va_Z.moved hW.alike q1).kept hS.2.1, q2⟩
theorem mx_U.calling {P : mx_T} {cn : Nat → String} {cl : List vw_C} {D : va_G} {aC : Nat → ClassId} {tbl nst : List Cond} {ao : List String} {U : State} (hw : mx_okW tbl nst) (h : mx_U P cn cl D aC tbl nst ao U) (g : JFrame) (mk : MethodId) (a : Array Value) : mx_U P cn cl D aC tbl nst ao (U.calling g mk a) := by
  obtain ⟨h1, h2, h3, h4, h5, h6, ⟨C9, h9⟩, h7, h8, h10, h11⟩ := h
  refine ⟨va_K.moved (u := U) (U := U.calling g mk a) (Vm.Alike.refl U.vm) h1, fun w hn => ?_, fun C hC => va_AO.moved (u := U) (U := U.calling g mk a) (Vm.Alike.refl U.vm) (h3 C hC), fun c i v hv => ?_, h5, arrOfT_moved (u := U) (E := U.calling g mk a) (Vm.Alike.refl U.vm) h6, ⟨C9, arrOfT_moved (u := U) (E := U.calling g mk a) (Vm.Alike.refl U.vm) h9⟩, va_Mi.moved (u := U) (U := U.calling g mk a) (Vm.Alike.refl U.vm) h7, va_Dc.moved (u := U) (U := U.calling g mk a) (Vm.Alike.refl U.vm) h8, (fun c i a9 v hv => by obtain ⟨C, n, d, q1, q2⟩ := h10 c i a9 v hv; exact ⟨C, n, d, va_OF.moved (u := U) (U := U.calling g mk a) (Vm.Alike.refl U.vm) q1, q2⟩), fun a9 c hv => va_O.moved (u := U) (U := U.calling g mk a) (Vm.Alike.refl U.vm) (h11 a9 c hv)⟩
  · rcases hw.2 w hn with ⟨a', i, x, h, rfl⟩ | ⟨a', b, rfl⟩
    · exact va_Nw.same (u := U) (U := U.calling g mk a) rfl rfl (h2 _ hn)
    · exact va_Nw.same (u := U) (U := U.calling g mk a) rfl rfl (h2 _ hn)
  · obtain ⟨C, n, d, q1, q2⟩ := h4 c i v hv
    exact ⟨C, n, d, va_Z.moved (u := U) (U := U.calling g mk a) (Vm.Alike.refl U.vm) q1, q2⟩
end
section
theorem mx_rt_n {M : mx_M} {st : List Value} {G : mx_H} {n : Nat} {Q : mx_O → mx_H → Prop} {i : Instr} (h : mx_rt M st G n Q i) : n = 1 := by
  cases i
  all_goals first
    | exact False.elim h
    | exact h.1
theorem mx_sz {P : mx_T} {k : Nat} {M : mx_M} {pc : Nat} {L : mx_L} {st : List Value} {G : mx_H} {o : mx_O} {G' : mx_H} (h : mx_wp P k M pc L st G (fun a b => a = o ∧ b = G')) : G.2.1 ≤ G'.2.1 ∧ G.2.2 ≤ G'.2.2 := by
  obtain ⟨o2, G2, ⟨-, e⟩, h1, h2, -⟩ := mx_exact h
  subst e
  exact ⟨h1, h2⟩
/-- a frame's surroundings -/
def mx_X (P : mx_T) (cn : Nat → String) (cl : List vw_C) (D : va_G) (aC : Nat → ClassId) (tbl nst : List Cond) (ao : List String) (M : mx_M) (p : Program) (s : State) (m : MethodId) (args : Array Value) (meth : Method) (c : Code) : Prop :=
  p.tables.exec = Jvm.exec ∧ c.code = mx_mb M ∧ c.maxLocals = mx_ml M ∧ s.vm.findClass (cn (mx_mc M)) = some m.cls ∧ (∀ w ∈ tbl, w.before args s = true) ∧ mx_U P cn cl D aC tbl nst ao s ∧ meth.name = (mx_my M).name
/-- a frame's run of k steps, for the machine -/
def mx_Fs (P : mx_T) (cn : Nat → String) (cl : List vw_C) (D : va_G) (aC : Nat → ClassId) (tbl nst : List Cond) (ao : List String) (l : Launch) (k : Nat) : Prop :=
  ∀ (M : mx_M) (pc : Nat) (L : mx_L) (st : List Value) (G : mx_H) (o : mx_O) (G' : mx_H), mx_wp P k M pc L st G (fun a b => a = o ∧ b = G') →
  ∀ (p : Program) (e : Env) (R : Room) (s : State) (m : MethodId) (args : Array Value) (below : List Frame) (meth : Method) (c : Code) (H : Heap) (locs : List Loc) (cells slots : Nat) (Qf : State → Prop) (ls : Array Slot) (z0 u0 : Nat),
    mx_X P cn cl D aC tbl nst ao M p s m args meth c → mx_mf M ≤ R.frames → mx_mw M ≤ R.locals → mx_R P cl D aC H G → va_S (mx_A P) s.heap H locs → mx_RL (mx_mg M) (mx_ml M) ls L → cells + z0 = G.2.1 → slots + u0 = G.2.2 → G'.2.1 ≤ z0 + R.cells → G'.2.2 ≤ u0 + R.slots →
    (∀ (H' : Heap) (locs' : List Loc) (cells' slots' : Nat) (ls' : Array Slot) (pc' : Nat) (i : Instr) (st' : List Value), mx_R P cl D aC H' G' → va_S (mx_A P) s.heap H' locs' → cells' + z0 = G'.2.1 → slots' + u0 = G'.2.2 → decode (mx_mb M) pc' = .ok (i, 1) → mx_rt M st' G' 1 (fun a b => a = o ∧ b = G') i → W p l e R s m args below meth c H' locs' cells' slots' Qf (F0 m pc' ls' st')) →
    W p l e R s m args below meth c H locs cells slots Qf (F0 m pc ls st)
def mx_Pc (P : mx_T) (cn : Nat → String) (cl : List vw_C) (D : va_G) (aC : Nat → ClassId) (tbl nst : List Cond) (ao : List String) (as : List Value) (G : mx_H) : Array Value → State → Prop := fun v U => v = as.toArray ∧ mx_R P cl D aC U.heap G ∧ mx_U P cn cl D aC tbl nst ao U
def mx_Qc (P : mx_T) (cl : List vw_C) (D : va_G) (aC : Nat → ClassId) (v : Option Value) (G' : mx_H) : Array Value → State → Outcome → State → Prop := fun _ st oc t => oc = .returned v ∧ mx_R P cl D aC t.heap G' ∧ va_F (mx_A P) st t
set_option maxHeartbeats 4000000 in
theorem mx_met {P : mx_T} {cn : Nat → String} {cl : List vw_C} {D : va_G} {aC : Nat → ClassId} {tbl nst : List Cond} {ao : List String} {l : Launch} {k : Nat} (hF : mx_Fs P cn cl D aC tbl nst ao l k) {M : mx_M} {as : List Value} {G : mx_H} {v : Option Value} {G' : mx_H} (hw : mx_wp P k M 0 (mx_en 0 as) [] G (fun a b => a = .inl v ∧ b = G')) (hlen : (lg_sl as).length ≤ mx_ml M) (hg : mx_eg (mx_mg M) 0 as = true) (hpl : plainName (mx_my M).cls = true) (hcl : (mx_my M).cls = cn (mx_mc M)) :
    Met l (mx_my M) (Cond.code (mx_my M) (mx_mb M) (mx_ml M) (mx_mr M) :: tbl) { frames := mx_mf M, cells := G'.2.1 - G.2.1, slots := G'.2.2 - G.2.2, locals := mx_mw M } (mx_Pc P cn cl D aC tbl nst ao as G) (mx_Qc P cl D aC v G') (G'.2.1 - G.2.1) (G'.2.2 - G.2.2) (mx_A P) := by
  refine Met.ofW (cc := mx_mb M) (maxL := mx_ml M) (ret := mx_mr M) hpl rfl ?_
  intro p e s m args below meth c s₁ B hml hv
  obtain ⟨rfl, hR, hU⟩ := hv
  have hts := atoms_spec (ws := Cond.code (mx_my M) (mx_mb M) (mx_ml M) (mx_mr M) :: tbl) B.pre
  have hown : s.vm.findClass (mx_my M).cls = some m.cls := findClass_of_methodNamed B.named
  have hsz := mx_sz hw
  rw [lg_entry_eq]
  refine hF M 0 _ [] G _ G' hw p e _ s m _ below meth c s.heap [] 0 0 _ _ G.2.1 G.2.2 ⟨B.exec, B.bytes, hml, by rw [← hcl]; exact hown, fun w h => hts w (List.mem_cons_of_mem _ h), hU, (name_of_methodNamed B.named B.method).1⟩ (Nat.le_refl _) (Nat.le_refl _) hR va_S.rf (mx_RL0 hlen hg) (Nat.zero_add _) (Nat.zero_add _) (by show _ ≤ _ + (G'.2.1 - G.2.1); omega) (by show _ ≤ _ + (G'.2.2 - G.2.2); omega) ?_
  intro H' locs' cells' slots' ls' pc' i st' hR' hS' hc hs hd hrt
  have e1 : cells' = G'.2.1 - G.2.1 := by omega
  have e2 : slots' = G'.2.2 - G.2.2 := by omega
  subst e1 e2
  cases i
  case ireturn =>
    obtain ⟨-, x, ty, rfl, hr, hn, h1, -⟩ := hrt
    cases h1
    exact W.zret B.exec B.bytes (B.returns.trans hr) hn (fun t ht hW => ⟨rfl, by rw [ht]; exact hR', hS'.F ht⟩) hS'.2.2 hd (hlocks := B.notSynchronized)
  case lreturn =>
    obtain ⟨-, x, rfl, hr, h1, -⟩ := hrt
    cases h1
    exact W.lret B.exec B.bytes (B.returns.trans hr) (fun t ht hW => ⟨rfl, by rw [ht]; exact hR', hS'.F ht⟩) hS'.2.2 hd (hlocks := B.notSynchronized)
  case areturn =>
    obtain ⟨-, x, ty, rfl, hx, hr, hty, h1, -⟩ := hrt
    cases h1
    exact W.aret B.exec B.bytes (B.returns.trans hr) hty hx (fun t ht hW => ⟨rfl, by rw [ht]; exact hR', hS'.F ht⟩) hS'.2.2 hd (hlocks := B.notSynchronized)
  case return_ =>
    obtain ⟨-, rfl, hr, h1, -⟩ := hrt
    cases h1
    exact W.vret B.exec B.bytes (B.returns.trans hr) (fun t ht hW => ⟨rfl, by rw [ht]; exact hR', hS'.F ht⟩) hS'.2.2 hd (hlocks := B.notSynchronized)
  all_goals exact False.elim hrt
theorem mx_call {P : mx_T} {cl : List vw_C} {D : va_G} {aC : Nat → ClassId} {p : Program} {l : Launch} {e : Env} {R : Room} {s : State} {m : MethodId} {args : Array Value} {below : List Frame} {meth : Method} {c : Code} {H : Heap} {locs : List Loc} {cells slots mc ms : Nat} {Q : State → Prop} {pc : Nat} {ls : Array Slot} {st0 rest : List Value} {a : Array Value} {v : Option Value} {G' : mx_H}
    (hr : va_Run p l e R s m args below meth c H locs cells slots mc ms (F0 m pc ls st0) rest (mx_Qc P cl D aC v G' a) (mx_A P)) (hS : va_S (mx_A P) s.heap H locs)
    (kk : ∀ (H1 : Heap) (locs1 : List Loc), mx_R P cl D aC H1 G' → va_S (mx_A P) s.heap H1 locs1 → W p l e R s m args below meth c H1 locs1 (cells + mc) (slots + ms) Q (F0 m (pc + 3) ls (v.toList ++ rest))) : W p l e R s m args below meth c H locs cells slots Q (F0 m pc ls st0) := by
  intro T hT X
  obtain ⟨v', st₀, t, T', L, h0, X', hL, e1, e2, ⟨hv, hR, hz, hk⟩, st⟩ := hr T hT X
  cases hv
  rw [h0] at hz hk
  obtain ⟨t2, a1, b1⟩ := kk T'.heap (locs ++ L) (by rw [e1]; exact hR)
    ⟨Nat.le_trans hS.1 (by rw [e1]; exact hz), fun q h1 h2 => by rw [e1, hk q (Nat.lt_of_lt_of_le h1 hS.1) h2]; exact hS.2.1 q h1 h2, fun q hq => by
      rcases List.mem_append.mp hq with h | h
      · exact hS.2.2 q h
      · exact hL q h⟩ T' rfl X'
  exact ⟨t2, st t2 a1, b1⟩
theorem mx_good {tbl nst : List Cond} {w : Cond} (h : mx_okW tbl nst) (hw : w ∈ tbl) : GoodIn tbl (w :: tbl) := fun x hx => by
  have hm : x ∈ tbl := (List.mem_cons.mp hx).elim (fun e => by rw [e]; exact hw) id
  exact ⟨hm, good_of_word (h.1 x hm)⟩
theorem mx_blind {P : mx_T} {cn : Nat → String} {cl : List vw_C} {D : va_G} {aC : Nat → ClassId} {tbl nst : List Cond} {ao : List String} (hw : mx_okW tbl nst) (as : List Value) (G : mx_H) : FrameBlind (mx_Pc P cn cl D aC tbl nst ao as G) := fun a U g mk ⟨e, hR, hU⟩ => ⟨e, hR, hU.calling hw g mk a⟩
end
section
section
variable {p : Program} {l : Launch} {e : Env} {R : Room} {s : State} {m : MethodId} {args : Array Value} {below : List Frame} {meth : Method} {c : Code} {H : Heap} {locs : List Loc} {cells slots : Nat} {Q : State → Prop} {pc : Nat} {ls : Array Slot} {rest : List Value} {D : va_G} {cl : List vw_C} {a : Nat} {tys : List (ClassId × FieldType)}
/-- System.arraycopy of references: the cell anew, all others as they were -/
theorem mx_copy {cc : ByteArray} (hexec : p.tables.exec = Jvm.exec) (hb : c.code = cc) (hml : c.maxLocals = ls.size) {own : String} {index : Nat} (hown : s.vm.findClass own = some m.cls) (hlink : (Cond.methodLink own index arraycopyName).before args s = true) (hnat : (Cond.native arraycopyName).before args s = true) (hstat : (Cond.static arraycopyName).before args s = true) (hini : (Cond.initialized "java/lang/System").before args s = true)
    (hK : va_K D cl tys s) {t0 a0 : Nat} {c0 : ClassId} {n0 n1 : Nat} {f g : Nat → Option Nat} {E0 : String} (ht : tys[t0]? = some (c0, .object E0)) (ha0 : H[a0]? = some (vp_cell c0 (n0, mx_aq f))) (ha1 : H[a]? = some (vp_cell c0 (n1, mx_aq g)))
    {sp dp n : Int32} (h1 : ¬ sp < 0) (h2 : ¬ dp < 0) (h3 : ¬ n < 0) (h4 : sp.toNatClampNeg + n.toNatClampNeg ≤ n0) (h5 : dp.toNatClampNeg + n.toNatClampNeg ≤ n1) (hel : ∀ i : Nat, i < n.toNatClampNeg → ∀ y : Nat, f (sp.toNatClampNeg + i) = some y → va_Any E0 s H y)
    (hframes : 1 ≤ R.frames) (hlocals : (rest.map fun v => v.category).sum + (nativeFrameWords "java/lang/System" "arraycopy" 5 + 11) ≤ R.locals) (hdg : decode cc pc = .ok (.invokestatic index, 3))
    (kk : ∀ (H1 : Heap) (locs1 : List Loc), H1.size = H.size → (∀ q : Nat, q ≠ a → H1[q]? = H[q]?) → H1[a]? = some (vp_cell c0 (n1, mx_aq (va_cpy f g sp.toNatClampNeg dp.toNatClampNeg n.toNatClampNeg))) → (∀ q ∈ locs1, q ∈ locs ∨ q.base = a) → W p l e R s m args below meth c H1 locs1 cells slots Q (F0 m (pc + 3) ls rest)) : W p l e R s m args below meth c H locs cells slots Q (F0 m pc ls (.int n :: .int dp :: .ref a :: .int sp :: .ref a0 :: rest)) := by
  have nn : ∀ z : Int32, ¬ z < 0 → z.toInt = (z.toNatClampNeg : Int) := by
    intro z hz
    have hz0 : (0 : Int) ≤ z.toInt := by
      have := Int32.not_lt.mp hz
      simpa using Int32.le_iff_toInt_le.mp this
    show z.toInt = ((z.toInt.toNat : Nat) : Int)
    omega
  intro T hT X
  have hc0 : H[a0]? = some (vp_cell c0 (n0, .inr (.inr (.inr (.inr f))))) := ha0
  have hc1 : H[a]? = some (vp_cell c0 (n1, .inr (.inr (.inr (.inr g))))) := ha1
  obtain ⟨-, k1, hk1, cm1, hkk1⟩ := (hK.2 t0 _ ht).1 n1 (fun j => va_rf (g j))
  obtain ⟨vm', X', step⟩ := X.arraycopy hexec hown hlink hnat hstat hini (src := a0) (dst := a) (cs := vp_cell c0 (n0, .inr (.inr (.inr (.inr f))))) (cd := vp_cell c0 (n1, .inr (.inr (.inr (.inr g))))) (srcPos := sp) (destPos := dp) (n := n) (by rw [hT]; exact hc0) (by rw [hT]; exact hc1)
    (fun _ h => by cases h) (fun _ h => by cases h) (fun h => by cases h) (fun h => by cases h) hk1 hk1 hkk1 hkk1 rfl h1 h2 h3
    (by rw [nn sp h1, nn n h3]; show ¬ _ > ((arrV c0 n0 (fun j => va_rf (f j))).slots.size : Int); rw [arrV_size]; omega)
    (by rw [nn dp h2, nn n h3]; show ¬ _ > ((arrV c0 n1 (fun j => va_rf (g j))).slots.size : Int); rw [arrV_size]; omega)
    (fun vm₁ hal i hi => by
      have e : (vp_cell c0 (n0, .inr (.inr (.inr (.inr f))))).slots.getD (sp.toNatClampNeg + i) .null = va_rf (f (sp.toNatClampNeg + i)) := by
        show (arrV c0 n0 (fun j => va_rf (f j))).slots.getD _ _ = _
        rw [Array.getD_eq_getD_getElem?, arrV_read _ _ (by omega)]
        rfl
      rw [e]
      cases hy : f (sp.toNatClampNeg + i) with
      | none => exact ⟨rfl, trivial⟩
      | some y =>
        obtain ⟨cellV, g1, g2, ⟨kC, hkC⟩, hasg⟩ := hel i hi y hy
        obtain ⟨kA, comp, r1, r2, r3, -⟩ := (hK.2 t0 _ ht).2
        cases hk1.symm.trans r1
        cases hkk1.symm.trans r2
        obtain ⟨kE, hkE, -⟩ := Vm.findClass_spec r3
        obtain ⟨kC', hkC', -⟩ := hal.2.2 _ _ hkC
        obtain ⟨kE', hkE', -⟩ := hal.2.2 _ _ hkE
        refine ⟨rfl, cellV, (show T.heap[y]? = some cellV by rw [hT]; exact g1), (fun q h => by rw [h] at g2; cases g2), ⟨kC', hkC'⟩, ?_, ?_⟩
        · exact ⟨kE', hkE'⟩
        · show vm₁.assignable _ _ = true
          rw [hal.assignable]
          exact hasg _ r3)
    (g := F0 m pc ls (.int n :: .int dp :: .ref a :: .int sp :: .ref a0 :: rest)) rfl (by rw [hml]) (rest := rest) rfl (by rw [hb]; exact hdg) hframes (by show 2 * 0 + _ + _ ≤ _; omega)
  have e1 : copied (vp_cell c0 (n0, .inr (.inr (.inr (.inr f))))) (vp_cell c0 (n1, .inr (.inr (.inr (.inr g))))) sp dp n = vp_cell c0 (n1, .inr (.inr (.inr (.inr (va_cpy f g sp.toNatClampNeg dp.toNatClampNeg n.toNatClampNeg))))) := by
    rw [vp_cell_q, vp_cell_q, vp_cell_q]
    exact va_copied (fun z => va_rf z) c0 c0 f g h4
  rw [e1] at X' step
  have hl : a < H.size := (Array.getElem?_eq_some_iff.mp hc1).1
  have hheap : ((T.setVm vm').setCell a (vp_cell c0 (n1, .inr (.inr (.inr (.inr (va_cpy f g sp.toNatClampNeg dp.toNatClampNeg n.toNatClampNeg))))))).heap = H.setIfInBounds a (vp_cell c0 (n1, .inr (.inr (.inr (.inr (va_cpy f g sp.toNatClampNeg dp.toNatClampNeg n.toNatClampNeg)))))) := by rw [← hT]; rfl
  obtain ⟨t, a1, b1⟩ := kk _ _ (by simp) (fun q hq => by simp [Array.getElem?_setIfInBounds, Ne.symm hq]) (show (H.setIfInBounds a _)[a]? = some _ by simp [Array.getElem?_setIfInBounds, hl]; rfl) (fun q hq => by
      rcases List.mem_append.mp hq with h | h
      · exact Or.inl h
      · obtain ⟨z, -, hz⟩ := List.mem_map.mp h
        rw [← hz]
        exact Or.inr rfl) _ hheap X'
  exact ⟨t, step t a1, b1⟩
end
abbrev mx_al (f : Nat → Int64) : (Nat → Int32) ⊕ (Nat → Int64) ⊕ (Nat → UInt32) ⊕ (Nat → UInt64) ⊕ (Nat → Option Nat) := .inr (.inl f)
set_option maxHeartbeats 8000000 in
set_option maxRecDepth 100000 in
/-- instructions that are neither calls nor ends -/
theorem mx_sn {P : mx_T} {cn : Nat → String} {cl : List vw_C} {D : va_G} {aC : Nat → ClassId} {tbl nst : List Cond} {ao : List String} (hok : mx_ok P cn cl tbl nst ao) {l : Launch} {k : Nat} {M : mx_M} {pc : Nat} {L : mx_L} {st : List Value} {G : mx_H} {o : mx_O} {G' : mx_H} {i : Instr} {n : Nat} (hd : decode (mx_mb M) pc = .ok (i, n)) (h : mx_nx P M pc L st G n (fun pc' L' st' G1 => mx_wp P k M pc' L' st' G1 (fun a b => a = o ∧ b = G')) i)
    {p : Program} {e : Env} {R : Room} {s : State} {m : MethodId} {args : Array Value} {below : List Frame} {meth : Method} {c : Code} {H : Heap} {locs : List Loc} {cells slots : Nat} {Qf : State → Prop} {ls : Array Slot} {z0 u0 : Nat}
    (X : mx_X P cn cl D aC tbl nst ao M p s m args meth c) (hfr : mx_mf M ≤ R.frames) (hlo : mx_mw M ≤ R.locals) (hR : mx_R P cl D aC H G) (hS : va_S (mx_A P) s.heap H locs) (hL : mx_RL (mx_mg M) (mx_ml M) ls L) (hc : cells + z0 = G.2.1) (hs : slots + u0 = G.2.2) (hG1 : G'.2.1 ≤ z0 + R.cells) (hG2 : G'.2.2 ≤ u0 + R.slots)
    (go : ∀ {pc' : Nat} {L' : mx_L} {st' : List Value} {G1 : mx_H} {H1 : Heap} {locs1 : List Loc} {cells1 slots1 : Nat} {ls1 : Array Slot}, mx_wp P k M pc' L' st' G1 (fun a b => a = o ∧ b = G') → mx_R P cl D aC H1 G1 → va_S (mx_A P) s.heap H1 locs1 → mx_RL (mx_mg M) (mx_ml M) ls1 L' → cells1 + z0 = G1.2.1 → slots1 + u0 = G1.2.2 → W p l e R s m args below meth c H1 locs1 cells1 slots1 Qf (F0 m pc' ls1 st')) :
    W p l e R s m args below meth c H locs cells slots Qf (F0 m pc ls st) := by
  obtain ⟨hx, hb, hml, hown, hts, ⟨hK, hN, hAO, hZ, h0, hScr, ⟨C98, hTyp⟩, hMi, hDc, hEn, hEo⟩, hnm⟩ := X
  obtain ⟨okW, okC, okF, okK, okN, okA, okY, okG, okT, okM⟩ := hok
  obtain ⟨y0, y1, y2, y3, yO, y4, y5⟩ := okY
  have h0H : mx_t0 P ≤ H.size := Nat.le_trans h0 hS.1
  cases i
  case aconst_null =>
    obtain ⟨rfl, h⟩ := h
    exact lv_null hx hb hd (go h hR hS hL hc hs)
  case iconst k9 =>
    obtain ⟨rfl, h⟩ := h
    exact lv_iconst hx hb hd rfl (go h hR hS hL hc hs)
  case lconst k9 =>
    obtain ⟨rfl, h⟩ := h
    exact lv_lconst hx hb hd rfl (go h hR hS hL hc hs)
  case bipush k9 =>
    obtain ⟨rfl, h⟩ := h
    exact lv_bipush hx hb hd rfl (go h hR hS hL hc hs)
  case sipush k9 =>
    obtain ⟨rfl, h⟩ := h
    exact lv_sipush hx hb hd rfl (go h hR hS hL hc hs)
  case ldc k9 =>
    obtain ⟨rfl, x, h1, h2, h⟩ := h
    rcases h2 with ⟨y, rfl⟩ | rfl
    · exact lv_ldc hx hb hown (hts _ (okK.1 _ _ _ h1)) hd (go h hR hS hL hc hs)
    · exact va_ldcM hx hb hown (hts _ (okK.2.2 _ _ _ h1)) hMi hd (go h hR hS hL hc hs)
  case ldc_w k9 =>
    obtain ⟨rfl, x, h1, h⟩ := h
    exact lv_ldcw hx hb hown (hts _ (okK.1 _ _ _ h1)) hd (go h hR hS hL hc hs)
  case ldc2_w k9 =>
    obtain ⟨rfl, x, h1, h⟩ := h
    exact lv_ldc2 hx hb hown (hts _ (okK.2.1 _ _ _ h1)) hd (go h hR hS hL hc hs)
  case iload_n k9 =>
    obtain ⟨rfl, x, h1, h⟩ := h
    exact lv_iload_n hx hb hd rfl (hL.2.2 _ _ h1).1 (go h hR hS hL hc hs)
  case lload_n k9 =>
    obtain ⟨rfl, x, h1, h⟩ := h
    exact lv_lload_n hx hb hd rfl (hL.2.2 _ _ h1).1 (go h hR hS hL hc hs)
  case iload k9 =>
    obtain ⟨rfl, x, h1, h⟩ := h
    exact lv_iload hx hb hd (hL.2.2 _ _ h1).1 (go h hR hS hL hc hs)
  case lload k9 =>
    obtain ⟨rfl, x, h1, h⟩ := h
    exact lv_lload hx hb hd (hL.2.2 _ _ h1).1 (go h hR hS hL hc hs)
  case aload_n k9 =>
    obtain ⟨rfl, x, h1, h2, h⟩ := h
    rcases h2 with rfl | ⟨a, rfl⟩
    · exact lv_aload_nN hx hb hd rfl (hL.2.2 _ _ h1).1 (go h hR hS hL hc hs)
    · exact lv_aload_n hx hb hd rfl (hL.2.2 _ _ h1).1 (go h hR hS hL hc hs)
  case aload k9 =>
    obtain ⟨rfl, x, h1, h2, h⟩ := h
    rcases h2 with rfl | ⟨a, rfl⟩
    · exact lv_aloadN hx hb hd (hL.2.2 _ _ h1).1 (go h hR hS hL hc hs)
    · exact lv_aload hx hb hd (hL.2.2 _ _ h1).1 (go h hR hS hL hc hs)
  case istore_n k9 =>
    obtain ⟨rfl, x, r, rfl, h2, h⟩ := h
    exact lv_istore_n hx hb hd rfl (mx_lv_has hL) h2 rfl (fun ls' h' => go h hR hS (mx_RL1 hL h2 rfl h') hc hs)
  case istore k9 =>
    obtain ⟨rfl, x, r, rfl, h2, h⟩ := h
    exact lv_istore hx hb hd (mx_lv_has hL) h2 rfl (fun ls' h' => go h hR hS (mx_RL1 hL h2 rfl h') hc hs)
  case lstore_n k9 =>
    obtain ⟨rfl, x, r, rfl, h2, h3, h⟩ := h
    exact lv_lstore_n hx hb hd rfl (mx_lv_has hL) h2 rfl (fun ls' h' => go h hR hS (mx_RL2 hL h2 h3 h') hc hs)
  case lstore k9 =>
    obtain ⟨rfl, x, r, rfl, h2, h3, h⟩ := h
    exact lv_lstore hx hb hd (mx_lv_has hL) h2 rfl (fun ls' h' => go h hR hS (mx_RL2 hL h2 h3 h') hc hs)
  case astore_n k9 =>
    obtain ⟨rfl, x, r, rfl, h1, h2, h⟩ := h
    rcases h1 with rfl | ⟨a, rfl⟩
    · exact lv_astore_nN hx hb hd rfl (mx_lv_has hL) h2 rfl (fun ls' h' => go h hR hS (mx_RL1 hL h2 rfl h') hc hs)
    · exact lv_astore_n hx hb hd rfl (mx_lv_has hL) h2 rfl (fun ls' h' => go h hR hS (mx_RL1 hL h2 rfl h') hc hs)
  case astore k9 =>
    obtain ⟨rfl, x, r, rfl, h1, h2, h⟩ := h
    rcases h1 with rfl | ⟨a, rfl⟩
    · exact lv_astoreN hx hb hd (mx_lv_has hL) h2 rfl (fun ls' h' => go h hR hS (mx_RL1 hL h2 rfl h') hc hs)
    · exact lv_astore hx hb hd (mx_lv_has hL) h2 rfl (fun ls' h' => go h hR hS (mx_RL1 hL h2 rfl h') hc hs)
  case iinc k9 c9 =>
    obtain ⟨rfl, x, h1, h2, h⟩ := h
    obtain ⟨q9, hq9⟩ := List.getElem?_of_mem (mx_lv_mem.mpr ⟨h2, h1⟩)
    exact lv_iinc hx hb hd (mx_lv_has hL) hq9 rfl h2 rfl (fun ls' h' => go h hR hS (mx_RL1 hL h2 rfl h') hc hs)
  case iadd =>
    obtain ⟨rfl, x, y, r, rfl, h⟩ := h
    exact lv_iadd hx hb hd (go h hR hS hL hc hs)
  case isub =>
    obtain ⟨rfl, x, y, r, rfl, h⟩ := h
    exact lv_isub hx hb hd (go h hR hS hL hc hs)
  case imul =>
    obtain ⟨rfl, x, y, r, rfl, h⟩ := h
    exact lv_imul hx hb hd (go h hR hS hL hc hs)
  case iand =>
    obtain ⟨rfl, x, y, r, rfl, h⟩ := h
    exact lv_iand hx hb hd (go h hR hS hL hc hs)
  case ixor =>
    obtain ⟨rfl, x, y, r, rfl, h⟩ := h
    exact lv_ixor hx hb hd (go h hR hS hL hc hs)
  case ishr =>
    obtain ⟨rfl, x, y, r, rfl, h⟩ := h
    exact lv_ishr hx hb hd (go h hR hS hL hc hs)
  case ladd =>
    obtain ⟨rfl, x, y, r, rfl, h⟩ := h
    exact lv_ladd hx hb hd (go h hR hS hL hc hs)
  case lsub =>
    obtain ⟨rfl, x, y, r, rfl, h⟩ := h
    exact lv_lsub hx hb hd (go h hR hS hL hc hs)
  case lmul =>
    obtain ⟨rfl, x, y, r, rfl, h⟩ := h
    exact lv_lmul hx hb hd (go h hR hS hL hc hs)
  case land =>
    obtain ⟨rfl, x, y, r, rfl, h⟩ := h
    exact lv_land hx hb hd (go h hR hS hL hc hs)
  case lor =>
    obtain ⟨rfl, x, y, r, rfl, h⟩ := h
    exact lv_lor hx hb hd (go h hR hS hL hc hs)
  case lxor =>
    obtain ⟨rfl, x, y, r, rfl, h⟩ := h
    exact lv_lxor hx hb hd (go h hR hS hL hc hs)
  case ldiv =>
    obtain ⟨rfl, x, y, r, rfl, h1, h⟩ := h
    exact lv_ldiv hx hb hd h1 (go h hR hS hL hc hs)
  case lrem =>
    obtain ⟨rfl, x, y, r, rfl, h1, h⟩ := h
    exact lv_lrem hx hb hd h1 (go h hR hS hL hc hs)
  case lshl =>
    obtain ⟨rfl, x, y, r, rfl, h⟩ := h
    exact lv_lshl hx hb hd rfl (go h hR hS hL hc hs)
  case lshr =>
    obtain ⟨rfl, x, y, r, rfl, h⟩ := h
    exact lv_lshr hx hb hd rfl (go h hR hS hL hc hs)
  case i2l =>
    obtain ⟨rfl, x, r, rfl, h⟩ := h
    exact lv_i2l hx hb hd rfl (go h hR hS hL hc hs)
  case l2i =>
    obtain ⟨rfl, x, r, rfl, h⟩ := h
    exact lv_l2i hx hb hd rfl (go h hR hS hL hc hs)
  case i2b =>
    obtain ⟨rfl, x, r, rfl, h⟩ := h
    exact lv_i2b hx hb hd rfl (go h hR hS hL hc hs)
  case lcmp =>
    obtain ⟨rfl, x, y, r, rfl, h⟩ := h
    exact W.lcmp hx hb hd (go h hR hS hL hc hs)
  case dup =>
    obtain ⟨rfl, x, r, rfl, h1, h⟩ := h
    exact lv_dup hx hb hd h1 (go h hR hS hL hc hs)
  case dup_x1 =>
    obtain ⟨rfl, x, y, r, rfl, h1, h2, h⟩ := h
    exact lv_dup_x1 hx hb hd h1 h2 (go h hR hS hL hc hs)
  case pop =>
    obtain ⟨rfl, x, r, rfl, h1, h⟩ := h
    exact lv_pop hx hb hd h1 (go h hR hS hL hc hs)
  case ifCond k9 off =>
    obtain ⟨rfl, x, r, t, rfl, h2, ht, hf⟩ := h
    cases k9
    · exact lv_if_eq hx hb hd h2 (fun q => go (ht q) hR hS hL hc hs) (fun q => go (hf q) hR hS hL hc hs)
    · exact lv_if_ne hx hb hd h2 (fun q => go (ht q) hR hS hL hc hs) (fun q => go (hf (fun z => z q)) hR hS hL hc hs)
    · exact lv_if_lt hx hb hd h2 (fun q => go (ht q) hR hS hL hc hs) (fun q => go (hf q) hR hS hL hc hs)
    · exact lv_if_ge hx hb hd h2 (fun q => go (ht q) hR hS hL hc hs) (fun q => go (hf q) hR hS hL hc hs)
    · exact lv_if_gt hx hb hd h2 (fun q => go (ht q) hR hS hL hc hs) (fun q => go (hf q) hR hS hL hc hs)
    · exact lv_if_le hx hb hd h2 (fun q => go (ht q) hR hS hL hc hs) (fun q => go (hf q) hR hS hL hc hs)
  case if_icmp k9 off =>
    obtain ⟨rfl, x, y, r, t, rfl, h2, ht, hf⟩ := h
    cases k9
    · exact lv_icmp_eq hx hb hd h2 (fun q => go (ht q) hR hS hL hc hs) (fun q => go (hf q) hR hS hL hc hs)
    · exact lv_icmp_ne hx hb hd h2 (fun q => go (ht q) hR hS hL hc hs) (fun q => go (hf (fun z => z q)) hR hS hL hc hs)
    · exact lv_icmp_lt hx hb hd h2 (fun q => go (ht q) hR hS hL hc hs) (fun q => go (hf q) hR hS hL hc hs)
    · exact lv_icmp_ge hx hb hd h2 (fun q => go (ht q) hR hS hL hc hs) (fun q => go (hf q) hR hS hL hc hs)
    · exact lv_icmp_gt hx hb hd h2 (fun q => go (ht q) hR hS hL hc hs) (fun q => go (hf q) hR hS hL hc hs)
    · exact lv_icmp_le hx hb hd h2 (fun q => go (ht q) hR hS hL hc hs) (fun q => go (hf q) hR hS hL hc hs)
  case if_acmp k9 off =>
    cases k9
    · obtain ⟨rfl, x, y, r, t, rfl, h2, ht, hf⟩ := h
      exact lv_acmp_eq hx hb hd h2 (fun q => go (ht q) hR hS hL hc hs) (fun q => go (hf q) hR hS hL hc hs)
    · obtain ⟨rfl, x, y, r, t, rfl, h2, ht, hf⟩ := h
      exact lv_acmp_ne hx hb hd h2 (fun q => go (ht q) hR hS hL hc hs) (fun q => go (hf q) hR hS hL hc hs)
  case ifnull off =>
    obtain ⟨rfl, x, r, t, rfl, h2, ht, hf⟩ := h
    cases x with
    | none => exact lv_ifnullN hx hb hd h2 (go (ht rfl) hR hS hL hc hs)
    | some a => exact lv_ifnull hx hb hd (go (hf (fun z => nomatch z)) hR hS hL hc hs)
  case ifnonnull off =>
    obtain ⟨rfl, x, r, t, rfl, h2, ht, hf⟩ := h
    cases x with
    | none => exact lv_ifnonnullN hx hb hd (go (hf rfl) hR hS hL hc hs)
    | some a => exact lv_ifnonnull hx hb hd h2 (go (ht (fun z => nomatch z)) hR hS hL hc hs)
  case goto off =>
    obtain ⟨rfl, t, h2, h⟩ := h
    exact lv_goto hx hb hd h2 (go h hR hS hL hc hs)
  case tableswitch d9 lo hi offs =>
    obtain ⟨x, r, rfl, ht, hf⟩ := h
    by_cases hq : x.toInt < lo ∨ hi < x.toInt
    · obtain ⟨t, h2, h⟩ := ht hq
      exact lv_tableOut hx hb hd hq h2 (go h hR hS hL hc hs)
    · obtain ⟨off, t, h1, h2, h⟩ := hf hq
      exact lv_tableIn hx hb hd (fun z => hq (Or.inl z)) (fun z => hq (Or.inr z)) h1 h2 (go h hR hS hL hc hs)
  case lookupswitch d9 ps =>
    obtain ⟨x, r, t, rfl, h1, h2, h⟩ := h
    exact lv_lookup hx hb hd h1 rfl h2 (go h hR hS hL hc hs)
  case arraylength =>
    obtain ⟨rfl, a, t, ⟨n, q⟩, r, rfl, h1, h2, h⟩ := h
    obtain ⟨cell, c1, c2, c3, c4, c5, -⟩ := mx_arr hR h1
    rcases h2 with h2 | h2 | h2
    · exact W.alen hx hb c1 (mx_isarr (hK.2 t _ (mx_tl_at (List.getElem?_eq_getElem h2))).1 c2 c3) (by rw [c5]) rfl rfl hd (go h hR hS hL hc hs)
    · subst h2
      exact W.alen hx hb c1 (mx_isarr hTyp c2 c3) (by rw [c5]) rfl rfl hd (go h hR hS hL hc hs)
    · subst h2
      exact W.alen hx hb c1 (mx_isarr hScr c2 c3) (by rw [c5]) rfl rfl hd (go h hR hS hL hc hs)
  case iaload =>
    obtain ⟨rfl, i, a, t, n, f, r, rfl, h3, h1, h2, h⟩ := h
    obtain ⟨cell, c1, c2, c3, c4, c5, c6⟩ := mx_arr hR h1
    rcases h3 with rfl | rfl
    · exact W.iald hx hb c1 (mx_isarr (hK.2 0 _ (mx_tl_at y0)).1 c2 c3) c4 (by rw [c5]; exact h2) (c6 _ (Nat.not_le.mp fun q => h2 (Or.inr q))) rfl rfl hd (go h hR hS hL hc hs)
    · exact W.iald hx hb c1 (mx_isarr hScr c2 c3) c4 (by rw [c5]; exact h2) (c6 _ (Nat.not_le.mp fun q => h2 (Or.inr q))) rfl rfl hd (go h hR hS hL hc hs)
  case laload =>
    obtain ⟨rfl, i, a, n, f, r, rfl, h1, h2, h⟩ := h
    obtain ⟨cell, c1, c2, c3, c4, c5, c6⟩ := mx_arr hR h1
    exact W.lald hx hb c1 (mx_isarr (hK.2 1 _ (mx_tl_at y1)).1 c2 c3) c4 (by rw [c5]; exact h2) (c6 _ (Nat.not_le.mp fun q => h2 (Or.inr q))) rfl rfl hd (go h hR hS hL hc hs)
  case baload =>
    obtain ⟨rfl, i, a, t, n, f, r, rfl, h3, h1, h2, h⟩ := h
    obtain ⟨cell, c1, c2, c3, c4, c5, c6⟩ := mx_arr hR h1
    rcases h3 with rfl | rfl
    · exact W.bald hx hb c1 (mx_isarr (hK.2 2 _ (mx_tl_at y2)).1 c2 c3) c4 (by rw [c5]; exact h2) (c6 _ (Nat.not_le.mp fun q => h2 (Or.inr q))) rfl rfl hd (go h hR hS hL hc hs)
    · exact W.zald hx hb c1 (mx_isarr (hK.2 3 _ (mx_tl_at y3)).1 c2 c3) c4 (by rw [c5]; exact h2) (c6 _ (Nat.not_le.mp fun q => h2 (Or.inr q))) rfl rfl hd (go h hR hS hL hc hs)
  case aaload =>
    obtain ⟨rfl, i, a, t, n, f, r, rfl, h3, h1, h2, h⟩ := h
    obtain ⟨cell, c1, c2, c3, c4, c5, c6⟩ := mx_arr hR h1
    rcases h3 with ⟨h3, h4⟩ | h3
    · obtain ⟨C, hC⟩ := y4 t h3 h4
      exact W.aald (ty := .object C) hx hb c1 (mx_isarr (hK.2 t _ (mx_tl_at hC)).1 c2 c3) rfl c4 (by rw [c5]; exact h2) (c6 _ (Nat.not_le.mp fun q => h2 (Or.inr q))) rfl rfl hd (go h hR hS hL hc hs)
    · subst h3
      exact W.aald (ty := .object C98) hx hb c1 (mx_isarr hTyp c2 c3) rfl c4 (by rw [c5]; exact h2) (c6 _ (Nat.not_le.mp fun q => h2 (Or.inr q))) rfl rfl hd (go h hR hS hL hc hs)
  case iastore =>
    obtain ⟨rfl, x, i, a, n, f, r, rfl, h1, h2, h3, h⟩ := h
    refine W.iast hx hb (show H[a]? = some (vp_cell (aC 0) (n, .inl f)) from (hR.2 a _ h1).1 h2) ((hK.2 0 _ (mx_tl_at y0)).1 n (fun j => .int (f j))) (fun q => by cases q) (by show ¬ (i < 0 ∨ (arrV _ _ _).slots.size ≤ _); rw [arrV_size]; exact h3) rfl rfl hd fun H1 e9 z oq => ?_
    refine go h (hR.up h2 z oq ?_) (hS.put z oq h2) hL hc hs
    show H1[a]? = some (vp_cell (aC 0) (n, .inl (upd f i.toNatClampNeg x)))
    rw [e9]
    rw [vp_cell_i, vp_cell_i, arrV_store]
    congr 2
    funext q
    by_cases hq : q = i.toNatClampNeg
    · subst hq
      simp [updV, upd]
      try rfl
    · simp [updV, upd, hq]
  case lastore =>
    obtain ⟨rfl, x, i, a, n, f, r, rfl, h1, h2, h3, h⟩ := h
    refine W.last hx hb (show H[a]? = some (vp_cell (aC 1) (n, mx_al f)) from (hR.2 a _ h1).1 h2) ((hK.2 1 _ (mx_tl_at y1)).1 n (fun j => .long (f j))) (fun q => by cases q) (by show ¬ (i < 0 ∨ (arrV _ _ _).slots.size ≤ _); rw [arrV_size]; exact h3) rfl rfl hd fun H1 e9 z oq => ?_
    refine go h (hR.up h2 z oq ?_) (hS.put z oq h2) hL hc hs
    show H1[a]? = some (vp_cell (aC 1) (n, mx_al (vp_updL f i.toNatClampNeg x)))
    rw [e9]
    rw [vp_cell_l, vp_cell_l, arrV_store]
    congr 2
    funext q
    by_cases hq : q = i.toNatClampNeg
    · subst hq
      simp [updV, vp_updL]
      try rfl
    · simp [updV, vp_updL, hq]
  case bastore =>
    obtain ⟨rfl, x, i, a, t, n, f, r, rfl, h4, h1, h2, h3, h⟩ := h
    rcases h4 with rfl | rfl
    · refine W.bast hx hb (show H[a]? = some (vp_cell (aC 2) (n, .inl f)) from (hR.2 a _ h1).1 h2) ((hK.2 2 _ (mx_tl_at y2)).1 n (fun j => .int (f j))) (fun q => by cases q) (by show ¬ (i < 0 ∨ (arrV _ _ _).slots.size ≤ _); rw [arrV_size]; exact h3) rfl rfl hd fun H1 e9 z oq => ?_
      refine go h (hR.up h2 z oq ?_) (hS.put z oq h2) hL hc hs
      show H1[a]? = some (vp_cell (aC 2) (n, .inl (upd f i.toNatClampNeg (vp_nar .byte x))))
      rw [e9]
      rw [vp_cell_i, vp_cell_i, arrV_store]
      congr 2
      funext q
      by_cases hq : q = i.toNatClampNeg
      · subst hq
        simp [updV, upd, vp_nar]
        try rfl
      · simp [updV, upd, vp_nar, hq]
    · refine W.zast hx hb (show H[a]? = some (vp_cell (aC 3) (n, .inl f)) from (hR.2 a _ h1).1 h2) ((hK.2 3 _ (mx_tl_at y3)).1 n (fun j => .int (f j))) (fun q => by cases q) (by show ¬ (i < 0 ∨ (arrV _ _ _).slots.size ≤ _); rw [arrV_size]; exact h3) rfl rfl hd fun H1 e9 z oq => ?_
      refine go h (hR.up h2 z oq ?_) (hS.put z oq h2) hL hc hs
      show H1[a]? = some (vp_cell (aC 3) (n, .inl (upd f i.toNatClampNeg (vp_nar .boolean x))))
      rw [e9]
      rw [vp_cell_i, vp_cell_i, arrV_store]
      congr 2
      funext q
      by_cases hq : q = i.toNatClampNeg
      · subst hq
        simp [updV, upd, vp_nar]
        try rfl
      · simp [updV, upd, vp_nar, hq]
  case aastore =>
    obtain ⟨rfl, x, i, a, t, n, f, r, rfl, h4, h5, h1, h2, h3, h6, h⟩ := h
    obtain ⟨C, hC⟩ := y4 t h4 h5
    have fin : ∀ (H1 : Heap), H1[a]? = some ((vp_cell (aC t) (n, mx_aq f)).setSlot i.toNatClampNeg (va_rf x)) → H1[a]? = some (vp_cell (aC t) (n, mx_aq (va_up f i.toNatClampNeg x))) := by
      intro H1 e9
      rw [e9]
      show some ((vp_cell (aC t) (n, .inr (.inr (.inr (.inr f))))).setSlot i.toNatClampNeg (va_rf x)) = some (vp_cell (aC t) (n, .inr (.inr (.inr (.inr (va_up f i.toNatClampNeg x))))))
      rw [vp_cell_q, vp_cell_q, arrV_store]
      congr 2
      funext q
      by_cases hq : q = i.toNatClampNeg
      · subst hq
        simp [updV, va_up]
      · simp [updV, va_up, hq]
    cases x with
    | none =>
      exact va_WaastN (C := C) hx hb (show H[a]? = some (vp_cell (aC t) (n, mx_aq f)) from (hR.2 a _ h1).1 h2) ((hK.2 t _ (mx_tl_at hC)).1 n (fun j => va_rf (f j))) (fun q => by cases q) (by show ¬ (i < 0 ∨ (arrV _ _ _).slots.size ≤ _); rw [arrV_size]; exact h3) rfl rfl hd fun H1 e9 z oq => go h (hR.up h2 z oq (fin H1 e9)) (hS.put z oq h2) hL hc hs
    | some v =>
      obtain ⟨ci, fs, g1, g2⟩ := h6 v rfl
      obtain ⟨E, r9, k1, k2, k3⟩ := okG t ci g2
      obtain ⟨r8, cellV, hr8, v1, v2, v3, -, -⟩ := mx_obj hR g1
      have hcls := (hK.1 ci r9 k2).2
      obtain ⟨kA, comp, c1, c2, c3, -⟩ := (hK.2 t _ (mx_tl_at k1)).2
      obtain ⟨kE, hkE, -⟩ := Vm.findClass_spec c3
      have hasg : s.vm.assignable (D.1 ci) comp = true := by
        rcases k3 with k3 | k3
        · obtain ⟨c0, t1, f1, f2, f3⟩ := Cond.castable_spec (va_Nw.use (A := args) rfl (hN _ k3))
          cases hcls.1.symm.trans f1
          cases c3.symm.trans f2
          exact f3
        · have hcomp : comp = D.1 ci := Option.some.inj (c3.symm.trans (by rw [← k3]; exact hcls.1))
          rw [hcomp]
          exact va_assign hcls
      obtain ⟨kC, hkC, -⟩ := hcls.2
      have hlt : i.toNatClampNeg < n := Nat.not_le.mp fun q => h3 (Or.inr q)
      exact W.aast hx hb (show H[a]? = some (vp_cell (aC t) (n, mx_aq f)) from (hR.2 a _ h1).1 h2) (fun q z => by cases z) (fun z => by cases z) c1 c2 rfl hkE ⟨fun q => h3 (Or.inl q), by show _ < (arrV _ _ _).slots.size; rw [arrV_size]; exact hlt⟩ v1 (fun q z => by rw [z] at v3; cases v3) (by rw [v2]; exact hkC) (by rw [v2]; exact hasg) rfl rfl hd fun H1 e9 z oq => go h (hR.up h2 z oq (fin H1 e9)) (hS.put z oq h2) hL hc hs
  case newarray a9 =>
    cases a9
    · obtain ⟨rfl, k9, r, rfl, h1, h2, h⟩ := h
      obtain ⟨s1, s2⟩ := mx_sz h
      have s1' : G.2.1 + 1 ≤ G'.2.1 := s1
      have s2' : G.2.2 + k9.toNatClampNeg ≤ G'.2.2 := s2
      refine va_newaK hx hb (hts _ (y5 .boolean (Or.inr (Or.inr (Or.inr rfl))))) rfl hd rfl h1 rfl (by show k9.toNatClampNeg * _ ≤ _; simp [newarray.typeOf, componentBytes]; omega) (by omega) (by omega) hR.1 fun H1 cA e1 z1 o1 hAr hNm => ?_
      have ec : cA = aC 3 := Option.some.inj (hNm.symm.trans (hK.2 3 _ (mx_tl_at y3)).2)
      subst ec
      refine go h (hR.pu h0H (by rw [z1, hR.1]) (fun q hq => o1 q (by rw [← hR.1]; exact hq)) ?_) (mx_S.pu hS (by rw [z1, hR.1]) (fun q hq => o1 q (by rw [← hR.1]; exact hq))) hL (by show cells + 1 + z0 = G.2.1 + 1; omega) (by show slots + k9.toNatClampNeg + u0 = G.2.2 + k9.toNatClampNeg; omega)
      rw [hR.1]
      exact e1
    · exact False.elim h
    · exact False.elim h
    · exact False.elim h
    · obtain ⟨rfl, k9, r, rfl, h1, h2, h⟩ := h
      obtain ⟨s1, s2⟩ := mx_sz h
      have s1' : G.2.1 + 1 ≤ G'.2.1 := s1
      have s2' : G.2.2 + k9.toNatClampNeg ≤ G'.2.2 := s2
      refine va_newaK hx hb (hts _ (y5 .byte (Or.inr (Or.inr (Or.inl rfl))))) rfl hd rfl h1 rfl (by show k9.toNatClampNeg * _ ≤ _; simp [newarray.typeOf, componentBytes]; omega) (by omega) (by omega) hR.1 fun H1 cA e1 z1 o1 hAr hNm => ?_
      have ec : cA = aC 2 := Option.some.inj (hNm.symm.trans (hK.2 2 _ (mx_tl_at y2)).2)
      subst ec
      refine go h (hR.pu h0H (by rw [z1, hR.1]) (fun q hq => o1 q (by rw [← hR.1]; exact hq)) ?_) (mx_S.pu hS (by rw [z1, hR.1]) (fun q hq => o1 q (by rw [← hR.1]; exact hq))) hL (by show cells + 1 + z0 = G.2.1 + 1; omega) (by show slots + k9.toNatClampNeg + u0 = G.2.2 + k9.toNatClampNeg; omega)
      rw [hR.1]
      exact e1
    · exact False.elim h
    · obtain ⟨rfl, k9, r, rfl, h1, h2, h⟩ := h
      obtain ⟨s1, s2⟩ := mx_sz h
      have s1' : G.2.1 + 1 ≤ G'.2.1 := s1
      have s2' : G.2.2 + k9.toNatClampNeg ≤ G'.2.2 := s2
      refine va_newaK hx hb (hts _ (y5 .int (Or.inl rfl))) rfl hd rfl h1 rfl (by show k9.toNatClampNeg * _ ≤ _; simp [newarray.typeOf, componentBytes]; omega) (by omega) (by omega) hR.1 fun H1 cA e1 z1 o1 hAr hNm => ?_
      have ec : cA = aC 0 := Option.some.inj (hNm.symm.trans (hK.2 0 _ (mx_tl_at y0)).2)
      subst ec
      refine go h (hR.pu h0H (by rw [z1, hR.1]) (fun q hq => o1 q (by rw [← hR.1]; exact hq)) ?_) (mx_S.pu hS (by rw [z1, hR.1]) (fun q hq => o1 q (by rw [← hR.1]; exact hq))) hL (by show cells + 1 + z0 = G.2.1 + 1; omega) (by show slots + k9.toNatClampNeg + u0 = G.2.2 + k9.toNatClampNeg; omega)
      rw [hR.1]
      exact e1
    · obtain ⟨rfl, k9, r, rfl, h1, h2, h⟩ := h
      obtain ⟨s1, s2⟩ := mx_sz h
      have s1' : G.2.1 + 1 ≤ G'.2.1 := s1
      have s2' : G.2.2 + k9.toNatClampNeg ≤ G'.2.2 := s2
      refine va_newaK hx hb (hts _ (y5 .long (Or.inr (Or.inl rfl)))) rfl hd rfl h1 rfl (by show k9.toNatClampNeg * _ ≤ _; simp [newarray.typeOf, componentBytes]; omega) (by omega) (by omega) hR.1 fun H1 cA e1 z1 o1 hAr hNm => ?_
      have ec : cA = aC 1 := Option.some.inj (hNm.symm.trans (hK.2 1 _ (mx_tl_at y1)).2)
      subst ec
      refine go h (hR.pu h0H (by rw [z1, hR.1]) (fun q hq => o1 q (by rw [← hR.1]; exact hq)) ?_) (mx_S.pu hS (by rw [z1, hR.1]) (fun q hq => o1 q (by rw [← hR.1]; exact hq))) hL (by show cells + 1 + z0 = G.2.1 + 1; omega) (by show slots + k9.toNatClampNeg + u0 = G.2.2 + k9.toNatClampNeg; omega)
      rw [hR.1]
      exact e1
  case anewarray j9 =>
    obtain ⟨rfl, k9, t, r, rfl, h3, h1, h2, h⟩ := h
    obtain ⟨C, a1, a2, a3⟩ := okA _ _ _ h3
    obtain ⟨s1, s2⟩ := mx_sz h
    have s1' : G.2.1 + 1 ≤ G'.2.1 := s1
    have s2' : G.2.2 + k9.toNatClampNeg ≤ G'.2.2 := s2
    refine W.anew hx hb hown (hts _ a2) (va_AO.use (hAO C a3)) rfl hd rfl h1 (by omega) (by omega) (by omega) fun cA kA comp f1 f2 f3 f4 => ?_
    obtain ⟨kB, cmp2, b1, b2, b3, b4⟩ := (hK.2 t _ (mx_tl_at a1)).2
    have ec : cA = aC t := Option.some.inj (f1.symm.trans b4)
    subst ec
    generalize hH1 : H.push ({ cls := aC t, slots := Array.replicate k9.toNatClampNeg .null, vm := .none } : Cell) = H1
    have z1 : H1.size = H.size + 1 := by rw [← hH1, Array.size_push]
    have e1 : H1[H.size]? = some (arrV (aC t) k9.toNatClampNeg (fun _ => .null)) := by rw [← hH1, Array.getElem?_push_size, ← arrV_new]
    have o1 : ∀ q : Nat, q < H.size → H1[q]? = H[q]? := fun q hq => by rw [← hH1, Array.getElem?_push, if_neg (Nat.ne_of_lt hq)]
    have kk := go h (hR.pu (n := k9.toNatClampNeg) (c := .inl (t, k9.toNatClampNeg, mx_aq (fun _ => none))) h0H z1 o1 e1) (mx_S.pu hS z1 o1) hL (show cells + 1 + z0 = G.2.1 + 1 by omega) (show slots + k9.toNatClampNeg + u0 = G.2.2 + k9.toNatClampNeg by omega)
    rw [← hR.1] at kk
    exact kk
  case new j9 =>
    obtain ⟨rfl, ci, fs, h1, h⟩ := h
    obtain ⟨C, T, a1, a2, a3, a4, a5⟩ := okN _ _ _ _ h1
    obtain ⟨-, hin, ty, b1, b2⟩ := okC _ _ _ _ a1
    obtain ⟨s1, s2⟩ := mx_sz h
    have s1' : G.2.1 + 1 ≤ G'.2.1 := s1
    have s2' : G.2.2 + fs.length ≤ G'.2.2 := s2
    have hKn := hK.1 ci _ a1
    refine W.newcK hx hb hown (hts _ a2) (hts _ a3) (hts _ a4) rfl hd (by omega) (by omega) hKn.2.1 hR.1 fun H1 kC hkC e1 z1 o1 => ?_
    refine go h (hR.pu h0H (by rw [z1, hR.1]) (fun q hq => o1 q (by rw [← hR.1]; exact hq)) ?_) (mx_S.pu hS (by rw [z1, hR.1]) (fun q hq => o1 q (by rw [← hR.1]; exact hq))) hL (by show cells + 1 + z0 = G.2.1 + 1; omega) (by show slots + fs.length + u0 = G.2.2 + fs.length; omega)
    rw [hR.1]
    refine ⟨_, a1, (u_born ty hts hin hKn hkC e1 b1).to (fun j hj => ?_)⟩
    have q1 := a5 j hj
    rw [b1 j hj] at q1
    exact Option.some.inj q1
  case getfield j9 =>
    obtain ⟨rfl, a, v, r, rfl, hq, h⟩ := h
    rcases hq with ⟨ci, k9, t, b, fs, h1, h2, h3⟩ | hq
    rotate_left
    · obtain ⟨C, n9, d9, z1, z2⟩ := hEn _ _ _ _ hq
      obtain ⟨cf, kf, fi, fd, cell, q1, q2, q3, q4, q5, q6⟩ := z1.kept hS.2.1
      exact W.getf hx hb hown (hts _ z2) q1 q2 q3 q4 q5 rfl rfl hd (go h hR hS hL hc hs)
    obtain ⟨C, T, N, ref, a1, a2, a3, a4, a5, a6, a7⟩ := okF _ _ _ _ _ _ h1
    obtain ⟨-, hin, -⟩ := okC _ _ _ _ a1
    obtain ⟨r9, cell, q0, q1, q2, q3, q4, q5⟩ := mx_obj hR h2
    have hr : r9 = (C, T, N) := Option.some.inj (q0.symm.trans a1)
    subst hr
    obtain ⟨hSl, hfc, kC, hkC, hkind⟩ := hK.1 ci _ a1
    obtain ⟨cf, kf, fi, fd, hi, hsl⟩ := hSl k9 a2
    have hst := (u_facts hfc hkC (u_lays hts hin a2) hi).1
    have hsame : ∀ z, s.fieldFound? (T k9).1 (T k9).2.1 (T k9).2.2.1 = some z → s.fieldFound? ref (T k9).2.1 (T k9).2.2.1 = some z := by
      intro z hz
      rcases a7 with rfl | a7
      · exact hz
      · exact u_same (hts _ a7) z hz
    refine W.getf hx hb hown (hts _ a6) (hsame _ hi) hst q1 q4 (v := v) ?_ rfl rfl hd (go h hR hS hL hc hs)
    rw [hsl, q5 k9 a2]
    simp [vp_V, h3]
  case putfield j9 =>
    obtain ⟨rfl, v, a, ci, k9, t, b, fs, r, rfl, h1, h2, h3, h4, h5, h6, h7, h⟩ := h
    obtain ⟨C, T, N, ref, a1, a2, a3, a4, a5, a6, a7⟩ := okF _ _ _ _ _ _ h1
    obtain ⟨-, hin, ty, b1, b2⟩ := okC _ _ _ _ a1
    have hsame : ∀ z, s.fieldFound? (T k9).1 (T k9).2.1 (T k9).2.2.1 = some z → s.fieldFound? ref (T k9).2.1 (T k9).2.2.1 = some z := by
      intro z hz
      rcases a7 with rfl | a7
      · exact hz
      · exact u_same (hts _ a7) z hz
    have hap := va_apart (own := cn (mx_mc M)) hts hin ty b1 b2 hK a1
    obtain ⟨r9, q0, cell, q1, q2, q3, q4⟩ := (hR.2 a _ h2).1 h3
    have hr : r9 = (C, T, N) := Option.some.inj (q0.symm.trans a1)
    subst hr
    obtain ⟨hSl, hfc, kC, hkC, hkind⟩ := hK.1 ci _ a1
    obtain ⟨cf, kf, fi, fd, hi, hsl⟩ := hSl k9 a2
    have hst := (u_facts hfc hkC (u_lays hts hin a2) hi).1
    have hlay := hts _ (hin _ (u_in_lay a2))
    unfold u_lay at hlay
    have fin : ∀ (H1 : Heap), H1[a]? = some (cell.setSlot fd.slot v) → va_at D cl (a, mx_e aC (.inr (ci, fs.set k9 v))) H1 := by
      intro H1 e9
      rw [hsl] at e9
      exact ⟨_, a1, t_OB.to (V := updV (vp_V fs) k9 v) ⟨_, e9, q2, q3, t_set q4 hap a2 v⟩ (fun j _ => vp_updV_set h7 v j)⟩
    cases b with
    | false =>
      rw [if_neg (by rw [a4]; decide)] at hlay
      have h8 := u_store hfc hkC hkind hlay hi a3 h5 h6
      exact W.putK hx hb (f := fd) ⟨hown, hts _ a6, ⟨_, _, _, hsame _ hi⟩, hst⟩ (by rw [q2]; exact h8) q1 q3 (by rw [hsl]; exact k2_hasslot (q4 k9 a2)) rfl rfl hd fun H1 e9 z oq => go h (hR.up h3 z oq (fin H1 e9)) (hS.put z oq h3) hL hc hs
    | true =>
      rw [if_pos a4] at hlay
      have hcf : m.cls = cf := by
        obtain ⟨_, _, c', _, _, _, -, -, hf', -, -, -, hown2, -⟩ := Cond.laysFinal_spec hlay
        have e1 : c' = cf := by have := hi.symm.trans hf'; simp at this; exact this.1.symm
        rw [a5 rfl, (h4 rfl).2] at hown2
        rw [← e1]; exact Option.some.inj (hown.symm.trans hown2)
      have h8 := u_fits hfc hkC hkind (Or.inr hlay) hi a3 h5 h6
      exact W.putFinK hx hb hown (hts _ a6) (hsame _ hi) hst hcf (hnm.trans (h4 rfl).1) (by rw [q2]; exact h8) q1 q3 (by rw [hsl]; exact k2_hasslot (q4 k9 a2)) rfl rfl hd fun H1 e9 z oq => go h (hR.up h3 z oq (fin H1 e9)) (hS.put z oq h3) hL hc hs
  case getstatic j9 =>
    obtain ⟨rfl, v, h1, h⟩ := h
    obtain ⟨C, n9, d9, z1, z2⟩ := hZ _ _ _ h1
    exact va_gets hx hb z1 hS hown (hts _ z2) (fun _ z => z) hd (go h hR hS hL hc hs)
  case checkcast j9 =>
    obtain ⟨rfl, x, r, rfl, h1, h⟩ := h
    cases x with
    | none => exact lv_castN hx hb hd (go h hR hS hL hc hs)
    | some a =>
      obtain ⟨cs, ci, fs, g1, g2, g3⟩ := h1 a rfl
      obtain ⟨nm, k1, k2⟩ := okT _ _ _ g1
      obtain ⟨T, N, k3⟩ := k2 ci g3
      exact va_castS hx hb hown (hts _ k1) (hK.1 ci _ k3).2 (mx_recv hK hR k3 g2) hd (go h hR hS hL hc hs)
  case invokevirtual j9 =>
    obtain ⟨rfl, a, ⟨n, q⟩, r, na, M', rfl, h1, h2, h3, h4, h5, h⟩ := h
    obtain ⟨cell, c1, c2, c3, c4, c5, -⟩ := mx_arr hR h2
    obtain ⟨-, -, m1, -⟩ := okM _ _ _ _ _ h1
    obtain ⟨w1, w2, w3, w4⟩ := m1 rfl
    refine va_getC hx hb (by rw [hml, hL.1]) hown (hts _ w1) (va_Dc.use hDc) (hts _ w2) (hts _ w3) (hts _ w4) hMi ⟨cell, c1, c3, ?_⟩ (by omega) (by omega) hd (go h hR hS hL hc hs)
    rw [c2]
    exact va_nmO (hK.2 4 _ (mx_tl_at yO)).2 (by decide)
  case invokestatic j9 =>
    obtain ⟨rfl, h⟩ := h
    rcases h with h | h | h | h | h
    rotate_left
    · obtain ⟨x, y, r, na, M', rfl, h1, h2, h3, h4, h⟩ := h
      obtain ⟨-, -, -, m1, -⟩ := okM _ _ _ _ _ h1
      obtain ⟨w1, w2, w3, w4⟩ := m1 rfl
      exact va_mmin hx hb (by rw [hml, hL.1]) hown (hts _ w1) (hts _ w2) (hts _ w3) (hts _ w4) (by omega) (by omega) (by obtain ⟨s1, s2⟩ := mx_sz h; omega) (by obtain ⟨s1, s2⟩ := mx_sz h; omega) hd (go h hR hS hL hc hs)
    · obtain ⟨x, y, r, na, M', rfl, h1, h2, h3, h4, h⟩ := h
      obtain ⟨-, -, -, -, m1, -⟩ := okM _ _ _ _ _ h1
      obtain ⟨w1, w2, w3, w4⟩ := m1 rfl
      exact va_mmax hx hb (by rw [hml, hL.1]) hown (hts _ w1) (hts _ w2) (hts _ w3) (hts _ w4) (by omega) (by omega) (by obtain ⟨s1, s2⟩ := mx_sz h; omega) (by obtain ⟨s1, s2⟩ := mx_sz h; omega) hd (go h hR hS hL hc hs)
    · obtain ⟨x, y, r, na, M', rfl, h1, h2, h3, h4, h⟩ := h
      obtain ⟨-, -, -, -, -, m1, -⟩ := okM _ _ _ _ _ h1
      obtain ⟨w1, w2, w3, w4⟩ := m1 rfl
      exact va_mmin_long hx hb (by rw [hml, hL.1]) hown (hts _ w1) (hts _ w2) (hts _ w3) (hts _ w4) (by omega) (by omega) (by obtain ⟨s1, s2⟩ := mx_sz h; omega) (by obtain ⟨s1, s2⟩ := mx_sz h; omega) hd (go h hR hS hL hc hs)
    · obtain ⟨x, y, r, na, M', rfl, h1, h2, h3, h4, h⟩ := h
      obtain ⟨-, -, -, -, -, -, m1, -⟩ := okM _ _ _ _ _ h1
      obtain ⟨w1, w2, w3, w4⟩ := m1 rfl
      exact va_mmax_long hx hb (by rw [hml, hL.1]) hown (hts _ w1) (hts _ w2) (hts _ w3) (hts _ w4) (by omega) (by omega) (by obtain ⟨s1, s2⟩ := mx_sz h; omega) (by obtain ⟨s1, s2⟩ := mx_sz h; omega) hd (go h hR hS hL hc hs)
    obtain ⟨sp, dp, cn9, a0, a, n0, n1, f, g, r, na, M', rfl, h1, g0, g1, b0, b1, p1, p2, p3, p4, p5, hel, w0, w1, w2, h⟩ := h
    obtain ⟨-, m1, -⟩ := okM _ _ _ _ _ h1
    obtain ⟨v1, v2, v3, v4⟩ := m1 rfl
    refine mx_copy hx hb (by rw [hml, hL.1]) hown (hts _ v1) (hts _ v2) (hts _ v3) (hts _ v4) hK (mx_tl_at yO) ((hR.2 a0 _ g0).1 b0) ((hR.2 a _ g1).1 b1) p1 p2 p3 p4 p5 (fun i hi y hy => ?_) (by omega) (by have : nativeFrameWords "java/lang/System" "arraycopy" 5 + 11 ≤ 32 := (by decide); omega) hd (fun H1 locs1 z oq e9 hl => go h (hR.up b1 z oq e9) ?_ hL hc hs)
    · obtain ⟨ci, fs, q1, q2⟩ := hel i hi y hy
      obtain ⟨E, r9, k1, k2, k3⟩ := okG 4 ci q2
      have eE : E = "java/lang/Object" := FieldType.object.inj (Option.some.inj (k1.symm.trans yO))
      subst eE
      obtain ⟨r8, cellV, hr8, u1, u2, u3, -, -⟩ := mx_obj hR q1
      have hcls := (hK.1 ci r9 k2).2
      obtain ⟨kC, hkC, -⟩ := hcls.2
      refine ⟨cellV, u1, u3, ⟨kC, by rw [u2]; exact hkC⟩, fun comp hcomp => ?_⟩
      rw [u2]
      rcases k3 with k3 | k3
      · obtain ⟨c0, t1, f1, f2, f3⟩ := Cond.castable_spec (va_Nw.use (A := args) rfl (hN _ k3))
        cases hcls.1.symm.trans f1
        cases hcomp.symm.trans f2
        exact f3
      · have hcc : comp = D.1 ci := Option.some.inj (hcomp.symm.trans (by rw [← k3]; exact hcls.1))
        rw [hcc]
        exact va_assign hcls
    · refine ⟨by rw [z]; exact hS.1, fun q g1 g2 => ?_, fun q hq => ?_⟩
      · rw [oq q (fun e => g2 (by rw [e]; exact b1))]
        exact hS.2.1 q g1 g2
      · rcases hl q hq with h9 | h9
        · exact hS.2.2 q h9
        · rw [h9]; exact b1
  all_goals exact False.elim h
end
section
set_option maxHeartbeats 8000000 in
set_option maxRecDepth 100000 in
/-- calls -/
theorem mx_sc {P : mx_T} {cn : Nat → String} {cl : List vw_C} {D : va_G} {aC : Nat → ClassId} {tbl nst : List Cond} {ao : List String} (hok : mx_ok P cn cl tbl nst ao) {l : Launch} {k : Nat} (hF : mx_Fs P cn cl D aC tbl nst ao l k) {M : mx_M} {pc : Nat} {L : mx_L} {st : List Value} {G : mx_H} {o : mx_O} {G' : mx_H} {i : Instr} {n : Nat} (hd : decode (mx_mb M) pc = .ok (i, n)) {M' : mx_M} {as rest : List Value} (hca : mx_ca P M st G n i M' as rest) (h : mx_wp P k M' 0 (mx_en 0 as) [] G (fun o1 G1 => ∃ v, o1 = .inl v ∧ mx_wp P k M (pc + 3) L (v.toList ++ rest) G1 (fun a b => a = o ∧ b = G')))
    {p : Program} {e : Env} {R : Room} {s : State} {m : MethodId} {args : Array Value} {below : List Frame} {meth : Method} {c : Code} {H : Heap} {locs : List Loc} {cells slots : Nat} {Qf : State → Prop} {ls : Array Slot} {z0 u0 : Nat}
    (X : mx_X P cn cl D aC tbl nst ao M p s m args meth c) (hfr : mx_mf M ≤ R.frames) (hlo : mx_mw M ≤ R.locals) (hR : mx_R P cl D aC H G) (hS : va_S (mx_A P) s.heap H locs) (hL : mx_RL (mx_mg M) (mx_ml M) ls L) (hc : cells + z0 = G.2.1) (hs : slots + u0 = G.2.2) (hG1 : G'.2.1 ≤ z0 + R.cells) (hG2 : G'.2.2 ≤ u0 + R.slots)
    (go : ∀ {pc' : Nat} {L' : mx_L} {st' : List Value} {G1 : mx_H} {H1 : Heap} {locs1 : List Loc} {cells1 slots1 : Nat} {ls1 : Array Slot}, mx_wp P k M pc' L' st' G1 (fun a b => a = o ∧ b = G') → mx_R P cl D aC H1 G1 → va_S (mx_A P) s.heap H1 locs1 → mx_RL (mx_mg M) (mx_ml M) ls1 L' → cells1 + z0 = G1.2.1 → slots1 + u0 = G1.2.2 → W p l e R s m args below meth c H1 locs1 cells1 slots1 Qf (F0 m pc' ls1 st')) :
    W p l e R s m args below meth c H locs cells slots Qf (F0 m pc ls st) := by
  obtain ⟨hx, hb, hml, hown, hts, hU, hnm⟩ := X
  obtain ⟨okW, okC, okF, okK, okN, okA, okY, okG, okT, okM⟩ := hok
  obtain ⟨rfl, w1, w2, w3, w4, w5, hca⟩ := hca
  obtain ⟨o1, G1, ⟨v, rfl, hk⟩, s1, s2, hw⟩ := mx_exact h
  obtain ⟨t1, t2⟩ := mx_sz hk
  have hPc : ∀ U : State, U.heap = H → s.WarmedH U.vm → mx_Pc P cn cl D aC tbl nst ao as G as.toArray U := fun U hH hW => ⟨rfl, by rw [hH]; exact hR, hU.moved okW hW (locs := locs) (by rw [hH]; exact hS)⟩
  have fit : cells + (G1.2.1 - G.2.1) ≤ R.cells ∧ slots + (G1.2.2 - G.2.2) ≤ R.slots := ⟨by omega, by omega⟩
  have kk : ∀ (H1 : Heap) (locs1 : List Loc), mx_R P cl D aC H1 G1 → va_S (mx_A P) s.heap H1 locs1 → W p l e R s m args below meth c H1 locs1 (cells + (G1.2.1 - G.2.1)) (slots + (G1.2.2 - G.2.2)) Qf (F0 m (pc + 3) ls (v.toList ++ rest)) := fun H1 locs1 r1 r2 => go hk r1 r2 hL (by omega) (by omega)
  cases i
  case invokevirtual j =>
    obtain ⟨na, a, bs, h1, h2, rfl, rfl, h5⟩ := hca
    obtain ⟨-, -, -, -, -, -, -, m1, m2, -, -, -⟩ := okM _ _ _ _ _ h1
    obtain ⟨p1, p2, p3, p4, p5, p6⟩ := m1 (by decide) (by decide)
    obtain ⟨q1, q2, q3⟩ := m2 rfl
    have hM := mx_met hF hw w2 w5 p1 p6
    refine mx_call (va_runV (As := bs) (rest := rest) (C := cn (mx_mc M')) (Ts := tbl) (n := na) ⟨hx, hb, hml, hown, hts⟩ hM ⟨callB_of na hts (mx_good okW p2) rfl rfl rfl (hts _ p3) (hts _ q1) ⟨p4.1, p4.2, p5⟩ ⟨Nat.le_trans w3 hfr, Nat.le_trans w4 hlo⟩, hts _ q2, hts _ q3⟩ ⟨mx_blind okW _ _, ?_, hPc⟩ rfl h2 hL.1 rfl (lv_room w1) hd fit) hS kk
    rcases h5 with ⟨fs, h5⟩ | h5
    · obtain ⟨⟨C, T, N⟩, -, q4, -⟩ := mx_obj hR h5
      obtain ⟨e1, -, -⟩ := okC _ _ _ _ q4
      rw [e1]
      exact mx_recv hU.1 hR q4 h5
    · obtain ⟨cell, z1, z2, z3, -⟩ := (hU.2.2.2.2.2.2.2.2.2.2 _ _ h5).kept hS.2.1
      exact ⟨cell, z1, z2, z3⟩
  case invokespecial j =>
    obtain ⟨k9, na, a, bs, h1, h0, h2, rfl, rfl⟩ := hca
    obtain ⟨-, -, -, -, -, -, -, m1, -, m3, m4, -⟩ := okM _ _ _ _ _ h1
    obtain ⟨p1, p2, p3, p4, p5, p6⟩ := m1 (by omega) (by omega)
    have hM := mx_met hF hw w2 w5 p1 p6
    rcases h0 with h0 | h0
    · obtain ⟨q1, q2, q3, q4⟩ := m3 h0
      have cb : CallB R s args (cn (mx_mc M)) j (mx_my M') (mx_mb M') (mx_ml M') (mx_mr M') (Cond.code (mx_my M') (mx_mb M') (mx_ml M') (mx_mr M') :: tbl) { frames := mx_mf M', cells := G1.2.1 - G.2.1, slots := G1.2.2 - G.2.2, locals := mx_mw M' } (G1.2.1 - G.2.1) (G1.2.2 - G.2.2) na := callB_of (Ts := tbl) na hts (mx_good okW p2) rfl rfl rfl (hts _ p3) (hts _ q1) ⟨p4.1, p4.2, p5⟩ ⟨Nat.le_trans w3 hfr, Nat.le_trans w4 hlo⟩
      rw [q4] at cb hM
      exact mx_call (va_runI (As := bs) (rest := rest) (Ts := tbl) (n := na) ⟨hx, hb, hml, hown, hts⟩ hM ⟨cb, q3, hts _ q2⟩ ⟨mx_blind okW _ _, hPc⟩ rfl h2 hL.1 rfl (lv_room w1) hd fit) hS kk
    · obtain ⟨⟨host, q1⟩, q2, q3, q4⟩ := m4 h0
      have cb : va_CN R s args (cn (mx_mc M)) j (mx_my M') host (mx_mb M') (mx_ml M') (mx_mr M') (Cond.code (mx_my M') (mx_mb M') (mx_ml M') (mx_mr M') :: tbl) { frames := mx_mf M', cells := G1.2.1 - G.2.1, slots := G1.2.2 - G.2.2, locals := mx_mw M' } (G1.2.1 - G.2.1) (G1.2.2 - G.2.2) na := va_cnB (Ts := tbl) na hts (mx_good okW p2) rfl rfl rfl (hU.2.1 _ q1) (hts _ p3) ⟨p4.1, p4.2, p5⟩ ⟨Nat.le_trans w3 hfr, Nat.le_trans w4 hlo⟩
      rw [q4] at cb hM
      exact mx_call (va_runIN (As := bs) (rest := rest) (Ts := tbl) (n := na) ⟨hx, hb, hml, hown, hts⟩ hM ⟨cb, q3, hts _ q2⟩ ⟨mx_blind okW _ _, hPc⟩ rfl h2 hL.1 rfl (lv_room w1) hd fit) hS kk
  case invokestatic j =>
    obtain ⟨na, h1, h2, rfl⟩ := hca
    obtain ⟨-, -, -, -, -, -, -, m1, -, -, -, m5⟩ := okM _ _ _ _ _ h1
    obtain ⟨p1, p2, p3, p4, p5, p6⟩ := m1 (by decide) (by decide)
    obtain ⟨q1, q2⟩ := m5 rfl
    have hM := mx_met hF hw w2 w5 p1 p6
    exact mx_call (va_runS (As := as) (rest := rest) (Ts := tbl) (n := na) ⟨hx, hb, hml, hown, hts⟩ hM ⟨callB_of na hts (mx_good okW p2) rfl rfl rfl (hts _ p3) (hts _ q1) ⟨p4.1, p4.2, p5⟩ ⟨Nat.le_trans w3 hfr, Nat.le_trans w4 hlo⟩, hts _ q2⟩ ⟨mx_blind okW _ _, hPc⟩ rfl h2 hL.1 rfl (lv_room w1) hd fit) hS kk
  all_goals exact False.elim hca
set_option maxHeartbeats 8000000 in
/-- THE SMALL MACHINE IS SOUND: what it runs to, the machine runs to -/
theorem mx_sound {P : mx_T} {cn : Nat → String} {cl : List vw_C} {D : va_G} {aC : Nat → ClassId} {tbl nst : List Cond} {ao : List String} (hok : mx_ok P cn cl tbl nst ao) (l : Launch) : ∀ k, mx_Fs P cn cl D aC tbl nst ao l k := by
  intro k
  induction k with
  | zero => intro M pc L st G o G' h; exact h.elim
  | succ k ih =>
    intro M pc L st G o G' h p e R s m args below meth c H locs cells slots Qf ls z0 u0 X hfr hlo hR hS hL hc hs hG1 hG2 hret
    obtain ⟨i, n, hd, h⟩ := h
    have go : ∀ {pc' : Nat} {L' : mx_L} {st' : List Value} {G1 : mx_H} {H1 : Heap} {locs1 : List Loc} {cells1 slots1 : Nat} {ls1 : Array Slot}, mx_wp P k M pc' L' st' G1 (fun a b => a = o ∧ b = G') → mx_R P cl D aC H1 G1 → va_S (mx_A P) s.heap H1 locs1 → mx_RL (mx_mg M) (mx_ml M) ls1 L' → cells1 + z0 = G1.2.1 → slots1 + u0 = G1.2.2 → W p l e R s m args below meth c H1 locs1 cells1 slots1 Qf (F0 m pc' ls1 st') :=
      fun {pc'} {L'} {st'} {G1} {H1} {locs1} {cells1} {slots1} {ls1} r1 r2 r3 r4 r5 r6 => ih M pc' L' st' G1 o G' r1 p e R s m args below meth c H1 locs1 cells1 slots1 Qf ls1 z0 u0 X hfr hlo r2 r3 r4 r5 r6 hG1 hG2 hret
    rcases h with h | h | ⟨rest, h1, h2⟩ | ⟨M', as, rest, h1, h2⟩
    · exact mx_sn hok hd h X hfr hlo hR hS hL hc hs hG1 hG2 go
    · have e1 := mx_rt_n h
      subst e1
      obtain ⟨o2, ⟨-, e2⟩, -⟩ := mx_rt_one h
      subst e2
      exact hret H locs cells slots ls pc i st hR hS hc hs hd h
    · obtain ⟨hx, hb, hml, hown, hts, hU, hnm⟩ := id X
      obtain ⟨okW, okC, okF, okK, okN, okA, okY, okG, okT, okM⟩ := id hok
      cases i
      case invokespecial j =>
        obtain ⟨rfl, ⟨na, M', q1⟩, q2, q3, q4, a, rfl⟩ := h1
        obtain ⟨m0, -⟩ := okM _ _ _ _ _ q1
        obtain ⟨w1, w2, w3⟩ := m0 rfl
        have rm := lv_room (m := m) (pc := pc) (ls := ls) (rest := .ref a :: rest) q2
        exact W.objInit hx hb hown (hts _ w1) (hts _ w2) (hts _ w3) rfl (by rw [hml]; exact hL.1) rfl hd (by omega) (by omega) (W.eq (g2 := F0 m (pc + 3) ls rest) rfl (go h2 hR hS hL hc hs))
      all_goals exact False.elim h1
    · exact mx_sc hok ih hd h1 h2 X hfr hlo hR hS hL hc hs hG1 hG2 go
end
section
section
variable {P : mx_T} {M : mx_M} {pc : Nat} {L : mx_L} {st : List Value} {G : mx_H} {Q : mx_O → mx_H → Prop}
theorem w_null (hd : decode (mx_mb M) pc = .ok (.aconst_null, 1)) (k9 : mx_W P M (pc + 1) L (.null :: st) G Q) : mx_W P M pc L st G Q := mx_W.step hd (fun K h => ⟨rfl, h⟩) k9
theorem w_iconst {n : Int} {v : Int32} (hd : decode (mx_mb M) pc = .ok (.iconst n, 1)) (hv : Int32.ofInt n = v) (k9 : mx_W P M (pc + 1) L (.int v :: st) G Q) : mx_W P M pc L st G Q := mx_W.step hd (fun K h => ⟨rfl, hv ▸ h⟩) k9
theorem w_bipush {n : Int} {v : Int32} (hd : decode (mx_mb M) pc = .ok (.bipush n, 2)) (hv : (Int8.ofInt n).toInt32 = v) (k9 : mx_W P M (pc + 2) L (.int v :: st) G Q) : mx_W P M pc L st G Q := mx_W.step hd (fun K h => ⟨rfl, hv ▸ h⟩) k9
theorem w_sipush {n : Int} {v : Int32} (hd : decode (mx_mb M) pc = .ok (.sipush n, 3)) (hv : (Int16.ofInt n).toInt32 = v) (k9 : mx_W P M (pc + 3) L (.int v :: st) G Q) : mx_W P M pc L st G Q := mx_W.step hd (fun K h => ⟨rfl, hv ▸ h⟩) k9
theorem w_lconst {n : Fin 2} {v : Int64} (hd : decode (mx_mb M) pc = .ok (.lconst n, 1)) (hv : Int64.ofNat (n : Nat) = v) (k9 : mx_W P M (pc + 1) L (.long v :: st) G Q) : mx_W P M pc L st G Q := mx_W.step hd (fun K h => ⟨rfl, hv ▸ h⟩) k9
theorem w_ldc {j : Nat} {x : Int32} (hd : decode (mx_mb M) pc = .ok (.ldc j, 2)) (ht : mx_tc P (mx_mc M) j = some (.int x)) (k9 : mx_W P M (pc + 2) L (.int x :: st) G Q) : mx_W P M pc L st G Q := mx_W.step hd (fun K h => ⟨rfl, _, ht, Or.inl ⟨_, rfl⟩, h⟩) k9
theorem w_ldcM {j : Nat} (hd : decode (mx_mb M) pc = .ok (.ldc j, 2)) (ht : mx_tc P (mx_mc M) j = some (.ref (mx_tr P))) (k9 : mx_W P M (pc + 2) L (.ref (mx_tr P) :: st) G Q) : mx_W P M pc L st G Q := mx_W.step hd (fun K h => ⟨rfl, _, ht, Or.inr rfl, h⟩) k9
theorem w_ldc2 {j : Nat} {x : Int64} (hd : decode (mx_mb M) pc = .ok (.ldc2_w j, 3)) (ht : mx_tc P (mx_mc M) j = some (.long x)) (k9 : mx_W P M (pc + 3) L (.long x :: st) G Q) : mx_W P M pc L st G Q := mx_W.step hd (fun K h => ⟨rfl, x, ht, h⟩) k9
theorem w_iload_n {j : Fin 4} {x : Int32} (hd : decode (mx_mb M) pc = .ok (.iload_n j, 1)) (hl : L j = some (.int x)) (k9 : mx_W P M (pc + 1) L (.int x :: st) G Q) : mx_W P M pc L st G Q := mx_W.step hd (fun K h => ⟨rfl, x, hl, h⟩) k9
theorem w_iload {j : Nat} {x : Int32} (hd : decode (mx_mb M) pc = .ok (.iload j, 2)) (hl : L j = some (.int x)) (k9 : mx_W P M (pc + 2) L (.int x :: st) G Q) : mx_W P M pc L st G Q := mx_W.step hd (fun K h => ⟨rfl, x, hl, h⟩) k9
theorem w_lload_n {j : Fin 4} {x : Int64} (hd : decode (mx_mb M) pc = .ok (.lload_n j, 1)) (hl : L j = some (.long x)) (k9 : mx_W P M (pc + 1) L (.long x :: st) G Q) : mx_W P M pc L st G Q := mx_W.step hd (fun K h => ⟨rfl, x, hl, h⟩) k9
theorem w_lload {j : Nat} {x : Int64} (hd : decode (mx_mb M) pc = .ok (.lload j, 2)) (hl : L j = some (.long x)) (k9 : mx_W P M (pc + 2) L (.long x :: st) G Q) : mx_W P M pc L st G Q := mx_W.step hd (fun K h => ⟨rfl, x, hl, h⟩) k9
theorem mx_rv_q (r : Option Nat) : mx_rv (va_rf r) := by cases r; exact Or.inl rfl; exact Or.inr ⟨_, rfl⟩
theorem w_aload_n {j : Fin 4} {x : Nat} (hd : decode (mx_mb M) pc = .ok (.aload_n j, 1)) (hl : L j = some (.ref x)) (k9 : mx_W P M (pc + 1) L ((.ref x) :: st) G Q) : mx_W P M pc L st G Q := mx_W.step hd (fun K h => ⟨rfl, _, hl, Or.inr ⟨_, rfl⟩, h⟩) k9
theorem w_aload {j : Nat} {x : Nat} (hd : decode (mx_mb M) pc = .ok (.aload j, 2)) (hl : L j = some (.ref x)) (k9 : mx_W P M (pc + 2) L ((.ref x) :: st) G Q) : mx_W P M pc L st G Q := mx_W.step hd (fun K h => ⟨rfl, _, hl, Or.inr ⟨_, rfl⟩, h⟩) k9
theorem w_astore_n {j : Fin 4} {x : Nat} (hd : decode (mx_mb M) pc = .ok (.astore_n j, 1)) (hi : (j : Nat) < mx_ml M) (k9 : mx_W P M (pc + 1) (mx_s1 (mx_mg M) L j (.ref x)) st G Q) : mx_W P M pc L ((.ref x) :: st) G Q := mx_W.step hd (fun K h => ⟨rfl, _, st, rfl, Or.inr ⟨_, rfl⟩, hi, h⟩) k9
theorem w_astore {j : Nat} {x : Nat} (hd : decode (mx_mb M) pc = .ok (.astore j, 2)) (hi : j < mx_ml M) (k9 : mx_W P M (pc + 2) (mx_s1 (mx_mg M) L j (.ref x)) st G Q) : mx_W P M pc L ((.ref x) :: st) G Q := mx_W.step hd (fun K h => ⟨rfl, _, st, rfl, Or.inr ⟨_, rfl⟩, hi, h⟩) k9
theorem w_aload_nN {j : Fin 4} (hd : decode (mx_mb M) pc = .ok (.aload_n j, 1)) (hl : L j = some .null) (k9 : mx_W P M (pc + 1) L (.null :: st) G Q) : mx_W P M pc L st G Q := mx_W.step hd (fun K h => ⟨rfl, _, hl, Or.inl rfl, h⟩) k9
theorem w_aloadN {j : Nat} (hd : decode (mx_mb M) pc = .ok (.aload j, 2)) (hl : L j = some .null) (k9 : mx_W P M (pc + 2) L (.null :: st) G Q) : mx_W P M pc L st G Q := mx_W.step hd (fun K h => ⟨rfl, _, hl, Or.inl rfl, h⟩) k9
theorem w_astore_nN {j : Fin 4} (hd : decode (mx_mb M) pc = .ok (.astore_n j, 1)) (hi : (j : Nat) < mx_ml M) (k9 : mx_W P M (pc + 1) (mx_s1 (mx_mg M) L j .null) st G Q) : mx_W P M pc L (.null :: st) G Q := mx_W.step hd (fun K h => ⟨rfl, _, st, rfl, Or.inl rfl, hi, h⟩) k9
theorem w_astoreN {j : Nat} (hd : decode (mx_mb M) pc = .ok (.astore j, 2)) (hi : j < mx_ml M) (k9 : mx_W P M (pc + 2) (mx_s1 (mx_mg M) L j .null) st G Q) : mx_W P M pc L (.null :: st) G Q := mx_W.step hd (fun K h => ⟨rfl, _, st, rfl, Or.inl rfl, hi, h⟩) k9
theorem w_aload_nq {j : Fin 4} {x : Option Nat} (hd : decode (mx_mb M) pc = .ok (.aload_n j, 1)) (hl : L j = some (va_rf x)) (k9 : mx_W P M (pc + 1) L ((va_rf x) :: st) G Q) : mx_W P M pc L st G Q := mx_W.step hd (fun K h => ⟨rfl, _, hl, mx_rv_q x, h⟩) k9
theorem w_aloadq {j : Nat} {x : Option Nat} (hd : decode (mx_mb M) pc = .ok (.aload j, 2)) (hl : L j = some (va_rf x)) (k9 : mx_W P M (pc + 2) L ((va_rf x) :: st) G Q) : mx_W P M pc L st G Q := mx_W.step hd (fun K h => ⟨rfl, _, hl, mx_rv_q x, h⟩) k9
theorem w_astore_nq {j : Fin 4} {x : Option Nat} (hd : decode (mx_mb M) pc = .ok (.astore_n j, 1)) (hi : (j : Nat) < mx_ml M) (k9 : mx_W P M (pc + 1) (mx_s1 (mx_mg M) L j (va_rf x)) st G Q) : mx_W P M pc L ((va_rf x) :: st) G Q := mx_W.step hd (fun K h => ⟨rfl, _, st, rfl, mx_rv_q x, hi, h⟩) k9
theorem w_astoreq {j : Nat} {x : Option Nat} (hd : decode (mx_mb M) pc = .ok (.astore j, 2)) (hi : j < mx_ml M) (k9 : mx_W P M (pc + 2) (mx_s1 (mx_mg M) L j (va_rf x)) st G Q) : mx_W P M pc L ((va_rf x) :: st) G Q := mx_W.step hd (fun K h => ⟨rfl, _, st, rfl, mx_rv_q x, hi, h⟩) k9
theorem w_istore_n {j : Fin 4} {x : Int32} (hd : decode (mx_mb M) pc = .ok (.istore_n j, 1)) (hi : (j : Nat) < mx_ml M) (k9 : mx_W P M (pc + 1) (mx_s1 (mx_mg M) L j (.int x)) st G Q) : mx_W P M pc L (.int x :: st) G Q := mx_W.step hd (fun K h => ⟨rfl, x, st, rfl, hi, h⟩) k9
theorem w_istore {j : Nat} {x : Int32} (hd : decode (mx_mb M) pc = .ok (.istore j, 2)) (hi : j < mx_ml M) (k9 : mx_W P M (pc + 2) (mx_s1 (mx_mg M) L j (.int x)) st G Q) : mx_W P M pc L (.int x :: st) G Q := mx_W.step hd (fun K h => ⟨rfl, x, st, rfl, hi, h⟩) k9
theorem w_lstore_n {j : Fin 4} {x : Int64} (hd : decode (mx_mb M) pc = .ok (.lstore_n j, 1)) (hi : (j : Nat) + 1 < mx_ml M) (hg : (mx_mg M).any (Nat.beq j) = true) (k9 : mx_W P M (pc + 1) (mx_s2 (mx_mg M) L j (.long x)) st G Q) : mx_W P M pc L (.long x :: st) G Q := mx_W.step hd (fun K h => ⟨rfl, x, st, rfl, hi, hg, h⟩) k9
theorem w_lstore {j : Nat} {x : Int64} (hd : decode (mx_mb M) pc = .ok (.lstore j, 2)) (hi : j + 1 < mx_ml M) (hg : (mx_mg M).any (Nat.beq j) = true) (k9 : mx_W P M (pc + 2) (mx_s2 (mx_mg M) L j (.long x)) st G Q) : mx_W P M pc L (.long x :: st) G Q := mx_W.step hd (fun K h => ⟨rfl, x, st, rfl, hi, hg, h⟩) k9
theorem w_iinc {j : Nat} {c : Int} {x v : Int32} (hd : decode (mx_mb M) pc = .ok (.iinc j c, 3)) (hl : L j = some (.int x)) (hv : x + Int32.ofInt c = v) (hi : j < mx_ml M) (k9 : mx_W P M (pc + 3) (mx_s1 (mx_mg M) L j (.int v)) st G Q) : mx_W P M pc L st G Q := mx_W.step hd (fun K h => ⟨rfl, x, hl, hi, hv ▸ h⟩) k9
theorem w_iadd {x y : Int32} (hd : decode (mx_mb M) pc = .ok (.iadd, 1)) (k9 : mx_W P M (pc + 1) L (.int (x + y) :: st) G Q) : mx_W P M pc L (.int y :: .int x :: st) G Q := mx_W.step hd (fun K h => ⟨rfl, x, y, st, rfl, h⟩) k9
theorem w_isub {x y : Int32} (hd : decode (mx_mb M) pc = .ok (.isub, 1)) (k9 : mx_W P M (pc + 1) L (.int (x - y) :: st) G Q) : mx_W P M pc L (.int y :: .int x :: st) G Q := mx_W.step hd (fun K h => ⟨rfl, x, y, st, rfl, h⟩) k9
theorem w_imul {x y : Int32} (hd : decode (mx_mb M) pc = .ok (.imul, 1)) (k9 : mx_W P M (pc + 1) L (.int (x * y) :: st) G Q) : mx_W P M pc L (.int y :: .int x :: st) G Q := mx_W.step hd (fun K h => ⟨rfl, x, y, st, rfl, h⟩) k9
theorem w_iand {x y : Int32} (hd : decode (mx_mb M) pc = .ok (.iand, 1)) (k9 : mx_W P M (pc + 1) L (.int (x &&& y) :: st) G Q) : mx_W P M pc L (.int y :: .int x :: st) G Q := mx_W.step hd (fun K h => ⟨rfl, x, y, st, rfl, h⟩) k9
theorem w_ixor {x y : Int32} (hd : decode (mx_mb M) pc = .ok (.ixor, 1)) (k9 : mx_W P M (pc + 1) L (.int (x ^^^ y) :: st) G Q) : mx_W P M pc L (.int y :: .int x :: st) G Q := mx_W.step hd (fun K h => ⟨rfl, x, y, st, rfl, h⟩) k9
theorem w_ishr {x y : Int32} (hd : decode (mx_mb M) pc = .ok (.ishr, 1)) (k9 : mx_W P M (pc + 1) L (.int (x >>> (y &&& 31)) :: st) G Q) : mx_W P M pc L (.int y :: .int x :: st) G Q := mx_W.step hd (fun K h => ⟨rfl, x, y, st, rfl, h⟩) k9
theorem w_ladd {x y : Int64} (hd : decode (mx_mb M) pc = .ok (.ladd, 1)) (k9 : mx_W P M (pc + 1) L (.long (x + y) :: st) G Q) : mx_W P M pc L (.long y :: .long x :: st) G Q := mx_W.step hd (fun K h => ⟨rfl, x, y, st, rfl, h⟩) k9
theorem w_lsub {x y : Int64} (hd : decode (mx_mb M) pc = .ok (.lsub, 1)) (k9 : mx_W P M (pc + 1) L (.long (x - y) :: st) G Q) : mx_W P M pc L (.long y :: .long x :: st) G Q := mx_W.step hd (fun K h => ⟨rfl, x, y, st, rfl, h⟩) k9
theorem w_lmul {x y : Int64} (hd : decode (mx_mb M) pc = .ok (.lmul, 1)) (k9 : mx_W P M (pc + 1) L (.long (x * y) :: st) G Q) : mx_W P M pc L (.long y :: .long x :: st) G Q := mx_W.step hd (fun K h => ⟨rfl, x, y, st, rfl, h⟩) k9
theorem w_land {x y : Int64} (hd : decode (mx_mb M) pc = .ok (.land, 1)) (k9 : mx_W P M (pc + 1) L (.long (x &&& y) :: st) G Q) : mx_W P M pc L (.long y :: .long x :: st) G Q := mx_W.step hd (fun K h => ⟨rfl, x, y, st, rfl, h⟩) k9
theorem w_lor {x y : Int64} (hd : decode (mx_mb M) pc = .ok (.lor, 1)) (k9 : mx_W P M (pc + 1) L (.long (x ||| y) :: st) G Q) : mx_W P M pc L (.long y :: .long x :: st) G Q := mx_W.step hd (fun K h => ⟨rfl, x, y, st, rfl, h⟩) k9
theorem w_lxor {x y : Int64} (hd : decode (mx_mb M) pc = .ok (.lxor, 1)) (k9 : mx_W P M (pc + 1) L (.long (x ^^^ y) :: st) G Q) : mx_W P M pc L (.long y :: .long x :: st) G Q := mx_W.step hd (fun K h => ⟨rfl, x, y, st, rfl, h⟩) k9
theorem w_ldiv {x y : Int64} (hd : decode (mx_mb M) pc = .ok (.ldiv, 1)) (hy : ¬ y = 0) (k9 : mx_W P M (pc + 1) L (.long (x / y) :: st) G Q) : mx_W P M pc L (.long y :: .long x :: st) G Q := mx_W.step hd (fun K h => ⟨rfl, x, y, st, rfl, hy, h⟩) k9
theorem w_lrem {x y : Int64} (hd : decode (mx_mb M) pc = .ok (.lrem, 1)) (hy : ¬ y = 0) (k9 : mx_W P M (pc + 1) L (.long (x - x / y * y) :: st) G Q) : mx_W P M pc L (.long y :: .long x :: st) G Q := mx_W.step hd (fun K h => ⟨rfl, x, y, st, rfl, hy, h⟩) k9
theorem w_lshl {x : Int64} {y : Int32} (hd : decode (mx_mb M) pc = .ok (.lshl, 1)) (k9 : mx_W P M (pc + 1) L (.long (x <<< (y.toInt64 &&& 63)) :: st) G Q) : mx_W P M pc L (.int y :: .long x :: st) G Q := mx_W.step hd (fun K h => ⟨rfl, x, y, st, rfl, h⟩) k9
theorem w_lshr {x : Int64} {y : Int32} (hd : decode (mx_mb M) pc = .ok (.lshr, 1)) (k9 : mx_W P M (pc + 1) L (.long (x >>> (y.toInt64 &&& 63)) :: st) G Q) : mx_W P M pc L (.int y :: .long x :: st) G Q := mx_W.step hd (fun K h => ⟨rfl, x, y, st, rfl, h⟩) k9
theorem w_i2l {x : Int32} (hd : decode (mx_mb M) pc = .ok (.i2l, 1)) (k9 : mx_W P M (pc + 1) L (.long x.toInt64 :: st) G Q) : mx_W P M pc L (.int x :: st) G Q := mx_W.step hd (fun K h => ⟨rfl, x, st, rfl, h⟩) k9
theorem w_l2i {x : Int64} (hd : decode (mx_mb M) pc = .ok (.l2i, 1)) (k9 : mx_W P M (pc + 1) L (.int x.toInt32 :: st) G Q) : mx_W P M pc L (.long x :: st) G Q := mx_W.step hd (fun K h => ⟨rfl, x, st, rfl, h⟩) k9
theorem w_i2b {x : Int32} (hd : decode (mx_mb M) pc = .ok (.i2b, 1)) (k9 : mx_W P M (pc + 1) L (.int x.toInt8.toInt32 :: st) G Q) : mx_W P M pc L (.int x :: st) G Q := mx_W.step hd (fun K h => ⟨rfl, x, st, rfl, h⟩) k9
theorem w_lcmp {x y : Int64} (hd : decode (mx_mb M) pc = .ok (.lcmp, 1)) (k9 : mx_W P M (pc + 1) L (.int (lg_cmp x y) :: st) G Q) : mx_W P M pc L (.long y :: .long x :: st) G Q := mx_W.step hd (fun K h => ⟨rfl, x, y, st, rfl, h⟩) k9
theorem w_dup {x : Value} (hd : decode (mx_mb M) pc = .ok (.dup, 1)) (hx : x.category = 1) (k9 : mx_W P M (pc + 1) L (x :: x :: st) G Q) : mx_W P M pc L (x :: st) G Q := mx_W.step hd (fun K h => ⟨rfl, x, st, rfl, hx, h⟩) k9
theorem w_dup_x1 {x y : Value} (hd : decode (mx_mb M) pc = .ok (.dup_x1, 1)) (hx : x.category = 1) (hy : y.category = 1) (k9 : mx_W P M (pc + 1) L (x :: y :: x :: st) G Q) : mx_W P M pc L (x :: y :: st) G Q := mx_W.step hd (fun K h => ⟨rfl, x, y, st, rfl, hx, hy, h⟩) k9
theorem w_pop {x : Value} (hd : decode (mx_mb M) pc = .ok (.pop, 1)) (hx : x.category = 1) (k9 : mx_W P M (pc + 1) L st G Q) : mx_W P M pc L (x :: st) G Q := mx_W.step hd (fun K h => ⟨rfl, x, st, rfl, hx, h⟩) k9
theorem w_if_eq {x : Int32} {off : Int} {t : Nat} (hd : decode (mx_mb M) pc = .ok (.ifCond .eq off, 3)) (ht : (pc : Int) + off = (t : Int)) (kt : x = 0 → mx_W P M t L st G Q) (kf : ¬ (x = 0) → mx_W P M (pc + 3) L st G Q) : mx_W P M pc L (.int x :: st) G Q := mx_W.two (c := mx_cd .eq x 0) hd (fun K h1 h2 => ⟨rfl, x, st, t, rfl, ht, h1, h2⟩) kt kf
theorem w_icmp_eq {x y : Int32} {off : Int} {t : Nat} (hd : decode (mx_mb M) pc = .ok (.if_icmp .eq off, 3)) (ht : (pc : Int) + off = (t : Int)) (kt : x = y → mx_W P M t L st G Q) (kf : ¬ (x = y) → mx_W P M (pc + 3) L st G Q) : mx_W P M pc L (.int y :: .int x :: st) G Q := mx_W.two (c := mx_cd .eq x y) hd (fun K h1 h2 => ⟨rfl, x, y, st, t, rfl, ht, h1, h2⟩) kt kf
theorem w_if_ne {x : Int32} {off : Int} {t : Nat} (hd : decode (mx_mb M) pc = .ok (.ifCond .ne off, 3)) (ht : (pc : Int) + off = (t : Int)) (kt : ¬ x = 0 → mx_W P M t L st G Q) (kf : ¬ (¬ x = 0) → mx_W P M (pc + 3) L st G Q) : mx_W P M pc L (.int x :: st) G Q := mx_W.two (c := mx_cd .ne x 0) hd (fun K h1 h2 => ⟨rfl, x, st, t, rfl, ht, h1, h2⟩) kt kf
theorem w_icmp_ne {x y : Int32} {off : Int} {t : Nat} (hd : decode (mx_mb M) pc = .ok (.if_icmp .ne off, 3)) (ht : (pc : Int) + off = (t : Int)) (kt : ¬ x = y → mx_W P M t L st G Q) (kf : ¬ (¬ x = y) → mx_W P M (pc + 3) L st G Q) : mx_W P M pc L (.int y :: .int x :: st) G Q := mx_W.two (c := mx_cd .ne x y) hd (fun K h1 h2 => ⟨rfl, x, y, st, t, rfl, ht, h1, h2⟩) kt kf
theorem w_if_lt {x : Int32} {off : Int} {t : Nat} (hd : decode (mx_mb M) pc = .ok (.ifCond .lt off, 3)) (ht : (pc : Int) + off = (t : Int)) (kt : x < 0 → mx_W P M t L st G Q) (kf : ¬ (x < 0) → mx_W P M (pc + 3) L st G Q) : mx_W P M pc L (.int x :: st) G Q := mx_W.two (c := mx_cd .lt x 0) hd (fun K h1 h2 => ⟨rfl, x, st, t, rfl, ht, h1, h2⟩) kt kf
theorem w_icmp_lt {x y : Int32} {off : Int} {t : Nat} (hd : decode (mx_mb M) pc = .ok (.if_icmp .lt off, 3)) (ht : (pc : Int) + off = (t : Int)) (kt : x < y → mx_W P M t L st G Q) (kf : ¬ (x < y) → mx_W P M (pc + 3) L st G Q) : mx_W P M pc L (.int y :: .int x :: st) G Q := mx_W.two (c := mx_cd .lt x y) hd (fun K h1 h2 => ⟨rfl, x, y, st, t, rfl, ht, h1, h2⟩) kt kf
theorem w_if_ge {x : Int32} {off : Int} {t : Nat} (hd : decode (mx_mb M) pc = .ok (.ifCond .ge off, 3)) (ht : (pc : Int) + off = (t : Int)) (kt : 0 ≤ x → mx_W P M t L st G Q) (kf : ¬ (0 ≤ x) → mx_W P M (pc + 3) L st G Q) : mx_W P M pc L (.int x :: st) G Q := mx_W.two (c := mx_cd .ge x 0) hd (fun K h1 h2 => ⟨rfl, x, st, t, rfl, ht, h1, h2⟩) kt kf
theorem w_icmp_ge {x y : Int32} {off : Int} {t : Nat} (hd : decode (mx_mb M) pc = .ok (.if_icmp .ge off, 3)) (ht : (pc : Int) + off = (t : Int)) (kt : y ≤ x → mx_W P M t L st G Q) (kf : ¬ (y ≤ x) → mx_W P M (pc + 3) L st G Q) : mx_W P M pc L (.int y :: .int x :: st) G Q := mx_W.two (c := mx_cd .ge x y) hd (fun K h1 h2 => ⟨rfl, x, y, st, t, rfl, ht, h1, h2⟩) kt kf
theorem w_if_gt {x : Int32} {off : Int} {t : Nat} (hd : decode (mx_mb M) pc = .ok (.ifCond .gt off, 3)) (ht : (pc : Int) + off = (t : Int)) (kt : 0 < x → mx_W P M t L st G Q) (kf : ¬ (0 < x) → mx_W P M (pc + 3) L st G Q) : mx_W P M pc L (.int x :: st) G Q := mx_W.two (c := mx_cd .gt x 0) hd (fun K h1 h2 => ⟨rfl, x, st, t, rfl, ht, h1, h2⟩) kt kf
theorem w_icmp_gt {x y : Int32} {off : Int} {t : Nat} (hd : decode (mx_mb M) pc = .ok (.if_icmp .gt off, 3)) (ht : (pc : Int) + off = (t : Int)) (kt : y < x → mx_W P M t L st G Q) (kf : ¬ (y < x) → mx_W P M (pc + 3) L st G Q) : mx_W P M pc L (.int y :: .int x :: st) G Q := mx_W.two (c := mx_cd .gt x y) hd (fun K h1 h2 => ⟨rfl, x, y, st, t, rfl, ht, h1, h2⟩) kt kf
theorem w_if_le {x : Int32} {off : Int} {t : Nat} (hd : decode (mx_mb M) pc = .ok (.ifCond .le off, 3)) (ht : (pc : Int) + off = (t : Int)) (kt : x ≤ 0 → mx_W P M t L st G Q) (kf : ¬ (x ≤ 0) → mx_W P M (pc + 3) L st G Q) : mx_W P M pc L (.int x :: st) G Q := mx_W.two (c := mx_cd .le x 0) hd (fun K h1 h2 => ⟨rfl, x, st, t, rfl, ht, h1, h2⟩) kt kf
theorem w_icmp_le {x y : Int32} {off : Int} {t : Nat} (hd : decode (mx_mb M) pc = .ok (.if_icmp .le off, 3)) (ht : (pc : Int) + off = (t : Int)) (kt : x ≤ y → mx_W P M t L st G Q) (kf : ¬ (x ≤ y) → mx_W P M (pc + 3) L st G Q) : mx_W P M pc L (.int y :: .int x :: st) G Q := mx_W.two (c := mx_cd .le x y) hd (fun K h1 h2 => ⟨rfl, x, y, st, t, rfl, ht, h1, h2⟩) kt kf
theorem w_acmp_eq {x y : Option Nat} {off : Int} {t : Nat} (hd : decode (mx_mb M) pc = .ok (.if_acmp .eq off, 3)) (ht : (pc : Int) + off = (t : Int)) (kt : x = y → mx_W P M t L st G Q) (kf : ¬ x = y → mx_W P M (pc + 3) L st G Q) : mx_W P M pc L (va_rf y :: va_rf x :: st) G Q := mx_W.two (c := x = y) hd (fun K h1 h2 => ⟨rfl, x, y, st, t, rfl, ht, h1, h2⟩) kt kf
theorem w_acmp_ne {x y : Option Nat} {off : Int} {t : Nat} (hd : decode (mx_mb M) pc = .ok (.if_acmp .ne off, 3)) (ht : (pc : Int) + off = (t : Int)) (kt : ¬ x = y → mx_W P M t L st G Q) (kf : x = y → mx_W P M (pc + 3) L st G Q) : mx_W P M pc L (va_rf y :: va_rf x :: st) G Q := mx_W.two (c := ¬ x = y) hd (fun K h1 h2 => ⟨rfl, x, y, st, t, rfl, ht, h1, fun q => h2 (fun z => z q)⟩) kt (fun q => kf (Classical.not_not.mp q))
theorem w_ifnull {x : Option Nat} {off : Int} {t : Nat} (hd : decode (mx_mb M) pc = .ok (.ifnull off, 3)) (ht : (pc : Int) + off = (t : Int)) (kt : x = none → mx_W P M t L st G Q) (kf : ¬ x = none → mx_W P M (pc + 3) L st G Q) : mx_W P M pc L (va_rf x :: st) G Q := mx_W.two (c := x = none) hd (fun K h1 h2 => ⟨rfl, x, st, t, rfl, ht, h1, h2⟩) kt kf
theorem w_ifnonnull {x : Option Nat} {off : Int} {t : Nat} (hd : decode (mx_mb M) pc = .ok (.ifnonnull off, 3)) (ht : (pc : Int) + off = (t : Int)) (kt : ¬ x = none → mx_W P M t L st G Q) (kf : x = none → mx_W P M (pc + 3) L st G Q) : mx_W P M pc L (va_rf x :: st) G Q := mx_W.two (c := ¬ x = none) hd (fun K h1 h2 => ⟨rfl, x, st, t, rfl, ht, h1, fun q => h2 (fun z => z q)⟩) kt (fun q => kf (Classical.not_not.mp q))
theorem w_goto {off : Int} {t : Nat} (hd : decode (mx_mb M) pc = .ok (.goto off, 3)) (ht : (pc : Int) + off = (t : Int)) (k9 : mx_W P M t L st G Q) : mx_W P M pc L st G Q := mx_W.step hd (fun K h => ⟨rfl, t, ht, h⟩) k9
theorem w_tblOut {d lo hi : Int} {offs : Array Int} {len : Nat} {x : Int32} {t : Nat} (hd : decode (mx_mb M) pc = .ok (.tableswitch d lo hi offs, len)) (hc : x.toInt < lo ∨ hi < x.toInt) (ht : (pc : Int) + d = (t : Int)) (k9 : mx_W P M t L st G Q) : mx_W P M pc L (.int x :: st) G Q := mx_W.step hd (fun K h => ⟨x, st, rfl, fun _ => ⟨t, ht, h⟩, fun q => absurd hc q⟩) k9
theorem w_tblIn {d lo hi : Int} {offs : Array Int} {len : Nat} {x : Int32} {off : Int} {t : Nat} (hd : decode (mx_mb M) pc = .ok (.tableswitch d lo hi offs, len)) (hc : ¬ (x.toInt < lo ∨ hi < x.toInt)) (ho : offs[(x.toInt - lo).toNat]? = some off) (ht : (pc : Int) + off = (t : Int)) (k9 : mx_W P M t L st G Q) : mx_W P M pc L (.int x :: st) G Q := mx_W.step hd (fun K h => ⟨x, st, rfl, fun q => absurd q hc, fun _ => ⟨off, t, ho, ht, h⟩⟩) k9
theorem w_look {d : Int} {ps : Array (Int × Int)} {len : Nat} {x : Int32} {t : Nat} (hd : decode (mx_mb M) pc = .ok (.lookupswitch d ps, len)) (hp : (ps.toList.zip (ps.toList.drop 1)).all (fun (a, next) => a.1 < next.1) = true) (ht : (pc : Int) + Op.lookupswitch.offset ps.toList d x.toInt = (t : Int)) (k9 : mx_W P M t L st G Q) : mx_W P M pc L (.int x :: st) G Q := mx_W.step hd (fun K h => ⟨x, st, t, rfl, hp, ht, h⟩) k9
theorem w_alen {a t n : Nat} {q : (Nat → Int32) ⊕ (Nat → Int64) ⊕ (Nat → UInt32) ⊕ (Nat → UInt64) ⊕ (Nat → Option Nat)} (hd : decode (mx_mb M) pc = .ok (.arraylength, 1)) (hg : G.1 a = some (.inl (t, n, q))) (ht : t < (mx_ty P).length ∨ t = 98 ∨ t = 99) (k9 : mx_W P M (pc + 1) L (.int (nI n) :: st) G Q) : mx_W P M pc L (.ref a :: st) G Q := mx_W.step hd (fun K h => ⟨rfl, a, t, (n, q), st, rfl, hg, ht, h⟩) k9
theorem w_iald {a n j : Nat} {f : Nat → Int32} (hd : decode (mx_mb M) pc = .ok (.iaload, 1)) (hg : G.1 a = some (.inl (0, n, .inl f))) (hj : j < n) (hn : n < 2 ^ 31) (k9 : mx_W P M (pc + 1) L (.int (f j) :: st) G Q) : mx_W P M pc L (.int (nI j) :: .ref a :: st) G Q := mx_W.step hd (fun K h => ⟨rfl, nI j, a, 0, n, f, st, rfl, Or.inl rfl, hg, vp_in_nI hj hn, by rw [nI_clamp (by omega)]; exact h⟩) k9
theorem w_sald {a n j : Nat} {f : Nat → Int32} (hd : decode (mx_mb M) pc = .ok (.iaload, 1)) (hg : G.1 a = some (.inl (99, n, .inl f))) (hj : j < n) (hn : n < 2 ^ 31) (k9 : mx_W P M (pc + 1) L (.int (f j) :: st) G Q) : mx_W P M pc L (.int (nI j) :: .ref a :: st) G Q := mx_W.step hd (fun K h => ⟨rfl, nI j, a, 99, n, f, st, rfl, Or.inr rfl, hg, vp_in_nI hj hn, by rw [nI_clamp (by omega)]; exact h⟩) k9
theorem w_lald {a n j : Nat} {f : Nat → Int64} (hd : decode (mx_mb M) pc = .ok (.laload, 1)) (hg : G.1 a = some (.inl (1, n, .inr (.inl f)))) (hj : j < n) (hn : n < 2 ^ 31) (k9 : mx_W P M (pc + 1) L (.long (f j) :: st) G Q) : mx_W P M pc L (.int (nI j) :: .ref a :: st) G Q := mx_W.step hd (fun K h => ⟨rfl, nI j, a, n, f, st, rfl, hg, vp_in_nI hj hn, by rw [nI_clamp (by omega)]; exact h⟩) k9
theorem w_bald {a n j : Nat} {f : Nat → Int32} (hd : decode (mx_mb M) pc = .ok (.baload, 1)) (hg : G.1 a = some (.inl (2, n, .inl f))) (hj : j < n) (hn : n < 2 ^ 31) (k9 : mx_W P M (pc + 1) L (.int (f j) :: st) G Q) : mx_W P M pc L (.int (nI j) :: .ref a :: st) G Q := mx_W.step hd (fun K h => ⟨rfl, nI j, a, 2, n, f, st, rfl, Or.inl rfl, hg, vp_in_nI hj hn, by rw [nI_clamp (by omega)]; exact h⟩) k9
theorem w_zald {a n j : Nat} {f : Nat → Int32} (hd : decode (mx_mb M) pc = .ok (.baload, 1)) (hg : G.1 a = some (.inl (3, n, .inl f))) (hj : j < n) (hn : n < 2 ^ 31) (k9 : mx_W P M (pc + 1) L (.int (f j) :: st) G Q) : mx_W P M pc L (.int (nI j) :: .ref a :: st) G Q := mx_W.step hd (fun K h => ⟨rfl, nI j, a, 3, n, f, st, rfl, Or.inr rfl, hg, vp_in_nI hj hn, by rw [nI_clamp (by omega)]; exact h⟩) k9
theorem w_aald {a t n j : Nat} {f : Nat → Option Nat} (hd : decode (mx_mb M) pc = .ok (.aaload, 1)) (ht : 4 ≤ t ∧ t < (mx_ty P).length ∨ t = 98) (hg : G.1 a = some (.inl (t, n, mx_aq f))) (hj : j < n) (hn : n < 2 ^ 31) (k9 : mx_W P M (pc + 1) L (va_rf (f j) :: st) G Q) : mx_W P M pc L (.int (nI j) :: .ref a :: st) G Q := mx_W.step hd (fun K h => ⟨rfl, nI j, a, t, n, f, st, rfl, ht, hg, vp_in_nI hj hn, by rw [nI_clamp (by omega)]; exact h⟩) k9
theorem w_iast {a n j : Nat} {x : Int32} {f : Nat → Int32} (hd : decode (mx_mb M) pc = .ok (.iastore, 1)) (hg : G.1 a = some (.inl (0, n, .inl f))) (ha : mx_t0 P ≤ a) (hj : j < n) (hn : n < 2 ^ 31) (k9 : mx_W P M (pc + 1) L st (mx_up G a (.inl (0, n, .inl (upd f j x)))) Q) : mx_W P M pc L (.int x :: .int (nI j) :: .ref a :: st) G Q := mx_W.step hd (fun K h => ⟨rfl, x, nI j, a, n, f, st, rfl, hg, ha, vp_in_nI hj hn, by rw [nI_clamp (by omega)]; exact h⟩) k9
theorem w_last {a n j : Nat} {x : Int64} {f : Nat → Int64} (hd : decode (mx_mb M) pc = .ok (.lastore, 1)) (hg : G.1 a = some (.inl (1, n, .inr (.inl f)))) (ha : mx_t0 P ≤ a) (hj : j < n) (hn : n < 2 ^ 31) (k9 : mx_W P M (pc + 1) L st (mx_up G a (.inl (1, n, .inr (.inl (vp_updL f j x))))) Q) : mx_W P M pc L (.long x :: .int (nI j) :: .ref a :: st) G Q := mx_W.step hd (fun K h => ⟨rfl, x, nI j, a, n, f, st, rfl, hg, ha, vp_in_nI hj hn, by rw [nI_clamp (by omega)]; exact h⟩) k9
theorem w_bast {a n j : Nat} {x : Int32} {f : Nat → Int32} (hd : decode (mx_mb M) pc = .ok (.bastore, 1)) (hg : G.1 a = some (.inl (2, n, .inl f))) (ha : mx_t0 P ≤ a) (hj : j < n) (hn : n < 2 ^ 31) (k9 : mx_W P M (pc + 1) L st (mx_up G a (.inl (2, n, .inl (upd f j (vp_nar .byte x))))) Q) : mx_W P M pc L (.int x :: .int (nI j) :: .ref a :: st) G Q := mx_W.step hd (fun K h => ⟨rfl, x, nI j, a, 2, n, f, st, rfl, Or.inl rfl, hg, ha, vp_in_nI hj hn, by rw [nI_clamp (by omega)]; exact h⟩) k9
theorem w_zast {a n j : Nat} {x : Int32} {f : Nat → Int32} (hd : decode (mx_mb M) pc = .ok (.bastore, 1)) (hg : G.1 a = some (.inl (3, n, .inl f))) (ha : mx_t0 P ≤ a) (hj : j < n) (hn : n < 2 ^ 31) (k9 : mx_W P M (pc + 1) L st (mx_up G a (.inl (3, n, .inl (upd f j (vp_nar .boolean x))))) Q) : mx_W P M pc L (.int x :: .int (nI j) :: .ref a :: st) G Q := mx_W.step hd (fun K h => ⟨rfl, x, nI j, a, 3, n, f, st, rfl, Or.inr rfl, hg, ha, vp_in_nI hj hn, by rw [nI_clamp (by omega)]; exact h⟩) k9
theorem w_aast {a t n j : Nat} {x : Option Nat} {f : Nat → Option Nat} (hd : decode (mx_mb M) pc = .ok (.aastore, 1)) (h4 : 4 ≤ t) (ht : t < (mx_ty P).length) (hg : G.1 a = some (.inl (t, n, mx_aq f))) (ha : mx_t0 P ≤ a) (hj : j < n) (hn : n < 2 ^ 31) (hx : ∀ q, x = some q → ∃ c fs, G.1 q = some (.inr (c, fs)) ∧ mx_tg P t c = true) (k9 : mx_W P M (pc + 1) L st (mx_up G a (.inl (t, n, mx_aq (va_up f j x)))) Q) : mx_W P M pc L (va_rf x :: .int (nI j) :: .ref a :: st) G Q := mx_W.step hd (fun K h => ⟨rfl, x, nI j, a, t, n, f, st, rfl, h4, ht, hg, ha, vp_in_nI hj hn, hx, by rw [nI_clamp (by omega)]; exact h⟩) k9
theorem w_newa_int {n : Nat} (hd : decode (mx_mb M) pc = .ok (.newarray .int, 2)) (hn : n ≤ 1000000) (k9 : mx_W P M (pc + 2) L (.ref G.2.1 :: st) (mx_pu G (.inl (0, n, .inl (fun _ => 0))) n) Q) : mx_W P M pc L (.int (nI n) :: st) G Q := mx_W.step hd (fun K h => ⟨rfl, nI n, st, rfl, nI_pos (by omega), by rw [nI_clamp (by omega)]; exact hn, by rw [nI_clamp (by omega)]; exact h⟩) k9
theorem w_newa_long {n : Nat} (hd : decode (mx_mb M) pc = .ok (.newarray .long, 2)) (hn : n ≤ 1000000) (k9 : mx_W P M (pc + 2) L (.ref G.2.1 :: st) (mx_pu G (.inl (1, n, .inr (.inl (fun _ => 0)))) n) Q) : mx_W P M pc L (.int (nI n) :: st) G Q := mx_W.step hd (fun K h => ⟨rfl, nI n, st, rfl, nI_pos (by omega), by rw [nI_clamp (by omega)]; exact hn, by rw [nI_clamp (by omega)]; exact h⟩) k9
theorem w_newa_byte {n : Nat} (hd : decode (mx_mb M) pc = .ok (.newarray .byte, 2)) (hn : n ≤ 1000000) (k9 : mx_W P M (pc + 2) L (.ref G.2.1 :: st) (mx_pu G (.inl (2, n, .inl (fun _ => 0))) n) Q) : mx_W P M pc L (.int (nI n) :: st) G Q := mx_W.step hd (fun K h => ⟨rfl, nI n, st, rfl, nI_pos (by omega), by rw [nI_clamp (by omega)]; exact hn, by rw [nI_clamp (by omega)]; exact h⟩) k9
theorem w_newa_boolean {n : Nat} (hd : decode (mx_mb M) pc = .ok (.newarray .boolean, 2)) (hn : n ≤ 1000000) (k9 : mx_W P M (pc + 2) L (.ref G.2.1 :: st) (mx_pu G (.inl (3, n, .inl (fun _ => 0))) n) Q) : mx_W P M pc L (.int (nI n) :: st) G Q := mx_W.step hd (fun K h => ⟨rfl, nI n, st, rfl, nI_pos (by omega), by rw [nI_clamp (by omega)]; exact hn, by rw [nI_clamp (by omega)]; exact h⟩) k9
theorem w_anew {j t n : Nat} (hd : decode (mx_mb M) pc = .ok (.anewarray j, 3)) (ht : mx_ta P (mx_mc M) j = some t) (hn : n ≤ 1000000) (k9 : mx_W P M (pc + 3) L (.ref G.2.1 :: st) (mx_pu G (.inl (t, n, mx_aq (fun _ => none))) n) Q) : mx_W P M pc L (.int (nI n) :: st) G Q := mx_W.step hd (fun K h => ⟨rfl, nI n, t, st, rfl, ht, nI_pos (by omega), by rw [nI_clamp (by omega)]; exact hn, by rw [nI_clamp (by omega)]; exact h⟩) k9
theorem w_new {j c : Nat} {fs : List Value} (hd : decode (mx_mb M) pc = .ok (.new j, 3)) (ht : mx_tn P (mx_mc M) j = some (c, fs)) (k9 : mx_W P M (pc + 3) L (.ref G.2.1 :: st) (mx_pu G (.inr (c, fs)) fs.length) Q) : mx_W P M pc L st G Q := mx_W.step hd (fun K h => ⟨rfl, c, fs, ht, h⟩) k9
theorem w_get {j a c k : Nat} {t : FieldType} {b : Bool} {fs : List Value} {v : Value} (hd : decode (mx_mb M) pc = .ok (.getfield j, 3)) (ht : mx_tf P (mx_mc M) j = some (c, k, t, b)) (hg : G.1 a = some (.inr (c, fs))) (hv : fs[k]? = some v) (k9 : mx_W P M (pc + 3) L (v :: st) G Q) : mx_W P M pc L (.ref a :: st) G Q := mx_W.step hd (fun K h => ⟨rfl, a, v, st, rfl, Or.inl ⟨c, k, t, b, fs, ht, hg, hv⟩, h⟩) k9
theorem w_getE {j a : Nat} {v : Value} (hd : decode (mx_mb M) pc = .ok (.getfield j, 3)) (he : mx_te P (mx_mc M) j a = some v) (k9 : mx_W P M (pc + 3) L (v :: st) G Q) : mx_W P M pc L (.ref a :: st) G Q := mx_W.step hd (fun K h => ⟨rfl, a, v, st, rfl, Or.inr he, h⟩) k9
theorem w_put {j a c k : Nat} {t : FieldType} {b : Bool} {fs : List Value} {v : Value} (hd : decode (mx_mb M) pc = .ok (.putfield j, 3)) (ht : mx_tf P (mx_mc M) j = some (c, k, t, b)) (hg : G.1 a = some (.inr (c, fs))) (ha : mx_t0 P ≤ a) (hb : b = true → (mx_my M).name = "<init>" ∧ c = mx_mc M) (hn : narrow t v = v) (hf : fits t v = true) (hk : k < fs.length) (k9 : mx_W P M (pc + 3) L st (mx_up G a (.inr (c, fs.set k v))) Q) : mx_W P M pc L (v :: .ref a :: st) G Q := mx_W.step hd (fun K h => ⟨rfl, v, a, c, k, t, b, fs, st, rfl, ht, hg, ha, hb, hn, hf, hk, h⟩) k9
theorem w_gets {j : Nat} {v : Value} (hd : decode (mx_mb M) pc = .ok (.getstatic j, 3)) (ht : mx_ts P (mx_mc M) j = some v) (k9 : mx_W P M (pc + 3) L (v :: st) G Q) : mx_W P M pc L st G Q := mx_W.step hd (fun K h => ⟨rfl, v, ht, h⟩) k9
theorem w_cast {j a c : Nat} {cs : List Nat} {fs : List Value} (hd : decode (mx_mb M) pc = .ok (.checkcast j, 3)) (ht : mx_tk P (mx_mc M) j = some cs) (hg : G.1 a = some (.inr (c, fs))) (hc : c ∈ cs) (k9 : mx_W P M (pc + 3) L (.ref a :: st) G Q) : mx_W P M pc L (.ref a :: st) G Q := mx_W.step hd (fun K h => ⟨rfl, some a, st, rfl, fun b hb => ⟨cs, c, fs, ht, by cases hb; exact hg, hc⟩, h⟩) k9
theorem w_castN {j : Nat} (hd : decode (mx_mb M) pc = .ok (.checkcast j, 3)) (k9 : mx_W P M (pc + 3) L (.null :: st) G Q) : mx_W P M pc L (.null :: st) G Q := mx_W.step hd (fun K h => ⟨rfl, none, st, rfl, (fun b hb => by cases hb), h⟩) k9
theorem w_getClass {j a na : Nat} {M' : mx_M} {x : vp_A} (hd : decode (mx_mb M) pc = .ok (.invokevirtual j, 3)) (ht : mx_tm P (mx_mc M) j = some (21, na, M')) (hg : G.1 a = some (.inl (4, x))) (hs : (st.map fun v => v.category).sum ≤ 8) (h1 : 1 ≤ mx_mf M) (h2 : 22 ≤ mx_mw M) (k9 : mx_W P M (pc + 3) L (.ref (mx_tr P) :: st) G Q) : mx_W P M pc L (.ref a :: st) G Q := mx_W.step hd (fun K h => ⟨rfl, a, x, st, na, M', rfl, ht, hg, hs, h1, h2, h⟩) k9
theorem w_copy {j a0 a na sp dp n n0 n1 : Nat} {M' : mx_M} {f g : Nat → Option Nat} (hd : decode (mx_mb M) pc = .ok (.invokestatic j, 3)) (ht : mx_tm P (mx_mc M) j = some (20, na, M')) (hg0 : G.1 a0 = some (.inl (4, n0, mx_aq f))) (hg : G.1 a = some (.inl (4, n1, mx_aq g))) (ha0 : mx_t0 P ≤ a0) (ha : mx_t0 P ≤ a) (h0 : sp + n ≤ n0) (h1 : dp + n ≤ n1) (hn0 : n0 < 2 ^ 31) (hn1 : n1 < 2 ^ 31) (hel : ∀ i, i < n → ∀ y, f (sp + i) = some y → ∃ c fs, G.1 y = some (.inr (c, fs)) ∧ mx_tg P 4 c = true) (hs : (st.map fun v => v.category).sum ≤ 8) (hf : 1 ≤ mx_mf M) (hw : 40 ≤ mx_mw M) (k9 : mx_W P M (pc + 3) L st (mx_up G a (.inl (4, n1, mx_aq (va_cpy f g sp dp n)))) Q) : mx_W P M pc L (.int (nI n) :: .int (nI dp) :: .ref a :: .int (nI sp) :: .ref a0 :: st) G Q := by
  have e1 : (nI sp).toNatClampNeg = sp := nI_clamp (by omega)
  have e2 : (nI dp).toNatClampNeg = dp := nI_clamp (by omega)
  have e3 : (nI n).toNatClampNeg = n := nI_clamp (by omega)
  refine mx_W.step hd (fun K h => ⟨rfl, Or.inl ⟨nI sp, nI dp, nI n, a0, a, n0, n1, f, g, st, na, M', rfl, ht, hg0, hg, ha0, ha, nI_pos (by omega), nI_pos (by omega), nI_pos (by omega), by rw [e1, e3]; exact h0, by rw [e2, e3]; exact h1, ?_, hs, hf, hw, ?_⟩⟩) k9
  · rw [e1, e3]; exact hel
  · rw [e1, e2, e3]; exact h
theorem w_min {j na : Nat} {M' : mx_M} {x y : Int32} (hd : decode (mx_mb M) pc = .ok (.invokestatic j, 3)) (ht : mx_tm P (mx_mc M) j = some (22, na, M')) (hs : (st.map fun v => v.category).sum ≤ 8) (hf : 1 ≤ mx_mf M) (hw : 24 ≤ mx_mw M) (k9 : mx_W P M (pc + 3) L (.int (if y < x then y else x) :: st) G Q) : mx_W P M pc L (.int y :: .int x :: st) G Q := mx_W.step hd (fun K h => ⟨rfl, Or.inr (Or.inl ⟨x, y, st, na, M', rfl, ht, hs, hf, hw, h⟩)⟩) k9
theorem w_max {j na : Nat} {M' : mx_M} {x y : Int32} (hd : decode (mx_mb M) pc = .ok (.invokestatic j, 3)) (ht : mx_tm P (mx_mc M) j = some (23, na, M')) (hs : (st.map fun v => v.category).sum ≤ 8) (hf : 1 ≤ mx_mf M) (hw : 24 ≤ mx_mw M) (k9 : mx_W P M (pc + 3) L (.int (if x < y then y else x) :: st) G Q) : mx_W P M pc L (.int y :: .int x :: st) G Q := mx_W.step hd (fun K h => ⟨rfl, Or.inr (Or.inr (Or.inl ⟨x, y, st, na, M', rfl, ht, hs, hf, hw, h⟩))⟩) k9
theorem w_minl {j na : Nat} {M' : mx_M} {x y : Int64} (hd : decode (mx_mb M) pc = .ok (.invokestatic j, 3)) (ht : mx_tm P (mx_mc M) j = some (24, na, M')) (hs : (st.map fun v => v.category).sum ≤ 8) (hf : 1 ≤ mx_mf M) (hw : 24 ≤ mx_mw M) (k9 : mx_W P M (pc + 3) L (.long (if y < x then y else x) :: st) G Q) : mx_W P M pc L (.long y :: .long x :: st) G Q := mx_W.step hd (fun K h => ⟨rfl, Or.inr (Or.inr (Or.inr (Or.inl ⟨x, y, st, na, M', rfl, ht, hs, hf, hw, h⟩)))⟩) k9
theorem w_maxl {j na : Nat} {M' : mx_M} {x y : Int64} (hd : decode (mx_mb M) pc = .ok (.invokestatic j, 3)) (ht : mx_tm P (mx_mc M) j = some (25, na, M')) (hs : (st.map fun v => v.category).sum ≤ 8) (hf : 1 ≤ mx_mf M) (hw : 24 ≤ mx_mw M) (k9 : mx_W P M (pc + 3) L (.long (if y < x then x else y) :: st) G Q) : mx_W P M pc L (.long y :: .long x :: st) G Q := mx_W.step hd (fun K h => ⟨rfl, Or.inr (Or.inr (Or.inr (Or.inr ⟨x, y, st, na, M', rfl, ht, hs, hf, hw, h⟩)))⟩) k9
theorem w_iret {x : Int32} {ty : FieldType} (hd : decode (mx_mb M) pc = .ok (.ireturn, 1)) (hr : mx_mr M = some ty) (hn : narrow ty (.int x) = .int x) (q : Q (.inl (some (.int x))) G) : mx_W P M pc L [.int x] G Q := ⟨1, _, _, hd, Or.inr (Or.inl ⟨rfl, x, ty, rfl, hr, hn, q⟩)⟩
theorem w_lret {x : Int64} (hd : decode (mx_mb M) pc = .ok (.lreturn, 1)) (hr : mx_mr M = some .long) (q : Q (.inl (some (.long x))) G) : mx_W P M pc L [.long x] G Q := ⟨1, _, _, hd, Or.inr (Or.inl ⟨rfl, x, rfl, hr, q⟩)⟩
theorem w_aret {x : Option Nat} {ty : FieldType} (hd : decode (mx_mb M) pc = .ok (.areturn, 1)) (hr : mx_mr M = some ty) (ht : (∃ n, ty = .object n) ∨ ∃ t, ty = .array t) (q : Q (.inl (some (va_rf x))) G) : mx_W P M pc L [va_rf x] G Q := ⟨1, _, _, hd, Or.inr (Or.inl ⟨rfl, va_rf x, ty, rfl, mx_rv_q x, hr, ht, q⟩)⟩
theorem w_ret (hd : decode (mx_mb M) pc = .ok (.return_, 1)) (hr : mx_mr M = none) (q : Q (.inl none) G) : mx_W P M pc L [] G Q := ⟨1, _, _, hd, Or.inr (Or.inl ⟨rfl, rfl, hr, q⟩)⟩
theorem w_obj {j a na : Nat} {M' : mx_M} (hd : decode (mx_mb M) pc = .ok (.invokespecial j, 3)) (ht : mx_tm P (mx_mc M) j = some (3, na, M')) (hs : (st.map fun v => v.category).sum ≤ 8) (h1 : 1 ≤ mx_mf M) (h2 : 20 ≤ mx_mw M) (k9 : mx_W P M (pc + 3) L st G Q) : mx_W P M pc L (.ref a :: st) G Q := by
  obtain ⟨k, hk⟩ := k9
  exact ⟨k + 1, _, _, hd, Or.inr (Or.inr (Or.inl ⟨st, ⟨rfl, ⟨na, M', ht⟩, hs, h1, h2, a, rfl⟩, hk⟩))⟩
theorem mx_W.call {i : Instr} {M' : mx_M} {as rest : List Value} (hd : decode (mx_mb M) pc = .ok (i, 3)) (hc : mx_ca P M st G 3 i M' as rest) (k9 : mx_W P M' 0 (mx_en 0 as) [] G (fun o G' => ∃ v, o = .inl v ∧ mx_W P M (pc + 3) L (v.toList ++ rest) G' Q)) : mx_W P M pc L st G Q := by
  obtain ⟨k1, h1⟩ := k9
  obtain ⟨o, G', ⟨v, rfl, k2, h2⟩, -, -, h3⟩ := mx_exact h1
  refine ⟨Nat.max k1 k2 + 1, i, 3, hd, Or.inr (Or.inr (Or.inr ⟨M', as, rest, hc, ?_⟩))⟩
  refine mx_mono (fun a b h => ?_) (mx_le (Nat.le_max_left k1 k2) h3)
  obtain ⟨rfl, rfl⟩ := h
  exact ⟨v, rfl, mx_le (Nat.le_max_right k1 k2) h2⟩
theorem w_inv {j na a : Nat} {M' : mx_M} (bs : List Value) {rest : List Value} {fs : List Value} (hd : decode (mx_mb M) pc = .ok (.invokevirtual j, 3)) (ht : mx_tm P (mx_mc M) j = some (0, na, M')) (hg : G.1 a = some (.inr (mx_mc M', fs))) (hst : st = bs.reverse ++ .ref a :: rest) (hn : bs.length = na) (hs : (rest.map fun v => v.category).sum ≤ 8) (hl : (lg_sl (.ref a :: bs)).length ≤ mx_ml M') (hf : mx_mf M' + 1 ≤ mx_mf M) (hw : 8 + (mx_ml M' + 11) + mx_mw M' ≤ mx_mw M) (he : mx_eg (mx_mg M') 0 (.ref a :: bs) = true) (k9 : mx_W P M' 0 (mx_en 0 (.ref a :: bs)) [] G (fun o G' => ∃ v, o = .inl v ∧ mx_W P M (pc + 3) L (v.toList ++ rest) G' Q)) : mx_W P M pc L st G Q :=
  mx_W.call hd ⟨rfl, hs, hl, hf, hw, he, na, a, bs, ht, hn, rfl, hst, Or.inl ⟨fs, hg⟩⟩ k9
theorem w_invE {j na a : Nat} {M' : mx_M} (bs : List Value) {rest : List Value} (hd : decode (mx_mb M) pc = .ok (.invokevirtual j, 3)) (ht : mx_tm P (mx_mc M) j = some (0, na, M')) (hg : mx_to P a = some (mx_mc M')) (hst : st = bs.reverse ++ .ref a :: rest) (hn : bs.length = na) (hs : (rest.map fun v => v.category).sum ≤ 8) (hl : (lg_sl (.ref a :: bs)).length ≤ mx_ml M') (hf : mx_mf M' + 1 ≤ mx_mf M) (hw : 8 + (mx_ml M' + 11) + mx_mw M' ≤ mx_mw M) (he : mx_eg (mx_mg M') 0 (.ref a :: bs) = true) (k9 : mx_W P M' 0 (mx_en 0 (.ref a :: bs)) [] G (fun o G' => ∃ v, o = .inl v ∧ mx_W P M (pc + 3) L (v.toList ++ rest) G' Q)) : mx_W P M pc L st G Q :=
  mx_W.call hd ⟨rfl, hs, hl, hf, hw, he, na, a, bs, ht, hn, rfl, hst, Or.inr hg⟩ k9
theorem w_spec {j na a k : Nat} {M' : mx_M} (bs : List Value) {rest : List Value} (hd : decode (mx_mb M) pc = .ok (.invokespecial j, 3)) (ht : mx_tm P (mx_mc M) j = some (k, na, M')) (hk : k = 1 ∨ k = 11) (hst : st = bs.reverse ++ .ref a :: rest) (hn : bs.length = na) (hs : (rest.map fun v => v.category).sum ≤ 8) (hl : (lg_sl (.ref a :: bs)).length ≤ mx_ml M') (hf : mx_mf M' + 1 ≤ mx_mf M) (hw : 8 + (mx_ml M' + 11) + mx_mw M' ≤ mx_mw M) (he : mx_eg (mx_mg M') 0 (.ref a :: bs) = true) (k9 : mx_W P M' 0 (mx_en 0 (.ref a :: bs)) [] G (fun o G' => ∃ v, o = .inl v ∧ mx_W P M (pc + 3) L (v.toList ++ rest) G' Q)) : mx_W P M pc L st G Q :=
  mx_W.call hd ⟨rfl, hs, hl, hf, hw, he, k, na, a, bs, ht, hk, hn, rfl, hst⟩ k9
theorem w_stat {j na : Nat} {M' : mx_M} (as : List Value) {rest : List Value} (hd : decode (mx_mb M) pc = .ok (.invokestatic j, 3)) (ht : mx_tm P (mx_mc M) j = some (2, na, M')) (hst : st = as.reverse ++ rest) (hn : as.length = na) (hs : (rest.map fun v => v.category).sum ≤ 8) (hl : (lg_sl as).length ≤ mx_ml M') (hf : mx_mf M' + 1 ≤ mx_mf M) (hw : 8 + (mx_ml M' + 11) + mx_mw M' ≤ mx_mw M) (he : mx_eg (mx_mg M') 0 as = true) (k9 : mx_W P M' 0 (mx_en 0 as) [] G (fun o G' => ∃ v, o = .inl v ∧ mx_W P M (pc + 3) L (v.toList ++ rest) G' Q)) : mx_W P M pc L st G Q :=
  mx_W.call hd ⟨rfl, hs, hl, hf, hw, he, na, ht, hn, hst⟩ k9
end
end
section
/-- a list of a class's pool entries, looked up -/
def gt_lu {α : Type} (t : List (List (Nat × α))) (c i : Nat) : Option α := ((t.getD c []).find? (fun e => Nat.beq e.1 i)).map (fun e => e.2)
def gt_cn : List String := [RX0, RX1, RX2, RX3, RX4, RX5, RX6, RX7, RX9, RX10, RJx4a65c, RL, RX8, RJ9, RJxa1e45, RJxc12de, RJ7, RJ15, RJ8, RJ3]
def gt_c (k : Nat) : String := gt_cn.getD k ""
def gt_cl : List vw_C := [(RX0, TX0, 1), (RX1, TX1, 1), (RX2, TX2, 2), (RX3, TX3, 7), (RX4, TX4, 6), (RX5, TX5, 20), (RX6, TX6, 9), (RX7, TX7, 8), (RX9, TX9, 8), (RX10, TX10, 54), (RJx4a65c, TJx4a65c, 3)]
abbrev mX0_init : mx_M := (0, yX0_init, cX0_init, 1, none, [], 1, 20)
abbrev mX0_find : mx_M := (0, yX0_find, cX0_find, 5, none, [], 6, 138)
abbrev mX0_findWhatMayFold : mx_M := (0, yX0_findWhatMayFold, cX0_findWhatMayFold, 5, none, [], 4, 87)
abbrev mX0_forbidWhatItTakesPlacesOf : mx_M := (0, yX0_forbidWhatItTakesPlacesOf, cX0_forbidWhatItTakesPlacesOf, 4, none, [], 3, 64)
abbrev mX0_joinKin : mx_M := (0, yX0_joinKin, cX0_joinKin, 6, none, [], 5, 112)
abbrev mX0_looksLike : mx_M := (0, yX0_looksLike, cX0_looksLike, 3, (some .boolean), [], 4, 90)
abbrev mX0_relocationsLookLike : mx_M := (0, yX0_relocationsLookLike, cX0_relocationsLookLike, 7, (some .boolean), [], 3, 64)
abbrev mX0_partKin : mx_M := (0, yX0_partKin, cX0_partKin, 5, (some .boolean), [], 5, 114)
abbrev mX0_firstOfTheSameKin : mx_M := (0, yX0_firstOfTheSameKin, cX0_firstOfTheSameKin, 6, (some (.object "SectionGarden$Section")), [], 4, 89)
abbrev mX0_targetsAreKin : mx_M := (0, yX0_targetsAreKin, cX0_targetsAreKin, 6, (some .boolean), [], 3, 64)
abbrev mX0_foldKin : mx_M := (0, yX0_foldKin, cX0_foldKin, 4, none, [], 3, 64)
abbrev mX1_init : mx_M := (1, yX1_init, cX1_init, 1, none, [], 4, 80)
abbrev mX1_find : mx_M := (1, yX1_find, cX1_find, 5, none, [], 10, 241)
abbrev mX1_firstNowhere : mx_M := (1, yX1_firstNowhere, cX1_firstNowhere, 5, (some .int), [], 3, 64)
abbrev mX1_firstIntoLost : mx_M := (1, yX1_firstIntoLost, cX1_firstIntoLost, 5, (some .int), [], 3, 64)
abbrev mX1_begin : mx_M := (1, yX1_begin, cX1_begin, 3, none, [], 8, 193)
abbrev mX1_admit : mx_M := (1, yX1_admit, cX1_admit, 3, none, [], 7, 171)
abbrev mX1_follow : mx_M := (1, yX1_follow, cX1_follow, 5, none, [], 9, 217)
abbrev mX1_admitSet : mx_M := (1, yX1_admitSet, cX1_admitSet, 5, none, [], 8, 193)
abbrev mX1_admitGroup : mx_M := (1, yX1_admitGroup, cX1_admitGroup, 4, none, [], 8, 193)
abbrev mX2_init : mx_M := (2, yX2_init, cX2_init, 1, none, [], 1, 20)
abbrev mX2_resolve : mx_M := (2, yX2_resolve, cX2_resolve, 3, (some .int), [], 4, 87)
abbrev mX2_definitionOf : mx_M := (2, yX2_definitionOf, cX2_definitionOf, 2, (some (.object "SectionGarden$Symbol")), [], 0, 0)
abbrev mX2_firstRootNowhere : mx_M := (2, yX2_firstRootNowhere, cX2_firstRootNowhere, 3, (some .int), [], 1, 21)
abbrev mX2_findLost : mx_M := (2, yX2_findLost, cX2_findLost, 4, none, [], 3, 64)
abbrev mX2_hasGroup : mx_M := (2, yX2_hasGroup, cX2_hasGroup, 2, (some .boolean), [], 0, 0)
abbrev mX2_findDefinitions : mx_M := (2, yX2_findDefinitions, cX2_findDefinitions, 4, (some .int), [], 3, 64)
abbrev mX2_takeDefinition : mx_M := (2, yX2_takeDefinition, cX2_takeDefinition, 4, (some .boolean), [], 1, 21)
abbrev mX2_findTargets : mx_M := (2, yX2_findTargets, cX2_findTargets, 4, none, [], 3, 64)
abbrev mX3_init : mx_M := (3, yX3_init, cX3_init, 1, none, [], 1, 20)
abbrev mX3_run : mx_M := (3, yX3_run, cX3_run, 4, none, [], 6, 136)
abbrev mX3_firstKindOverAnother : mx_M := (3, yX3_firstKindOverAnother, cX3_firstKindOverAnother, 4, (some .int), [], 0, 0)
abbrev mX3_firstMisfit : mx_M := (3, yX3_firstMisfit, cX3_firstMisfit, 4, (some .int), [], 3, 68)
abbrev mX3_targetValue : mx_M := (3, yX3_targetValue, cX3_targetValue, 2, (some .long), [], 1, 20)
abbrev mX3_imageByte : mx_M := (3, yX3_imageByte, cX3_imageByte, 6, (some .int), [2, 4], 4, 92)
abbrev mX3_dropVeneers : mx_M := (3, yX3_dropVeneers, cX3_dropVeneers, 3, none, [], 3, 64)
abbrev mX3_layOut : mx_M := (3, yX3_layOut, cX3_layOut, 5, none, [2], 4, 93)
abbrev mX3_layOutKind : mx_M := (3, yX3_layOutKind, cX3_layOutKind, 9, (some .long), [2, 5], 3, 65)
abbrev mX3_findSetEdges : mx_M := (3, yX3_findSetEdges, cX3_findSetEdges, 4, none, [], 3, 64)
abbrev mX3_widenSet : mx_M := (3, yX3_widenSet, cX3_widenSet, 6, none, [2, 4], 1, 24)
abbrev mX3_addVeneers : mx_M := (3, yX3_addVeneers, cX3_addVeneers, 4, (some .boolean), [], 5, 113)
abbrev mX3_addVeneersOf : mx_M := (3, yX3_addVeneersOf, cX3_addVeneersOf, 5, none, [], 4, 89)
abbrev mX3_veneerFor : mx_M := (3, yX3_veneerFor, cX3_veneerFor, 6, (some .int), [], 3, 64)
abbrev mX3_amountWritten : mx_M := (3, yX3_amountWritten, cX3_amountWritten, 4, (some .long), [2], 2, 45)
abbrev mX3_sectionByte : mx_M := (3, yX3_sectionByte, cX3_sectionByte, 5, (some .int), [], 3, 68)
abbrev mX3_veneerByte : mx_M := (3, yX3_veneerByte, cX3_veneerByte, 6, (some .int), [], 3, 64)
abbrev mX3_byteOf : mx_M := (3, yX3_byteOf, cX3_byteOf, 3, (some .int), [0], 0, 0)
abbrev mX4_init : mx_M := (4, yX4_init, cX4_init, 6, none, [], 1, 20)
abbrev mX4_ownPlace : mx_M := (4, yX4_ownPlace, cX4_ownPlace, 1, (some .long), [], 0, 0)
abbrev mX4_covers : mx_M := (4, yX4_covers, cX4_covers, 2, (some .boolean), [], 0, 0)
abbrev mX4_isWrittenLike : mx_M := (4, yX4_isWrittenLike, cX4_isWrittenLike, 2, (some .boolean), [], 0, 0)
abbrev mX5_init : mx_M := (5, yX5_init, cX5_init, 7, none, [], 4, 80)
abbrev mX5_byteAt : mx_M := (5, yX5_byteAt, cX5_byteAt, 2, (some .int), [], 0, 0)
abbrev mX5_setByte : mx_M := (5, yX5_setByte, cX5_setByte, 3, none, [], 1, 22)
abbrev mX5_seededBytes : mx_M := (5, yX5_seededBytes, cX5_seededBytes, 3, (some (.array .byte)), [], 0, 0)
abbrev mX5_hasBytesOf : mx_M := (5, yX5_hasBytesOf, cX5_hasBytesOf, 3, (some .boolean), [], 1, 21)
abbrev mX5_exchangeMark : mx_M := (5, yX5_exchangeMark, cX5_exchangeMark, 4, (some .int), [], 0, 0)
abbrev mX5_isKept : mx_M := (5, yX5_isKept, cX5_isKept, 1, (some .boolean), [], 0, 0)
abbrev mX5_isPlaced : mx_M := (5, yX5_isPlaced, cX5_isPlaced, 1, (some .boolean), [], 1, 20)
abbrev mX5_finalPlace : mx_M := (5, yX5_finalPlace, cX5_finalPlace, 1, (some .long), [], 0, 0)
abbrev mX5_endWithoutVeneers : mx_M := (5, yX5_endWithoutVeneers, cX5_endWithoutVeneers, 1, (some .long), [], 0, 0)
abbrev mX5_placeOfVeneer : mx_M := (5, yX5_placeOfVeneer, cX5_placeOfVeneer, 2, (some .long), [], 1, 24)
abbrev mX5_endWithVeneers : mx_M := (5, yX5_endWithVeneers, cX5_endWithVeneers, 1, (some .long), [], 2, 45)
abbrev mX5_alignedUp : mx_M := (5, yX5_alignedUp, cX5_alignedUp, 5, (some .long), [0, 3], 0, 0)
abbrev mX6_init : mx_M := (6, yX6_init, cX6_init, 9, none, [], 1, 20)
abbrev mX6_isDefinition : mx_M := (6, yX6_isDefinition, cX6_isDefinition, 1, (some .boolean), [], 0, 0)
abbrev mX6_targetSet : mx_M := (6, yX6_targetSet, cX6_targetSet, 1, (some .int), [], 0, 0)
abbrev mX6_isNowhere : mx_M := (6, yX6_isNowhere, cX6_isNowhere, 1, (some .boolean), [], 1, 20)
abbrev mX6_aimAt : mx_M := (6, yX6_aimAt, cX6_aimAt, 2, none, [], 0, 0)
abbrev mX6_hasSetAndOffsetOf : mx_M := (6, yX6_hasSetAndOffsetOf, cX6_hasSetAndOffsetOf, 2, (some .boolean), [], 0, 0)
abbrev mX6_hasTargetOf : mx_M := (6, yX6_hasTargetOf, cX6_hasTargetOf, 2, (some .boolean), [], 1, 21)
abbrev mX7_init : mx_M := (7, yX7_init, cX7_init, 1, none, [], 4, 80)
abbrev mX7_hasObject : mx_M := (7, yX7_hasObject, cX7_hasObject, 2, (some .boolean), [], 0, 0)
abbrev mX7_sectionAt : mx_M := (7, yX7_sectionAt, cX7_sectionAt, 2, (some (.object "SectionGarden$Section")), [], 3, 64)
abbrev mX7_symbolAt : mx_M := (7, yX7_symbolAt, cX7_symbolAt, 2, (some (.object "SectionGarden$Symbol")), [], 3, 64)
abbrev mX7_addRoot : mx_M := (7, yX7_addRoot, cX7_addRoot, 2, (some .boolean), [], 0, 0)
abbrev mX8_fits : mx_M := (12, yX8_fits, cX8_fits, 3, (some .boolean), [1], 0, 0)
abbrev mX9_init : mx_M := (8, yX9_init, cX9_init, 1, none, [], 5, 100)
abbrev mX9_object : mx_M := (8, yX9_object, cX9_object, 1, (some .int), [], 1, 20)
abbrev mX9_section : mx_M := (8, yX9_section, cX9_section, 7, (some .int), [], 7, 171)
abbrev mX9_patch : mx_M := (8, yX9_patch, cX9_patch, 6, (some .int), [], 4, 85)
abbrev mX9_mark : mx_M := (8, yX9_mark, cX9_mark, 5, (some .int), [], 4, 85)
abbrev mX9_symbol : mx_M := (8, yX9_symbol, cX9_symbol, 9, (some .int), [], 7, 171)
abbrev mX9_relocation : mx_M := (8, yX9_relocation, cX9_relocation, 10, (some .int), [], 7, 171)
abbrev mX9_root : mx_M := (8, yX9_root, cX9_root, 2, (some .int), [], 1, 22)
abbrev mX9_base : mx_M := (8, yX9_base, cX9_base, 4, (some .int), [], 1, 22)
abbrev mX9_link : mx_M := (8, yX9_link, cX9_link, 3, (some .int), [], 11, 265)
abbrev mX9_fault : mx_M := (8, yX9_fault, cX9_fault, 1, (some .int), [], 0, 0)
abbrev mX9_kept : mx_M := (8, yX9_kept, cX9_kept, 4, (some .int), [], 4, 85)
abbrev mX9_place : mx_M := (8, yX9_place, cX9_place, 3, (some .long), [], 6, 90)
abbrev mX9_value : mx_M := (8, yX9_value, cX9_value, 3, (some .long), [], 6, 90)
abbrev mX9_octet : mx_M := (8, yX9_octet, cX9_octet, 5, (some .int), [1], 5, 117)
abbrev mX9_range : mx_M := (8, yX9_range, cX9_range, 3, (some .long), [], 6, 90)
abbrev mX9_veneers : mx_M := (8, yX9_veneers, cX9_veneers, 3, (some .int), [], 4, 85)
abbrev mX9_count : mx_M := (8, yX9_count, cX9_count, 2, (some .int), [], 1, 20)
abbrev mX9_forgetLink : mx_M := (8, yX9_forgetLink, cX9_forgetLink, 1, none, [], 0, 0)
abbrev mX9_faultBeforePlacing : mx_M := (8, yX9_faultBeforePlacing, cX9_faultBeforePlacing, 1, (some .int), [], 4, 88)
abbrev mX9_faultOfPlaces : mx_M := (8, yX9_faultOfPlaces, cX9_faultOfPlaces, 1, (some .int), [], 4, 91)
abbrev mX9_isWithin : mx_M := (8, yX9_isWithin, cX9_isWithin, 3, (some .boolean), [], 0, 0)
abbrev mX9_isMark : mx_M := (8, yX9_isMark, cX9_isMark, 2, (some .boolean), [], 1, 22)
abbrev mX9_isSortFor : mx_M := (8, yX9_isSortFor, cX9_isSortFor, 2, (some .boolean), [], 1, 22)
abbrev mX9_typeAt : mx_M := (8, yX9_typeAt, cX9_typeAt, 1, (some (.object "SectionGarden$Type")), [], 1, 22)
abbrev mX9_numberOf : mx_M := (8, yX9_numberOf, cX9_numberOf, 1, (some .int), [], 0, 0)
abbrev mX10_thrown : mx_M := (9, yX10_thrown, cX10_thrown, 1, (some .int), [], 0, 0)
abbrev mX10_init : mx_M := (9, yX10_init, cX10_init, 1, none, [], 1, 20)
abbrev mX10_in : mx_M := (9, yX10_in, cX10_in, 6, (some .boolean), [0, 2, 4], 0, 0)
abbrev mX10_told : mx_M := (9, yX10_told, cX10_told, 1, none, [], 0, 0)
abbrev mX10_object : mx_M := (9, yX10_object, cX10_object, 1, (some .int), [], 1, 20)
abbrev mX10_section : mx_M := (9, yX10_section, cX10_section, 8, (some .int), [], 1, 25)
abbrev mX10_hasBytes : mx_M := (9, yX10_hasBytes, cX10_hasBytes, 2, (some .boolean), [], 1, 25)
abbrev mX10_patch : mx_M := (9, yX10_patch, cX10_patch, 6, (some .int), [], 2, 46)
abbrev mX10_mark : mx_M := (9, yX10_mark, cX10_mark, 5, (some .int), [], 1, 25)
abbrev mX10_symbol : mx_M := (9, yX10_symbol, cX10_symbol, 9, (some .int), [], 1, 25)
abbrev mX10_wide : mx_M := (9, yX10_wide, cX10_wide, 1, (some .int), [], 0, 0)
abbrev mX10_relocation : mx_M := (9, yX10_relocation, cX10_relocation, 7, (some .int), [], 2, 46)
abbrev mX10_root : mx_M := (9, yX10_root, cX10_root, 2, (some .int), [], 1, 25)
abbrev mX10_base : mx_M := (9, yX10_base, cX10_base, 4, (some .int), [], 1, 25)
abbrev mX10_names : mx_M := (9, yX10_names, cX10_names, 6, (some .int), [], 0, 0)
abbrev mX10_keeps : mx_M := (9, yX10_keeps, cX10_keeps, 3, none, [], 0, 0)
abbrev mX10_keepAll : mx_M := (9, yX10_keepAll, cX10_keepAll, 4, none, [], 2, 45)
abbrev mX10_comesBy : mx_M := (9, yX10_comesBy, cX10_comesBy, 4, none, [], 1, 22)
abbrev mX10_relocationsOf : mx_M := (9, yX10_relocationsOf, cX10_relocationsOf, 4, (some .int), [], 0, 0)
abbrev mX10_nth : mx_M := (9, yX10_nth, cX10_nth, 5, (some .int), [], 0, 0)
abbrev mX10_startsAlike : mx_M := (9, yX10_startsAlike, cX10_startsAlike, 4, (some .boolean), [], 1, 23)
abbrev mX10_staysAlike : mx_M := (9, yX10_staysAlike, cX10_staysAlike, 10, (some .boolean), [], 1, 24)
abbrev mX10_foldAll : mx_M := (9, yX10_foldAll, cX10_foldAll, 5, none, [], 2, 53)
abbrev mX10_isPlaced : mx_M := (9, yX10_isPlaced, cX10_isPlaced, 2, (some .boolean), [], 0, 0)
abbrev mX10_veneersOf : mx_M := (9, yX10_veneersOf, cX10_veneersOf, 4, (some .int), [], 0, 0)
abbrev mX10_up : mx_M := (9, yX10_up, cX10_up, 4, (some .long), [0, 2], 0, 0)
abbrev mX10_placeAll : mx_M := (9, yX10_placeAll, cX10_placeAll, 6, none, [1], 1, 23)
abbrev mX10_veneerPlace : mx_M := (9, yX10_veneerPlace, cX10_veneerPlace, 5, (some .long), [], 1, 23)
abbrev mX10_placeOf : mx_M := (9, yX10_placeOf, cX10_placeOf, 2, (some .long), [], 0, 0)
abbrev mX10_valueOf : mx_M := (9, yX10_valueOf, cX10_valueOf, 10, (some .long), [3, 5, 8], 1, 21)
abbrev mX10_v : mx_M := (9, yX10_v, cX10_v, 2, (some .long), [], 2, 50)
abbrev mX10_isBranchNear : mx_M := (9, yX10_isBranchNear, cX10_isBranchNear, 3, (some .boolean), [1], 1, 25)
abbrev mX10_sameAim : mx_M := (9, yX10_sameAim, cX10_sameAim, 3, (some .boolean), [], 0, 0)
abbrev mX10_veneerAll : mx_M := (9, yX10_veneerAll, cX10_veneerAll, 7, none, [], 3, 71)
abbrev mX10_bad : mx_M := (9, yX10_bad, cX10_bad, 3, none, [], 0, 0)
abbrev mX10_link : mx_M := (9, yX10_link, cX10_link, 5, (some .int), [], 5, 119)
abbrev mX10_hasPlaced : mx_M := (9, yX10_hasPlaced, cX10_hasPlaced, 3, (some .boolean), [], 1, 21)
abbrev mX10_written : mx_M := (9, yX10_written, cX10_written, 6, (some .long), [2, 4], 3, 71)
abbrev mX10_fits : mx_M := (9, yX10_fits, cX10_fits, 4, (some .boolean), [2], 4, 96)
abbrev mX10_fault : mx_M := (9, yX10_fault, cX10_fault, 1, (some .int), [], 0, 0)
abbrev mX10_kept : mx_M := (9, yX10_kept, cX10_kept, 3, (some .int), [], 1, 25)
abbrev mX10_place : mx_M := (9, yX10_place, cX10_place, 2, (some .long), [], 1, 25)
abbrev mX10_value : mx_M := (9, yX10_value, cX10_value, 2, (some .long), [], 2, 50)
abbrev mX10_octet : mx_M := (9, yX10_octet, cX10_octet, 7, (some .int), [1, 4], 5, 121)
abbrev mX10_byteOf : mx_M := (9, yX10_byteOf, cX10_byteOf, 6, (some .int), [], 4, 96)
abbrev mX10_range : mx_M := (9, yX10_range, cX10_range, 3, (some .long), [], 1, 25)
abbrev mX10_veneers : mx_M := (9, yX10_veneers, cX10_veneers, 2, (some .int), [], 1, 25)
abbrev mX10_found : mx_M := (9, yX10_found, cX10_found, 4, (some .int), [], 0, 0)
abbrev mX10_count : mx_M := (9, yX10_count, cX10_count, 2, (some .int), [], 1, 23)
abbrev mJ9_max_7cf53 : mx_M := (13, yJ9_max_7cf53, cJ9_max_7cf53, 2, (some .int), [], 0, 0)
abbrev mJ9_max_f86c9 : mx_M := (13, yJ9_max_f86c9, cJ9_max_f86c9, 4, (some .long), [0, 2], 0, 0)
abbrev mJ9_min_7cf53 : mx_M := (13, yJ9_min_7cf53, cJ9_min_7cf53, 2, (some .int), [], 0, 0)
abbrev mJ9_min_f86c9 : mx_M := (13, yJ9_min_f86c9, cJ9_min_f86c9, 4, (some .long), [0, 2], 0, 0)
abbrev mJxa1e45_init_da8c8 : mx_M := (14, yJxa1e45_init_da8c8, cJxa1e45_init_da8c8, 1, none, [], 1, 20)
abbrev mJxc12de_init_da8c8 : mx_M := (15, yJxc12de_init_da8c8, cJxc12de_init_da8c8, 1, none, [], 2, 40)
abbrev mJx4a65c_init_da8c8 : mx_M := (10, yJx4a65c_init_da8c8, cJx4a65c_init_da8c8, 1, none, [], 3, 60)
abbrev mJx4a65c_grow_92f84 : mx_M := (10, yJx4a65c_grow_92f84, cJx4a65c_grow_92f84, 4, (some (.array (.object "java/lang/Object"))), [], 3, 84)
abbrev mJx4a65c_grow_d5877 : mx_M := (10, yJx4a65c_grow_d5877, cJx4a65c_grow_d5877, 1, (some (.array (.object "java/lang/Object"))), [], 4, 107)
abbrev mJx4a65c_size_8abf5 : mx_M := (10, yJx4a65c_size_8abf5, cJx4a65c_size_8abf5, 1, (some .int), [], 0, 0)
abbrev mJx4a65c_elementData_915e3 : mx_M := (10, yJx4a65c_elementData_915e3, cJx4a65c_elementData_915e3, 2, (some (.object "java/lang/Object")), [], 0, 0)
abbrev mJx4a65c_get_915e3 : mx_M := (10, yJx4a65c_get_915e3, cJx4a65c_get_915e3, 2, (some (.object "java/lang/Object")), [], 2, 43)
abbrev mJx4a65c_add_72be8 : mx_M := (10, yJx4a65c_add_72be8, cJx4a65c_add_72be8, 4, none, [], 5, 127)
abbrev mJx4a65c_add_9ea2d : mx_M := (10, yJx4a65c_add_9ea2d, cJx4a65c_add_9ea2d, 2, (some .boolean), [], 6, 150)
abbrev mJx4a65c_clear_da8c8 : mx_M := (10, yJx4a65c_clear_da8c8, cJx4a65c_clear_da8c8, 4, none, [], 0, 0)
abbrev mJ7_fill_d0a16 : mx_M := (16, yJ7_fill_d0a16, cJ7_fill_d0a16, 5, none, [1], 0, 0)
abbrev mJ7_fill_53178 : mx_M := (16, yJ7_fill_53178, cJ7_fill_53178, 4, none, [], 0, 0)
abbrev mJ7_copyOf_1904c : mx_M := (16, yJ7_copyOf_1904c, cJ7_copyOf_1904c, 2, (some (.array (.object "java/lang/Object"))), [], 2, 63)
abbrev mJ7_copyOf_6403c : mx_M := (16, yJ7_copyOf_6403c, cJ7_copyOf_6403c, 4, (some (.array (.object "java/lang/Object"))), [], 1, 40)
abbrev mJ15_checkIndex_7cf53 : mx_M := (17, yJ15_checkIndex_7cf53, cJ15_checkIndex_7cf53, 2, (some .int), [], 1, 22)
abbrev mJ8_newLength_cabcc : mx_M := (18, yJ8_newLength_cabcc, cJ8_newLength_cabcc, 4, (some .int), [], 1, 24)
abbrev mJ8_hugeLength_7cf53 : mx_M := (18, yJ8_hugeLength_7cf53, cJ8_hugeLength_7cf53, 3, (some .int), [], 0, 0)
abbrev mJ3_checkIndex_8e157 : mx_M := (19, yJ3_checkIndex_8e157, cJ3_checkIndex_8e157, 3, (some .int), [], 0, 0)
abbrev mL_place : mx_M := (11, yL_place, cL_place, 4, (some .int), [], 7, 112)
abbrev mL_value : mx_M := (11, yL_value, cL_value, 4, (some .int), [], 7, 112)
abbrev mL_range : mx_M := (11, yL_range, cL_range, 5, (some .int), [], 7, 112)
abbrev mL_law : mx_M := (11, yL_law, cL_law, 8, (some .boolean), [6], 12, 287)
def gt_f : List (List (Nat × (Nat × Nat × FieldType × Bool) × String × Nat × Nat)) := [
  [(9, (0, 0, .int, false), "SectionGarden$Folding", 208, 0), (27, (5, 17, .object "SectionGarden$Section", false), "SectionGarden$Section", 349, 0), (45, (5, 2, .int, true), "SectionGarden$Section", 310, 0), (52, (5, 8, .boolean, false), "SectionGarden$Section", 327, 0), (56, (5, 9, .int, false), "SectionGarden$Section", 331, 0), (59, (5, 14, .boolean, false), "SectionGarden$Section", 346, 0), (66, (5, 6, .object "java/util/ArrayList", true), "SectionGarden$Section", 322, 0), (72, (4, 2, .object "SectionGarden$Type", true), "SectionGarden$Relocation", 590, 0), (81, (4, 3, .object "SectionGarden$Symbol", true), "SectionGarden$Relocation", 594, 0), (85, (6, 7, .object "SectionGarden$Section", false), "SectionGarden$Symbol", 538, 0), (90, (5, 15, .object "SectionGarden$Section", false), "SectionGarden$Section", 347, 0), (97, (5, 3, .int, true), "SectionGarden$Section", 315, 0), (99, (5, 4, .int, true), "SectionGarden$Section", 318, 0), (122, (5, 16, .object "SectionGarden$Section", false), "SectionGarden$Section", 348, 0)],
  [(12, (1, 0, .object "java/util/ArrayList", true), "SectionGarden$Keeping", 197, 0), (18, (7, 0, .object "java/util/ArrayList", true), "SectionGarden$Told", 134, 0), (27, (7, 6, .int, false), "SectionGarden$Told", 151, 0), (31, (7, 3, .array .int, true), "SectionGarden$Told", 144, 0), (41, (6, 2, .object "SectionGarden$Section", true), "SectionGarden$Symbol", 527, 0), (67, (4, 3, .object "SectionGarden$Symbol", true), "SectionGarden$Relocation", 593, 0), (71, (4, 0, .object "SectionGarden$Section", true), "SectionGarden$Relocation", 585, 0), (76, (6, 4, .int, true), "SectionGarden$Symbol", 530, 0), (82, (6, 7, .object "SectionGarden$Section", false), "SectionGarden$Symbol", 537, 0), (85, (5, 11, .boolean, false), "SectionGarden$Section", 338, 0), (92, (5, 12, .int, false), "SectionGarden$Section", 342, 0), (95, (5, 13, .object "SectionGarden$Section", false), "SectionGarden$Section", 344, 0), (98, (5, 8, .boolean, false), "SectionGarden$Section", 328, 0), (105, (5, 6, .object "java/util/ArrayList", true), "SectionGarden$Section", 323, 0), (115, (5, 10, .int, false), "SectionGarden$Section", 336, 0), (121, (5, 9, .int, false), "SectionGarden$Section", 332, 0)],
  [(9, (2, 0, .array .int, true), "SectionGarden$Names", 182, 0), (17, (2, 1, .array (.object "SectionGarden$Symbol"), true), "SectionGarden$Names", 183, 0), (21, (7, 0, .object "java/util/ArrayList", true), "SectionGarden$Told", 133, 0), (31, (7, 1, .object "java/util/ArrayList", true), "SectionGarden$Told", 138, 0), (41, (7, 6, .int, false), "SectionGarden$Told", 152, 0), (45, (7, 3, .array .int, true), "SectionGarden$Told", 145, 0), (74, (5, 10, .int, false), "SectionGarden$Section", 335, 0), (77, (5, 1, .int, true), "SectionGarden$Section", 307, 0), (86, (5, 11, .boolean, false), "SectionGarden$Section", 339, 0), (98, (6, 1, .int, true), "SectionGarden$Symbol", 525, 0), (101, (6, 4, .int, true), "SectionGarden$Symbol", 531, 0)],
  [(9, (3, 0, .array .long, true), "SectionGarden$Placing", 219, 0), (15, (3, 1, .array .long, true), "SectionGarden$Placing", 221, 0), (18, (3, 2, .array .boolean, true), "SectionGarden$Placing", 223, 0), (22, (3, 3, .array .long, true), "SectionGarden$Placing", 224, 0), (25, (3, 4, .array .long, true), "SectionGarden$Placing", 225, 0), (28, (3, 5, .int, false), "SectionGarden$Placing", 226, 0), (32, (3, 6, .int, false), "SectionGarden$Placing", 228, 0), (42, (7, 0, .object "java/util/ArrayList", true), "SectionGarden$Told", 135, 0), (64, (4, 0, .object "SectionGarden$Section", true), "SectionGarden$Relocation", 586, 0), (74, (4, 2, .object "SectionGarden$Type", true), "SectionGarden$Relocation", 591, 0), (88, (6, 5, .int, true), "SectionGarden$Symbol", 533, 0), (93, (6, 6, .int, true), "SectionGarden$Symbol", 535, 0), (96, (6, 7, .object "SectionGarden$Section", false), "SectionGarden$Symbol", 539, 0), (103, (6, 8, .int, false), "SectionGarden$Symbol", 542, 0), (109, (5, 18, .long, false), "SectionGarden$Section", 353, 0), (127, (5, 19, .int, false), "SectionGarden$Section", 356, 0), (130, (7, 2, .object "java/util/ArrayList", true), "SectionGarden$Told", 141, 0), (133, (4, 5, .int, false), "SectionGarden$Relocation", 599, 0), (138, (7, 4, .array .int, true), "SectionGarden$Told", 147, 0), (150, (5, 2, .int, true), "SectionGarden$Section", 312, 0), (153, (5, 4, .int, true), "SectionGarden$Section", 319, 0), (174, (5, 9, .int, false), "SectionGarden$Section", 333, 0), (177, (5, 3, .int, true), "SectionGarden$Section", 316, 0), (196, (5, 6, .object "java/util/ArrayList", true), "SectionGarden$Section", 325, 0), (204, (4, 4, .int, true), "SectionGarden$Relocation", 597, 0), (207, (4, 3, .object "SectionGarden$Symbol", true), "SectionGarden$Relocation", 595, 0), (230, (4, 1, .int, true), "SectionGarden$Relocation", 588, 0)],
  [(9, (4, 5, .int, false), "SectionGarden$Relocation", 598, 0), (15, (4, 0, .object "SectionGarden$Section", true), "SectionGarden$Relocation", 584, 0), (19, (4, 1, .int, true), "SectionGarden$Relocation", 587, 0), (22, (4, 2, .object "SectionGarden$Type", true), "SectionGarden$Relocation", 589, 0), (26, (4, 3, .object "SectionGarden$Symbol", true), "SectionGarden$Relocation", 592, 0), (30, (4, 4, .int, true), "SectionGarden$Relocation", 596, 0), (33, (5, 18, .long, false), "SectionGarden$Section", 352, 0)],
  [(12, (5, 6, .object "java/util/ArrayList", true), "SectionGarden$Section", 321, 0), (18, (5, 9, .int, false), "SectionGarden$Section", 330, 0), (22, (5, 10, .int, false), "SectionGarden$Section", 334, 0), (25, (5, 12, .int, false), "SectionGarden$Section", 341, 0), (28, (5, 0, .int, true), "SectionGarden$Section", 304, 0), (31, (5, 1, .int, true), "SectionGarden$Section", 306, 0), (34, (5, 2, .int, true), "SectionGarden$Section", 309, 0), (37, (5, 3, .int, true), "SectionGarden$Section", 313, 0), (40, (5, 4, .int, true), "SectionGarden$Section", 317, 0), (43, (5, 5, .int, true), "SectionGarden$Section", 320, 0), (46, (5, 7, .array .byte, false), "SectionGarden$Section", 326, 0), (58, (5, 8, .boolean, false), "SectionGarden$Section", 329, 0), (66, (5, 17, .object "SectionGarden$Section", false), "SectionGarden$Section", 350, 0), (70, (5, 18, .long, false), "SectionGarden$Section", 354, 0), (84, (5, 19, .int, false), "SectionGarden$Section", 357, 0)],
  [(9, (6, 0, .int, true), "SectionGarden$Symbol", 522, 0), (15, (6, 1, .int, true), "SectionGarden$Symbol", 524, 0), (18, (6, 2, .object "SectionGarden$Section", true), "SectionGarden$Symbol", 526, 0), (22, (6, 3, .int, true), "SectionGarden$Symbol", 528, 0), (25, (6, 4, .int, true), "SectionGarden$Symbol", 529, 0), (28, (6, 5, .int, true), "SectionGarden$Symbol", 532, 0), (31, (6, 6, .int, true), "SectionGarden$Symbol", 534, 0), (34, (5, 11, .boolean, false), "SectionGarden$Section", 337, 0), (40, (6, 7, .object "SectionGarden$Section", false), "SectionGarden$Symbol", 536, 0), (47, (6, 8, .int, false), "SectionGarden$Symbol", 541, 0)],
  [(12, (7, 0, .object "java/util/ArrayList", true), "SectionGarden$Told", 132, 0), (18, (7, 1, .object "java/util/ArrayList", true), "SectionGarden$Told", 137, 0), (21, (7, 2, .object "java/util/ArrayList", true), "SectionGarden$Told", 140, 0), (24, (7, 3, .array .int, true), "SectionGarden$Told", 143, 0), (28, (7, 4, .array .int, true), "SectionGarden$Told", 146, 0), (31, (7, 5, .int, false), "SectionGarden$Told", 150, 0), (47, (7, 6, .int, false), "SectionGarden$Told", 153, 0)],
  [(10, (8, 0, .object "SectionGarden$Told", true), "SectionGarden", 247, 0), (19, (8, 1, .object "SectionGarden$Names", true), "SectionGarden", 248, 0), (26, (8, 2, .object "SectionGarden$Keeping", true), "SectionGarden", 249, 0), (33, (8, 3, .object "SectionGarden$Folding", true), "SectionGarden", 250, 0), (40, (8, 4, .object "SectionGarden$Placing", true), "SectionGarden", 251, 0), (44, (8, 7, .int, false), "SectionGarden", 254, 0), (48, (7, 5, .int, false), "SectionGarden$Told", 149, 0), (62, (7, 0, .object "java/util/ArrayList", true), "SectionGarden$Told", 136, 0), (72, (7, 7, .int, false), "SectionGarden$Told", 155, 0), (85, (5, 0, .int, true), "SectionGarden$Section", 305, 0), (92, (5, 2, .int, true), "SectionGarden$Section", 311, 0), (95, (5, 3, .int, true), "SectionGarden$Section", 314, 0), (113, (5, 1, .int, true), "SectionGarden$Section", 308, 0), (119, (7, 1, .object "java/util/ArrayList", true), "SectionGarden$Told", 139, 0), (131, (6, 0, .int, true), "SectionGarden$Symbol", 523, 0), (145, (7, 2, .object "java/util/ArrayList", true), "SectionGarden$Told", 142, 0), (153, (5, 6, .object "java/util/ArrayList", true), "SectionGarden$Section", 324, 0), (157, (7, 6, .int, false), "SectionGarden$Told", 154, 0), (161, (7, 4, .array .int, true), "SectionGarden$Told", 148, 0), (176, (8, 5, .boolean, false), "SectionGarden", 252, 0), (190, (8, 6, .boolean, false), "SectionGarden", 253, 0), (197, (5, 13, .object "SectionGarden$Section", false), "SectionGarden$Section", 345, 0), (205, (5, 17, .object "SectionGarden$Section", false), "SectionGarden$Section", 351, 0), (208, (5, 11, .boolean, false), "SectionGarden$Section", 340, 0), (211, (5, 12, .int, false), "SectionGarden$Section", 343, 0), (232, (6, 7, .object "SectionGarden$Section", false), "SectionGarden$Symbol", 540, 0), (248, (5, 18, .long, false), "SectionGarden$Section", 355, 0), (263, (3, 1, .array .long, true), "SectionGarden$Placing", 222, 0), (267, (3, 0, .array .long, true), "SectionGarden$Placing", 220, 0), (270, (5, 19, .int, false), "SectionGarden$Section", 358, 0), (273, (1, 0, .object "java/util/ArrayList", true), "SectionGarden$Keeping", 198, 0), (276, (0, 0, .int, false), "SectionGarden$Folding", 209, 0), (279, (3, 5, .int, false), "SectionGarden$Placing", 227, 0), (282, (3, 6, .int, false), "SectionGarden$Placing", 229, 0)],
  [(1, (9, 0, .int, false), "SectionGardenModel", 1082, 0), (13, (9, 3, .array .int, true), "SectionGardenModel", 1085, 0), (17, (9, 4, .array .int, true), "SectionGardenModel", 1086, 0), (20, (9, 5, .array .int, true), "SectionGardenModel", 1087, 0), (23, (9, 6, .array .int, true), "SectionGardenModel", 1088, 0), (26, (9, 7, .array .int, true), "SectionGardenModel", 1089, 0), (29, (9, 8, .array .boolean, true), "SectionGardenModel", 1090, 0), (33, (9, 9, .array .int, true), "SectionGardenModel", 1091, 0), (36, (9, 10, .array .int, true), "SectionGardenModel", 1092, 0), (40, (9, 11, .array .int, true), "SectionGardenModel", 1093, 0), (43, (9, 15, .array .int, true), "SectionGardenModel", 1097, 0), (46, (9, 16, .array .int, true), "SectionGardenModel", 1098, 0), (49, (9, 17, .array .int, true), "SectionGardenModel", 1099, 0), (52, (9, 18, .array .int, true), "SectionGardenModel", 1100, 0), (55, (9, 19, .array .int, true), "SectionGardenModel", 1101, 0), (58, (9, 21, .array .int, true), "SectionGardenModel", 1103, 0), (61, (9, 22, .array .int, true), "SectionGardenModel", 1104, 0), (64, (9, 23, .array .int, true), "SectionGardenModel", 1105, 0), (67, (9, 24, .array .int, true), "SectionGardenModel", 1106, 0), (70, (9, 25, .array .int, true), "SectionGardenModel", 1107, 0), (73, (9, 27, .array .int, true), "SectionGardenModel", 1109, 0), (78, (9, 28, .array .long, true), "SectionGardenModel", 1110, 0), (82, (9, 32, .int, false), "SectionGardenModel", 1114, 0), (85, (9, 33, .array .boolean, true), "SectionGardenModel", 1115, 0), (88, (9, 34, .array .int, true), "SectionGardenModel", 1116, 0), (91, (9, 35, .array .int, true), "SectionGardenModel", 1117, 0), (94, (9, 36, .array .int, true), "SectionGardenModel", 1118, 0), (97, (9, 37, .array .int, true), "SectionGardenModel", 1119, 0), (100, (9, 38, .array .int, true), "SectionGardenModel", 1120, 0), (103, (9, 40, .array .boolean, true), "SectionGardenModel", 1122, 0), (106, (9, 41, .array .int, true), "SectionGardenModel", 1123, 0), (109, (9, 42, .array .int, true), "SectionGardenModel", 1124, 0), (112, (9, 43, .array .int, true), "SectionGardenModel", 1125, 0), (115, (9, 44, .array .boolean, true), "SectionGardenModel", 1126, 0), (118, (9, 45, .array .boolean, true), "SectionGardenModel", 1127, 0), (121, (9, 46, .array .long, true), "SectionGardenModel", 1128, 0), (124, (9, 47, .array .long, true), "SectionGardenModel", 1129, 0), (127, (9, 48, .array .long, true), "SectionGardenModel", 1130, 0), (130, (9, 51, .array .int, true), "SectionGardenModel", 1133, 0), (133, (9, 52, .array .int, true), "SectionGardenModel", 1134, 0), (136, (9, 53, .array .int, true), "SectionGardenModel", 1135, 0), (139, (9, 29, .boolean, false), "SectionGardenModel", 1111, 0), (143, (9, 30, .boolean, false), "SectionGardenModel", 1112, 0), (146, (9, 31, .int, false), "SectionGardenModel", 1113, 0), (149, (9, 1, .int, false), "SectionGardenModel", 1083, 0), (165, (9, 2, .int, false), "SectionGardenModel", 1084, 0), (168, (9, 13, .int, false), "SectionGardenModel", 1095, 0), (171, (9, 12, .int, false), "SectionGardenModel", 1094, 0), (186, (9, 14, .int, false), "SectionGardenModel", 1096, 0), (195, (9, 20, .int, false), "SectionGardenModel", 1102, 0), (198, (9, 26, .int, false), "SectionGardenModel", 1108, 0), (203, (9, 39, .int, false), "SectionGardenModel", 1121, 0), (227, (9, 50, .int, false), "SectionGardenModel", 1132, 0), (230, (9, 49, .int, false), "SectionGardenModel", 1131, 0)],
  [(9, (10, 1, .array (.object "java/lang/Object"), false), "java/util/ArrayList", 120, 0), (48, (10, 2, .int, false), "java/util/ArrayList", 121, 0), (63, (10, 0, .int, false), "java/util/ArrayList", 123, 124)],
  [],
  [],
  [],
  [],
  [(7, (10, 0, .int, false), "java/util/AbstractList", 122, 0)],
  [],
  [],
  [],
  []]
def gt_k : List (List (Nat × Option Value × Nat)) := [
  [],
  [],
  [],
  [(121, some (.long (8)), 946), (136, some (.long (4096)), 812), (163, some (.long (-1)), 844)],
  [],
  [(82, some (.long (8)), 839), (91, some (.long (-1)), 825)],
  [],
  [],
  [(75, some (.int (60000)), 295), (160, some (.int (2000000000)), 625)],
  [(39, some (.int (60000)), 1080), (76, some (.long (-1)), 1081), (159, some (.long (3)), 1260), (161, some (.long (20000)), 1261), (163, some (.long (8)), 1262), (178, some (.long (2)), 1275), (180, some (.long (7)), 1276), (182, some (.long (15)), 1277), (184, some (.long (63)), 1282), (189, some (.long (4)), 1287), (201, some (.long (2000000000)), 1299), (233, some (.long (4096)), 1352), (252, some (.long (-32768)), 1380), (254, some (.long (32767)), 1381), (298, some (.long (4294967295)), 1402), (300, some (.long (65535)), 1403), (302, some (.long (-2147483648)), 1404), (304, some (.long (2147483647)), 1405), (306, some (.long (-128)), 1406), (308, some (.long (255)), 1407)],
  [],
  [(90, some (.long (4294967295)), 1448)],
  [],
  [],
  [],
  [],
  [(110, none, 450)],
  [],
  [(200, some (.int (2147483639)), 422)],
  []]
def gt_n : List (List (Nat × (Nat × List Value) × Nat × Nat × Nat)) := [
  [],
  [(9, (10, [.int 0, .null, .int 0]), 195, 107, 70)],
  [],
  [],
  [],
  [(9, (10, [.int 0, .null, .int 0]), 302, 107, 70)],
  [],
  [(9, (10, [.int 0, .null, .int 0]), 106, 107, 70)],
  [(7, (7, [.null, .null, .null, .null, .null, .int 0, .int 0, .int 0]), 100, 101, 67), (16, (2, [.null, .null]), 174, 175, 71), (23, (1, [.null]), 189, 190, 72), (30, (0, [.int 0]), 202, 203, 73), (37, (3, [.null, .null, .null, .null, .null, .int 0, .int 0]), 213, 214, 74), (76, (5, [.int 0, .int 0, .int 0, .int 0, .int 0, .int 0, .null, .null, .int 0, .int 0, .int 0, .int 0, .int 0, .null, .int 0, .null, .null, .null, .long 0, .int 0]), 296, 297, 76), (122, (6, [.int 0, .int 0, .null, .int 0, .int 0, .int 0, .int 0, .null, .int 0]), 516, 517, 83), (148, (4, [.null, .int 0, .null, .null, .int 0, .int 0]), 578, 579, 86)],
  [],
  [],
  [(8, (8, [.null, .null, .null, .null, .null, .int 0, .int 0, .int 0]), 92, 93, 66), (25, (9, [.int 0, .int 0, .int 0, .null, .null, .null, .null, .null, .null, .null, .null, .null, .int 0, .int 0, .int 0, .null, .null, .null, .null, .null, .int 0, .null, .null, .null, .null, .null, .int 0, .null, .null, .int 0, .int 0, .int 0, .int 0, .null, .null, .null, .null, .null, .null, .int 0, .null, .null, .null, .null, .null, .null, .null, .null, .null, .int 0, .int 0, .null, .null, .null]), 1074, 1075, 75)],
  [],
  [],
  [],
  [],
  [],
  [],
  [],
  []]
def gt_a : List (List (Nat × Nat × String × Nat)) := [
  [],
  [],
  [(15, 5, "SectionGarden$Symbol", 180)],
  [],
  [],
  [],
  [],
  [],
  [],
  [],
  [(7, 4, "java/lang/Object", 460)],
  [],
  [],
  [],
  [],
  [],
  [(2, 4, "java/lang/Object", 452)],
  [],
  [],
  []]
def gt_q : List (List (Nat × Nat × String × Nat)) := [
  [(25, 5, "SectionGarden$Section", 722), (70, 4, "SectionGarden$Relocation", 732)],
  [(59, 5, "SectionGarden$Section", 691), (65, 4, "SectionGarden$Relocation", 706)],
  [(15, 6, "SectionGarden$Symbol", 180), (68, 5, "SectionGarden$Section", 643)],
  [(62, 4, "SectionGarden$Relocation", 807), (69, 5, "SectionGarden$Section", 806)],
  [],
  [],
  [],
  [(43, 5, "SectionGarden$Section", 484), (45, 6, "SectionGarden$Symbol", 570)],
  [(76, 5, "SectionGarden$Section", 296)],
  [],
  [],
  [],
  [],
  [],
  [],
  [],
  [],
  [],
  [],
  []]
def gt_s : List (List (Nat × Nat × String × String × String × Nat)) := [
  [(76, 3, "SectionGarden$Type", "BRANCH", "LSectionGarden$Type;", 733)],
  [],
  [],
  [(197, 3, "SectionGarden$Type", "BRANCH", "LSectionGarden$Type;", 871)],
  [],
  [],
  [],
  [],
  [(141, 3, "SectionGarden$Type", "BRANCH", "LSectionGarden$Type;", 576), (301, 5, "SectionGarden", "TYPES", "[LSectionGarden$Type;", 574)],
  [],
  [(39, 6, "java/util/ArrayList", "DEFAULTCAPACITY_EMPTY_ELEMENTDATA", "[Ljava/lang/Object;", 118)],
  [],
  [],
  [],
  [],
  [],
  [],
  [],
  [],
  []]
def gt_e : List (List (Nat × Nat × String × String × String × Nat)) := [
  [],
  [],
  [],
  [(218, 1, "SectionGarden$Type", "relative", "Z", 1469)],
  [(39, 0, "SectionGarden$Type", "width", "I", 1472)],
  [],
  [],
  [],
  [(136, 0, "SectionGarden$Type", "width", "I", 1468)],
  [],
  [],
  [],
  [(46, 2, "SectionGarden$Type", "least", "J", 1470), (50, 3, "SectionGarden$Type", "most", "J", 1471)],
  [],
  [],
  [],
  [],
  [],
  [],
  []]
def gt_ms0 : List mx_M := [mX0_init, mX0_find, mX0_findWhatMayFold, mX0_forbidWhatItTakesPlacesOf, mX0_joinKin, mX0_looksLike, mX0_relocationsLookLike, mX0_partKin, mX0_firstOfTheSameKin, mX0_targetsAreKin, mX0_foldKin, mX1_init, mX1_find, mX1_firstNowhere, mX1_firstIntoLost, mX1_begin]
def gt_ms1 : List mx_M := [mX1_admit, mX1_follow, mX1_admitSet, mX1_admitGroup, mX2_init, mX2_resolve, mX2_definitionOf, mX2_firstRootNowhere, mX2_findLost, mX2_hasGroup, mX2_findDefinitions, mX2_takeDefinition, mX2_findTargets, mX3_init, mX3_run, mX3_firstKindOverAnother]
def gt_ms2 : List mx_M := [mX3_firstMisfit, mX3_targetValue, mX3_imageByte, mX3_dropVeneers, mX3_layOut, mX3_layOutKind, mX3_findSetEdges, mX3_widenSet, mX3_addVeneers, mX3_addVeneersOf, mX3_veneerFor, mX3_amountWritten, mX3_sectionByte, mX3_veneerByte, mX3_byteOf, mX4_init]
def gt_ms3 : List mx_M := [mX4_ownPlace, mX4_covers, mX4_isWrittenLike, mX5_init, mX5_byteAt, mX5_setByte, mX5_seededBytes, mX5_hasBytesOf, mX5_exchangeMark, mX5_isKept, mX5_isPlaced, mX5_finalPlace, mX5_endWithoutVeneers, mX5_placeOfVeneer, mX5_endWithVeneers, mX5_alignedUp]
def gt_ms4 : List mx_M := [mX6_init, mX6_isDefinition, mX6_targetSet, mX6_isNowhere, mX6_aimAt, mX6_hasSetAndOffsetOf, mX6_hasTargetOf, mX7_init, mX7_hasObject, mX7_sectionAt, mX7_symbolAt, mX7_addRoot, mX8_fits, mX9_init, mX9_object, mX9_section]
def gt_ms5 : List mx_M := [mX9_patch, mX9_mark, mX9_symbol, mX9_relocation, mX9_root, mX9_base, mX9_link, mX9_fault, mX9_kept, mX9_place, mX9_value, mX9_octet, mX9_range, mX9_veneers, mX9_count, mX9_forgetLink]
def gt_ms6 : List mx_M := [mX9_faultBeforePlacing, mX9_faultOfPlaces, mX9_isWithin, mX9_isMark, mX9_isSortFor, mX9_typeAt, mX9_numberOf, mX10_thrown, mX10_init, mX10_in, mX10_told, mX10_object, mX10_section, mX10_hasBytes, mX10_patch, mX10_mark]
def gt_ms7 : List mx_M := [mX10_symbol, mX10_wide, mX10_relocation, mX10_root, mX10_base, mX10_names, mX10_keeps, mX10_keepAll, mX10_comesBy, mX10_relocationsOf, mX10_nth, mX10_startsAlike, mX10_staysAlike, mX10_foldAll, mX10_isPlaced, mX10_veneersOf]
def gt_ms8 : List mx_M := [mX10_up, mX10_placeAll, mX10_veneerPlace, mX10_placeOf, mX10_valueOf, mX10_v, mX10_isBranchNear, mX10_sameAim, mX10_veneerAll, mX10_bad, mX10_link, mX10_hasPlaced, mX10_written, mX10_fits, mX10_fault, mX10_kept]
def gt_ms9 : List mx_M := [mX10_place, mX10_value, mX10_octet, mX10_byteOf, mX10_range, mX10_veneers, mX10_found, mX10_count, mJxa1e45_init_da8c8, mJxc12de_init_da8c8, mJx4a65c_init_da8c8, mJx4a65c_grow_92f84, mJx4a65c_grow_d5877, mJx4a65c_size_8abf5, mJx4a65c_elementData_915e3, mJx4a65c_get_915e3]
def gt_ms10 : List mx_M := [mJx4a65c_add_72be8, mJx4a65c_add_9ea2d, mJx4a65c_clear_da8c8, mJ7_fill_d0a16, mJ7_fill_53178, mJ7_copyOf_1904c, mJ7_copyOf_6403c, mJ15_checkIndex_7cf53, mJ8_newLength_cabcc, mJ8_hugeLength_7cf53, mJ3_checkIndex_8e157]
def gt_ms : List mx_M := gt_ms0 ++ (gt_ms1 ++ (gt_ms2 ++ (gt_ms3 ++ (gt_ms4 ++ (gt_ms5 ++ (gt_ms6 ++ (gt_ms7 ++ (gt_ms8 ++ (gt_ms9 ++ (gt_ms10))))))))))
def gt_m : List (List (Nat × (Nat × Nat × Nat) × List Nat × String)) := [
  [(3, (3, 0, 999), [207, 98, 99], ""), (15, (0, 0, 157), [70, 720, 292, 293], ""), (21, (0, 1, 159), [70, 721, 471, 472], ""), (31, (0, 1, 2), [73, 723, 725, 15], ""), (35, (0, 1, 4), [73, 734, 736, 17], ""), (38, (0, 1, 7), [73, 759, 761, 20], ""), (42, (0, 1, 10), [73, 771, 773, 23], ""), (48, (0, 0, 57), [76, 727, 697, 698], ""), (62, (0, 1, 3), [73, 728, 730, 16], ""), (93, (0, 2, 5), [73, 738, 740, 18], ""), (102, (0, 2, 6), [73, 742, 744, 19], ""), (106, (0, 1, 55), [76, 754, 755, 756], ""), (110, (0, 1, 50), [86, 746, 747, 748], ""), (114, (0, 1, 69), [83, 750, 751, 752], ""), (118, (0, 3, 8), [73, 763, 765, 21], ""), (125, (0, 2, 9), [73, 767, 769, 22], "")],
  [(3, (3, 0, 999), [194, 98, 99], ""), (11, (1, 0, 154), [70, 196, 109], ""), (23, (0, 1, 15), [72, 681, 683, 10], ""), (35, (0, 1, 22), [71, 701, 662, 663], ""), (47, (0, 2, 16), [72, 692, 694, 11], ""), (51, (0, 0, 157), [70, 689, 292, 293], ""), (55, (0, 1, 159), [70, 690, 471, 472], ""), (61, (0, 2, 17), [72, 702, 704, 12], ""), (72, (0, 0, 57), [76, 696, 697, 698], ""), (79, (0, 0, 67), [83, 787, 788, 789], ""), (89, (0, 0, 162), [70, 685, 686, 687], ""), (101, (0, 1, 161), [70, 700, 401, 402], ""), (108, (0, 0, 66), [83, 707, 670, 671], ""), (111, (0, 3, 18), [72, 708, 710, 13], ""), (118, (0, 2, 19), [72, 712, 714, 14], "")],
  [(3, (3, 0, 999), [179, 98, 99], ""), (27, (0, 1, 24), [71, 634, 636, 5], ""), (34, (0, 1, 26), [71, 649, 651, 7], ""), (38, (0, 1, 28), [71, 665, 667, 9], ""), (48, (0, 1, 22), [71, 661, 662, 663], ""), (52, (2, 2, 164), [79, 638, 639], ""), (58, (0, 0, 157), [70, 641, 292, 293], ""), (64, (0, 1, 159), [70, 642, 471, 472], ""), (70, (0, 1, 25), [71, 644, 646, 6], ""), (80, (22, 2, 999), [648, 454, 78, 455], ""), (90, (0, 0, 65), [83, 653, 654, 655], ""), (94, (0, 1, 27), [71, 657, 659, 8], ""), (104, (0, 0, 66), [83, 669, 670, 671], ""), (107, (0, 1, 68), [83, 673, 674, 675], "")],
  [(3, (3, 0, 999), [218, 98, 99], ""), (35, (0, 1, 35), [74, 800, 802, 25], ""), (39, (0, 1, 36), [74, 808, 810, 26], ""), (48, (0, 1, 40), [74, 863, 865, 30], ""), (52, (0, 0, 157), [70, 804, 292, 293], ""), (58, (0, 1, 159), [70, 805, 471, 472], ""), (68, (0, 0, 58), [76, 817, 818, 819], ""), (78, (0, 1, 43), [74, 872, 874, 32], ""), (82, (0, 1, 76), [85, 885, 886, 887], ""), (99, (0, 0, 59), [76, 849, 850, 851], ""), (106, (0, 0, 60), [76, 933, 831, 832], ""), (113, (0, 2, 44), [74, 934, 936, 35], ""), (117, (0, 1, 61), [76, 876, 835, 836], ""), (123, (0, 3, 45), [74, 947, 949, 36], ""), (142, (0, 3, 37), [74, 813, 815, 27], ""), (146, (0, 1, 38), [74, 840, 842, 28], ""), (156, (2, 2, 63), [76, 822, 823], ""), (160, (0, 0, 62), [76, 826, 827, 828], ""), (165, (2, 2, 163), [79, 845, 846], ""), (171, (0, 0, 57), [76, 848, 697, 698], ""), (179, (0, 3, 39), [74, 853, 855, 29], ""), (183, (24, 2, 999), [857, 858, 78, 859], ""), (189, (25, 2, 999), [860, 861, 78, 862], ""), (192, (0, 1, 41), [74, 867, 869, 31], ""), (200, (0, 2, 42), [74, 889, 891, 33], ""), (211, (0, 1, 70), [83, 893, 894, 895], ""), (215, (0, 0, 48), [86, 877, 878, 879], ""), (222, (0, 1, 33), [74, 881, 882, 883], ""), (226, (0, 1, 49), [86, 938, 939, 940], ""), (233, (2, 2, 46), [74, 942, 943], ""), (237, (0, 1, 52), [76, 945, 486, 487], "")],
  [(3, (3, 0, 999), [583, 98, 99], "")],
  [(3, (3, 0, 999), [301, 98, 99], ""), (11, (1, 0, 154), [70, 303, 109], ""), (50, (0, 0, 54), [76, 493, 495, 4], ""), (54, (0, 1, 52), [76, 758, 486, 487], ""), (62, (0, 0, 57), [76, 821, 697, 698], ""), (74, (0, 0, 60), [76, 830, 831, 832], ""), (78, (2, 2, 63), [76, 838, 823], ""), (87, (0, 1, 61), [76, 834, 835, 836], "")],
  [(3, (3, 0, 999), [521, 98, 99], ""), (43, (0, 0, 66), [83, 791, 670, 671], ""), (50, (0, 1, 69), [83, 897, 751, 752], "")],
  [(3, (3, 0, 999), [105, 98, 99], ""), (11, (1, 0, 154), [70, 108, 109], ""), (35, (0, 0, 157), [70, 469, 292, 293], ""), (39, (0, 1, 159), [70, 470, 471, 472], "")],
  [(1, (3, 0, 999), [97, 98, 99], ""), (9, (11, 0, 71), [67, 102, 103], "SectionGarden"), (18, (11, 0, 20), [71, 176, 177], "SectionGarden"), (25, (11, 0, 11), [72, 191, 192], "SectionGarden"), (32, (11, 0, 0), [73, 204, 205], "SectionGarden"), (39, (11, 0, 29), [74, 215, 216], "SectionGarden"), (51, (0, 0, 95), [66, 276, 278, 0], ""), (54, (0, 1, 72), [67, 284, 285, 286], ""), (58, (2, 3, 98), [66, 288, 289], ""), (66, (0, 0, 157), [70, 291, 292, 293], ""), (78, (1, 6, 51), [76, 298, 299], ""), (81, (0, 1, 161), [70, 400, 401, 402], ""), (88, (0, 1, 73), [67, 465, 466, 467], ""), (97, (0, 1, 52), [76, 485, 486, 487], ""), (101, (0, 2, 53), [76, 489, 490, 491], ""), (105, (2, 2, 99), [66, 502, 503], ""), (109, (0, 2, 56), [76, 505, 506, 507], ""), (116, (2, 2, 100), [66, 513, 514], ""), (124, (1, 6, 64), [83, 518, 519], ""), (127, (0, 1, 74), [67, 566, 567, 568], ""), (132, (2, 1, 101), [66, 571, 572], ""), (150, (1, 5, 47), [86, 580, 581], ""), (154, (0, 1, 75), [67, 617, 618, 619], ""), (165, (0, 1, 21), [71, 630, 631, 632], ""), (169, (0, 2, 12), [72, 677, 678, 679], ""), (173, (0, 2, 1), [73, 716, 717, 718], ""), (180, (0, 0, 96), [66, 775, 777, 24], ""), (183, (0, 1, 30), [74, 796, 797, 798], ""), (187, (0, 0, 97), [66, 898, 900, 34], ""), (193, (0, 0, 57), [76, 918, 697, 698], ""), (201, (2, 1, 102), [66, 919, 920], ""), (226, (0, 0, 59), [76, 1050, 850, 851], ""), (237, (0, 1, 33), [74, 1060, 882, 883], ""), (241, (0, 1, 159), [70, 926, 471, 472], ""), (245, (0, 0, 58), [76, 927, 818, 819], ""), (252, (0, 0, 62), [76, 928, 827, 828], ""), (255, (0, 2, 34), [74, 929, 930, 931], ""), (285, (0, 1, 23), [71, 779, 780, 781], ""), (288, (0, 1, 13), [72, 783, 784, 785], ""), (292, (0, 1, 14), [72, 792, 793, 794], ""), (295, (0, 0, 31), [74, 902, 903, 904], ""), (298, (0, 1, 32), [74, 906, 907, 908], "")],
  [(7, (3, 0, 999), [1079, 98, 99], ""), (152, (0, 0, 106), [75, 1249, 1251, 38], ""), (155, (2, 3, 105), [75, 1257, 1258], ""), (174, (0, 1, 109), [75, 1267, 1269, 39], ""), (191, (2, 1, 113), [75, 1288, 1289], ""), (206, (0, 2, 118), [75, 1316, 1318, 43], ""), (210, (0, 2, 120), [75, 1320, 1322, 44], ""), (213, (0, 1, 121), [75, 1332, 1334, 47], ""), (216, (0, 2, 122), [75, 1340, 1342, 49], ""), (220, (0, 2, 123), [75, 1328, 1330, 46], ""), (224, (0, 2, 124), [75, 1336, 1338, 48], ""), (235, (0, 1, 126), [75, 1353, 1355, 52], ""), (238, (2, 2, 128), [75, 1357, 1358], ""), (242, (0, 1, 127), [75, 1360, 1362, 53], ""), (245, (0, 1, 131), [75, 1372, 1374, 56], ""), (249, (0, 1, 132), [75, 1368, 1370, 55], ""), (256, (0, 0, 129), [75, 1348, 1350, 51], ""), (259, (0, 1, 133), [75, 1364, 1366, 54], ""), (262, (0, 1, 134), [75, 1376, 1378, 57], ""), (266, (0, 2, 135), [75, 1382, 1384, 58], ""), (269, (0, 0, 117), [75, 1304, 1306, 40], ""), (273, (0, 2, 137), [75, 1308, 1310, 41], ""), (276, (0, 0, 119), [75, 1312, 1314, 42], ""), (279, (0, 1, 125), [75, 1324, 1326, 45], ""), (283, (0, 0, 136), [75, 1344, 1346, 50], ""), (286, (0, 1, 139), [75, 1386, 1388, 59], ""), (289, (0, 1, 141), [75, 1390, 1392, 60], ""), (292, (0, 1, 130), [75, 1398, 1400, 62], ""), (295, (0, 1, 140), [75, 1394, 1396, 61], ""), (310, (0, 2, 147), [75, 1428, 1430, 63], ""), (313, (0, 1, 150), [75, 1444, 1446, 64], "")],
  [(1, (1, 0, 153), [69, 111, 112], ""), (66, (2, 2, 165), [79, 426, 427], ""), (69, (0, 1, 155), [70, 412, 414, 3], ""), (73, (2, 3, 168), [77, 416, 417], ""), (79, (23, 2, 999), [459, 420, 78, 421], ""), (118, (2, 2, 167), [81, 474, 475], ""), (123, (0, 1, 158), [70, 480, 481, 482], ""), (129, (0, 0, 156), [70, 408, 410, 2], ""), (131, (0, 3, 160), [70, 404, 406, 1], "")],
  [(7, (0, 1, 89), [66, 964, 965, 966], ""), (17, (0, 1, 90), [66, 1054, 1055, 1056], ""), (20, (0, 2, 92), [66, 1064, 1065, 1066], ""), (24, (1, 0, 77), [66, 94, 95], ""), (27, (1, 0, 104), [75, 1076, 1077], ""), (28, (0, 0, 78), [66, 272, 273, 274], ""), (32, (0, 0, 107), [75, 1245, 1246, 1247], ""), (33, (0, 5, 79), [66, 280, 281, 282], ""), (37, (0, 5, 108), [75, 1253, 1254, 1255], ""), (38, (0, 3, 80), [66, 461, 462, 463], ""), (42, (0, 3, 110), [75, 1263, 1264, 1265], ""), (43, (0, 3, 81), [66, 498, 499, 500], ""), (46, (0, 3, 111), [75, 1271, 1272, 1273], ""), (47, (0, 5, 82), [66, 509, 510, 511], ""), (50, (0, 5, 112), [75, 1278, 1279, 1280], ""), (51, (0, 5, 83), [66, 562, 563, 564], ""), (54, (0, 5, 114), [75, 1283, 1284, 1285], ""), (55, (0, 1, 84), [66, 613, 614, 615], ""), (59, (0, 1, 115), [75, 1291, 1292, 1293], ""), (60, (0, 2, 85), [66, 621, 622, 623], ""), (64, (0, 2, 116), [75, 1295, 1296, 1297], ""), (65, (0, 1, 86), [66, 626, 627, 628], ""), (69, (0, 1, 138), [75, 1300, 1301, 1302], ""), (70, (0, 0, 87), [66, 910, 911, 912], ""), (73, (0, 0, 142), [75, 1408, 1409, 1410], ""), (74, (0, 2, 88), [66, 914, 915, 916], ""), (77, (0, 2, 143), [75, 1412, 1413, 1414], ""), (83, (0, 1, 144), [75, 1416, 1417, 1418], ""), (84, (0, 0, 103), [75, 1070, 1071, 1072], ""), (89, (0, 1, 145), [75, 1420, 1421, 1422], ""), (92, (0, 1, 91), [66, 922, 923, 924], ""), (96, (0, 1, 146), [75, 1424, 1425, 1426], ""), (100, (0, 2, 148), [75, 1432, 1433, 1434], ""), (101, (0, 1, 93), [66, 951, 952, 953], ""), (104, (0, 1, 149), [75, 1436, 1437, 1438], ""), (105, (0, 1, 94), [66, 955, 956, 957], ""), (108, (0, 1, 151), [75, 1440, 1441, 1442], "")],
  [],
  [],
  [(1, (3, 0, 999), [117, 98, 99], "")],
  [(1, (1, 0, 152), [68, 114, 115], "")],
  [(86, (21, 0, 999), [429, 1454, 430, 446], ""), (150, (20, 5, 999), [456, 458, 457, 80], ""), (300, (2, 3, 166), [79, 447, 448], ""), (304, (22, 2, 999), [453, 454, 78, 455], "")],
  [(105, (2, 3, 170), [82, 477, 478], "")],
  [(194, (23, 2, 999), [419, 420, 78, 421], ""), (201, (2, 2, 169), [77, 423, 424], "")],
  []]
def gt_ty : List FieldType := [.int, .long, .byte, .boolean, .object "java/lang/Object", .object "SectionGarden$Symbol"]
def gt_tg (t c : Nat) : Bool := (Nat.beq t 4 && (Nat.beq c 4 || Nat.beq c 5 || Nat.beq c 6)) || (Nat.beq t 5 && Nat.beq c 6)
def gt_nw (w : Cond) : Bool := match w with
  | .methodLinkNest .. => true
  | .castable .. => true
  | _ => false
def gt_nst : List Cond := lw_tbl.filter gt_nw
def gt_ao : List String := ["java/lang/Object", "SectionGarden$Symbol"]
/-- what the constants of Type hold: width, relative, least, most -/
def gt_en : List (List Value) := [[.int 4, .int 0, .long 0, .long 4294967295], [.int 2, .int 0, .long 0, .long 65535], [.int 4, .int 1, .long (-2147483648), .long 2147483647], [.int 2, .int 1, .long (-32768), .long 32767], [.int 1, .int 0, .long (-128), .long 255]]
def gt_ev (E : Nat → Nat) (j a : Nat) : Option Value := ((List.range 5).find? (fun k => Nat.beq (E k) a)).bind (fun k => (gt_en.getD k [])[j]?)
def gt_eo (E : Nat → Nat) (a : Nat) : Option Nat := ((List.range 5).find? (fun k => Nat.beq (E k) a)).map (fun _ => 12)
/-- the program: base address, class object of Object[], addresses of what the statics hold -/
def gt_P (b0 mi : Nat) (E : Nat → Nat) : mx_T := (fun c i => (gt_lu gt_f c i).map (fun e => e.1), fun c i => (gt_lu gt_k c i).map (fun e => e.1.getD (.ref mi)), fun c i => (gt_lu gt_n c i).map (fun e => e.1), fun c i => (gt_lu gt_a c i).map (fun e => e.1), fun c i => (gt_lu gt_q c i).map (fun e => [e.1]), fun c i => (gt_lu gt_s c i).map (fun e => .ref (E e.1)), fun c i => (gt_lu gt_m c i).map (fun e => (e.1.1, e.1.2.1, gt_ms.getD e.1.2.2 mL_law)), gt_ty, gt_tg, b0, mi, (fun c i a => (gt_lu gt_e c i).bind (fun e => gt_ev E e.1 a)), gt_eo E)
end
section
set_option maxRecDepth 100000 in
theorem gw_X0_init : Cond.code yX0_init cX0_init 1 none ∈ gt_tbl := List.mem_filter.mpr ⟨List.mem_of_getElem? (i := 206) (by rfl), rfl⟩
set_option maxRecDepth 100000 in
theorem gw_X0_find : Cond.code yX0_find cX0_find 5 none ∈ gt_tbl := List.mem_filter.mpr ⟨List.mem_of_getElem? (i := 719) (by rfl), rfl⟩
set_option maxRecDepth 100000 in
theorem gw_X0_findWhatMayFold : Cond.code yX0_findWhatMayFold cX0_findWhatMayFold 5 none ∈ gt_tbl := List.mem_filter.mpr ⟨List.mem_of_getElem? (i := 726) (by rfl), rfl⟩
set_option maxRecDepth 100000 in
theorem gw_X0_forbidWhatItTakesPlacesOf : Cond.code yX0_forbidWhatItTakesPlacesOf cX0_forbidWhatItTakesPlacesOf 4 none ∈ gt_tbl := List.mem_filter.mpr ⟨List.mem_of_getElem? (i := 731) (by rfl), rfl⟩
set_option maxRecDepth 100000 in
theorem gw_X0_joinKin : Cond.code yX0_joinKin cX0_joinKin 6 none ∈ gt_tbl := List.mem_filter.mpr ⟨List.mem_of_getElem? (i := 737) (by rfl), rfl⟩
set_option maxRecDepth 100000 in
theorem gw_X0_looksLike : Cond.code yX0_looksLike cX0_looksLike 3 (some .boolean) ∈ gt_tbl := List.mem_filter.mpr ⟨List.mem_of_getElem? (i := 741) (by rfl), rfl⟩
set_option maxRecDepth 100000 in
theorem gw_X0_relocationsLookLike : Cond.code yX0_relocationsLookLike cX0_relocationsLookLike 7 (some .boolean) ∈ gt_tbl := List.mem_filter.mpr ⟨List.mem_of_getElem? (i := 745) (by rfl), rfl⟩
set_option maxRecDepth 100000 in
theorem gw_X0_partKin : Cond.code yX0_partKin cX0_partKin 5 (some .boolean) ∈ gt_tbl := List.mem_filter.mpr ⟨List.mem_of_getElem? (i := 762) (by rfl), rfl⟩
set_option maxRecDepth 100000 in
theorem gw_X0_firstOfTheSameKin : Cond.code yX0_firstOfTheSameKin cX0_firstOfTheSameKin 6 (some (.object "SectionGarden$Section")) ∈ gt_tbl := List.mem_filter.mpr ⟨List.mem_of_getElem? (i := 766) (by rfl), rfl⟩
set_option maxRecDepth 100000 in
theorem gw_X0_targetsAreKin : Cond.code yX0_targetsAreKin cX0_targetsAreKin 6 (some .boolean) ∈ gt_tbl := List.mem_filter.mpr ⟨List.mem_of_getElem? (i := 770) (by rfl), rfl⟩
set_option maxRecDepth 100000 in
theorem gw_X0_foldKin : Cond.code yX0_foldKin cX0_foldKin 4 none ∈ gt_tbl := List.mem_filter.mpr ⟨List.mem_of_getElem? (i := 774) (by rfl), rfl⟩
set_option maxRecDepth 100000 in
theorem gw_X1_init : Cond.code yX1_init cX1_init 1 none ∈ gt_tbl := List.mem_filter.mpr ⟨List.mem_of_getElem? (i := 193) (by rfl), rfl⟩
set_option maxRecDepth 100000 in
theorem gw_X1_find : Cond.code yX1_find cX1_find 5 none ∈ gt_tbl := List.mem_filter.mpr ⟨List.mem_of_getElem? (i := 680) (by rfl), rfl⟩
set_option maxRecDepth 100000 in
theorem gw_X1_firstNowhere : Cond.code yX1_firstNowhere cX1_firstNowhere 5 (some .int) ∈ gt_tbl := List.mem_filter.mpr ⟨List.mem_of_getElem? (i := 786) (by rfl), rfl⟩
set_option maxRecDepth 100000 in
theorem gw_X1_firstIntoLost : Cond.code yX1_firstIntoLost cX1_firstIntoLost 5 (some .int) ∈ gt_tbl := List.mem_filter.mpr ⟨List.mem_of_getElem? (i := 795) (by rfl), rfl⟩
set_option maxRecDepth 100000 in
theorem gw_X1_begin : Cond.code yX1_begin cX1_begin 3 none ∈ gt_tbl := List.mem_filter.mpr ⟨List.mem_of_getElem? (i := 684) (by rfl), rfl⟩
set_option maxRecDepth 100000 in
theorem gw_X1_admit : Cond.code yX1_admit cX1_admit 3 none ∈ gt_tbl := List.mem_filter.mpr ⟨List.mem_of_getElem? (i := 695) (by rfl), rfl⟩
set_option maxRecDepth 100000 in
theorem gw_X1_follow : Cond.code yX1_follow cX1_follow 5 none ∈ gt_tbl := List.mem_filter.mpr ⟨List.mem_of_getElem? (i := 705) (by rfl), rfl⟩
set_option maxRecDepth 100000 in
theorem gw_X1_admitSet : Cond.code yX1_admitSet cX1_admitSet 5 none ∈ gt_tbl := List.mem_filter.mpr ⟨List.mem_of_getElem? (i := 711) (by rfl), rfl⟩
set_option maxRecDepth 100000 in
theorem gw_X1_admitGroup : Cond.code yX1_admitGroup cX1_admitGroup 4 none ∈ gt_tbl := List.mem_filter.mpr ⟨List.mem_of_getElem? (i := 715) (by rfl), rfl⟩
set_option maxRecDepth 100000 in
theorem gw_X2_init : Cond.code yX2_init cX2_init 1 none ∈ gt_tbl := List.mem_filter.mpr ⟨List.mem_of_getElem? (i := 178) (by rfl), rfl⟩
set_option maxRecDepth 100000 in
theorem gw_X2_resolve : Cond.code yX2_resolve cX2_resolve 3 (some .int) ∈ gt_tbl := List.mem_filter.mpr ⟨List.mem_of_getElem? (i := 633) (by rfl), rfl⟩
set_option maxRecDepth 100000 in
theorem gw_X2_definitionOf : Cond.code yX2_definitionOf cX2_definitionOf 2 (some (.object "SectionGarden$Symbol")) ∈ gt_tbl := List.mem_filter.mpr ⟨List.mem_of_getElem? (i := 664) (by rfl), rfl⟩
set_option maxRecDepth 100000 in
theorem gw_X2_firstRootNowhere : Cond.code yX2_firstRootNowhere cX2_firstRootNowhere 3 (some .int) ∈ gt_tbl := List.mem_filter.mpr ⟨List.mem_of_getElem? (i := 782) (by rfl), rfl⟩
set_option maxRecDepth 100000 in
theorem gw_X2_findLost : Cond.code yX2_findLost cX2_findLost 4 none ∈ gt_tbl := List.mem_filter.mpr ⟨List.mem_of_getElem? (i := 637) (by rfl), rfl⟩
set_option maxRecDepth 100000 in
theorem gw_X2_hasGroup : Cond.code yX2_hasGroup cX2_hasGroup 2 (some .boolean) ∈ gt_tbl := List.mem_filter.mpr ⟨List.mem_of_getElem? (i := 647) (by rfl), rfl⟩
set_option maxRecDepth 100000 in
theorem gw_X2_findDefinitions : Cond.code yX2_findDefinitions cX2_findDefinitions 4 (some .int) ∈ gt_tbl := List.mem_filter.mpr ⟨List.mem_of_getElem? (i := 652) (by rfl), rfl⟩
set_option maxRecDepth 100000 in
theorem gw_X2_takeDefinition : Cond.code yX2_takeDefinition cX2_takeDefinition 4 (some .boolean) ∈ gt_tbl := List.mem_filter.mpr ⟨List.mem_of_getElem? (i := 660) (by rfl), rfl⟩
set_option maxRecDepth 100000 in
theorem gw_X2_findTargets : Cond.code yX2_findTargets cX2_findTargets 4 none ∈ gt_tbl := List.mem_filter.mpr ⟨List.mem_of_getElem? (i := 668) (by rfl), rfl⟩
set_option maxRecDepth 100000 in
theorem gw_X3_init : Cond.code yX3_init cX3_init 1 none ∈ gt_tbl := List.mem_filter.mpr ⟨List.mem_of_getElem? (i := 217) (by rfl), rfl⟩
set_option maxRecDepth 100000 in
theorem gw_X3_run : Cond.code yX3_run cX3_run 4 none ∈ gt_tbl := List.mem_filter.mpr ⟨List.mem_of_getElem? (i := 799) (by rfl), rfl⟩
set_option maxRecDepth 100000 in
theorem gw_X3_firstKindOverAnother : Cond.code yX3_firstKindOverAnother cX3_firstKindOverAnother 4 (some .int) ∈ gt_tbl := List.mem_filter.mpr ⟨List.mem_of_getElem? (i := 905) (by rfl), rfl⟩
set_option maxRecDepth 100000 in
theorem gw_X3_firstMisfit : Cond.code yX3_firstMisfit cX3_firstMisfit 4 (some .int) ∈ gt_tbl := List.mem_filter.mpr ⟨List.mem_of_getElem? (i := 909) (by rfl), rfl⟩
set_option maxRecDepth 100000 in
theorem gw_X3_targetValue : Cond.code yX3_targetValue cX3_targetValue 2 (some .long) ∈ gt_tbl := List.mem_filter.mpr ⟨List.mem_of_getElem? (i := 884) (by rfl), rfl⟩
set_option maxRecDepth 100000 in
theorem gw_X3_imageByte : Cond.code yX3_imageByte cX3_imageByte 6 (some .int) ∈ gt_tbl := List.mem_filter.mpr ⟨List.mem_of_getElem? (i := 932) (by rfl), rfl⟩
set_option maxRecDepth 100000 in
theorem gw_X3_dropVeneers : Cond.code yX3_dropVeneers cX3_dropVeneers 3 none ∈ gt_tbl := List.mem_filter.mpr ⟨List.mem_of_getElem? (i := 803) (by rfl), rfl⟩
set_option maxRecDepth 100000 in
theorem gw_X3_layOut : Cond.code yX3_layOut cX3_layOut 5 none ∈ gt_tbl := List.mem_filter.mpr ⟨List.mem_of_getElem? (i := 811) (by rfl), rfl⟩
set_option maxRecDepth 100000 in
theorem gw_X3_layOutKind : Cond.code yX3_layOutKind cX3_layOutKind 9 (some .long) ∈ gt_tbl := List.mem_filter.mpr ⟨List.mem_of_getElem? (i := 816) (by rfl), rfl⟩
set_option maxRecDepth 100000 in
theorem gw_X3_findSetEdges : Cond.code yX3_findSetEdges cX3_findSetEdges 4 none ∈ gt_tbl := List.mem_filter.mpr ⟨List.mem_of_getElem? (i := 843) (by rfl), rfl⟩
set_option maxRecDepth 100000 in
theorem gw_X3_widenSet : Cond.code yX3_widenSet cX3_widenSet 6 none ∈ gt_tbl := List.mem_filter.mpr ⟨List.mem_of_getElem? (i := 856) (by rfl), rfl⟩
set_option maxRecDepth 100000 in
theorem gw_X3_addVeneers : Cond.code yX3_addVeneers cX3_addVeneers 4 (some .boolean) ∈ gt_tbl := List.mem_filter.mpr ⟨List.mem_of_getElem? (i := 866) (by rfl), rfl⟩
set_option maxRecDepth 100000 in
theorem gw_X3_addVeneersOf : Cond.code yX3_addVeneersOf cX3_addVeneersOf 5 none ∈ gt_tbl := List.mem_filter.mpr ⟨List.mem_of_getElem? (i := 870) (by rfl), rfl⟩
set_option maxRecDepth 100000 in
theorem gw_X3_veneerFor : Cond.code yX3_veneerFor cX3_veneerFor 6 (some .int) ∈ gt_tbl := List.mem_filter.mpr ⟨List.mem_of_getElem? (i := 892) (by rfl), rfl⟩
set_option maxRecDepth 100000 in
theorem gw_X3_amountWritten : Cond.code yX3_amountWritten cX3_amountWritten 4 (some .long) ∈ gt_tbl := List.mem_filter.mpr ⟨List.mem_of_getElem? (i := 875) (by rfl), rfl⟩
set_option maxRecDepth 100000 in
theorem gw_X3_sectionByte : Cond.code yX3_sectionByte cX3_sectionByte 5 (some .int) ∈ gt_tbl := List.mem_filter.mpr ⟨List.mem_of_getElem? (i := 937) (by rfl), rfl⟩
set_option maxRecDepth 100000 in
theorem gw_X3_veneerByte : Cond.code yX3_veneerByte cX3_veneerByte 6 (some .int) ∈ gt_tbl := List.mem_filter.mpr ⟨List.mem_of_getElem? (i := 950) (by rfl), rfl⟩
set_option maxRecDepth 100000 in
theorem gw_X3_byteOf : Cond.code yX3_byteOf cX3_byteOf 3 (some .int) ∈ gt_tbl := List.mem_filter.mpr ⟨List.mem_of_getElem? (i := 944) (by rfl), rfl⟩
set_option maxRecDepth 100000 in
theorem gw_X4_init : Cond.code yX4_init cX4_init 6 none ∈ gt_tbl := List.mem_filter.mpr ⟨List.mem_of_getElem? (i := 582) (by rfl), rfl⟩
set_option maxRecDepth 100000 in
theorem gw_X4_ownPlace : Cond.code yX4_ownPlace cX4_ownPlace 1 (some .long) ∈ gt_tbl := List.mem_filter.mpr ⟨List.mem_of_getElem? (i := 880) (by rfl), rfl⟩
set_option maxRecDepth 100000 in
theorem gw_X4_covers : Cond.code yX4_covers cX4_covers 2 (some .boolean) ∈ gt_tbl := List.mem_filter.mpr ⟨List.mem_of_getElem? (i := 941) (by rfl), rfl⟩
set_option maxRecDepth 100000 in
theorem gw_X4_isWrittenLike : Cond.code yX4_isWrittenLike cX4_isWrittenLike 2 (some .boolean) ∈ gt_tbl := List.mem_filter.mpr ⟨List.mem_of_getElem? (i := 749) (by rfl), rfl⟩
set_option maxRecDepth 100000 in
theorem gw_X5_init : Cond.code yX5_init cX5_init 7 none ∈ gt_tbl := List.mem_filter.mpr ⟨List.mem_of_getElem? (i := 300) (by rfl), rfl⟩
set_option maxRecDepth 100000 in
theorem gw_X5_byteAt : Cond.code yX5_byteAt cX5_byteAt 2 (some .int) ∈ gt_tbl := List.mem_filter.mpr ⟨List.mem_of_getElem? (i := 488) (by rfl), rfl⟩
set_option maxRecDepth 100000 in
theorem gw_X5_setByte : Cond.code yX5_setByte cX5_setByte 3 none ∈ gt_tbl := List.mem_filter.mpr ⟨List.mem_of_getElem? (i := 492) (by rfl), rfl⟩
set_option maxRecDepth 100000 in
theorem gw_X5_seededBytes : Cond.code yX5_seededBytes cX5_seededBytes 3 (some (.array .byte)) ∈ gt_tbl := List.mem_filter.mpr ⟨List.mem_of_getElem? (i := 496) (by rfl), rfl⟩
set_option maxRecDepth 100000 in
theorem gw_X5_hasBytesOf : Cond.code yX5_hasBytesOf cX5_hasBytesOf 3 (some .boolean) ∈ gt_tbl := List.mem_filter.mpr ⟨List.mem_of_getElem? (i := 757) (by rfl), rfl⟩
set_option maxRecDepth 100000 in
theorem gw_X5_exchangeMark : Cond.code yX5_exchangeMark cX5_exchangeMark 4 (some .int) ∈ gt_tbl := List.mem_filter.mpr ⟨List.mem_of_getElem? (i := 508) (by rfl), rfl⟩
set_option maxRecDepth 100000 in
theorem gw_X5_isKept : Cond.code yX5_isKept cX5_isKept 1 (some .boolean) ∈ gt_tbl := List.mem_filter.mpr ⟨List.mem_of_getElem? (i := 699) (by rfl), rfl⟩
set_option maxRecDepth 100000 in
theorem gw_X5_isPlaced : Cond.code yX5_isPlaced cX5_isPlaced 1 (some .boolean) ∈ gt_tbl := List.mem_filter.mpr ⟨List.mem_of_getElem? (i := 820) (by rfl), rfl⟩
set_option maxRecDepth 100000 in
theorem gw_X5_finalPlace : Cond.code yX5_finalPlace cX5_finalPlace 1 (some .long) ∈ gt_tbl := List.mem_filter.mpr ⟨List.mem_of_getElem? (i := 852) (by rfl), rfl⟩
set_option maxRecDepth 100000 in
theorem gw_X5_endWithoutVeneers : Cond.code yX5_endWithoutVeneers cX5_endWithoutVeneers 1 (some .long) ∈ gt_tbl := List.mem_filter.mpr ⟨List.mem_of_getElem? (i := 833) (by rfl), rfl⟩
set_option maxRecDepth 100000 in
theorem gw_X5_placeOfVeneer : Cond.code yX5_placeOfVeneer cX5_placeOfVeneer 2 (some .long) ∈ gt_tbl := List.mem_filter.mpr ⟨List.mem_of_getElem? (i := 837) (by rfl), rfl⟩
set_option maxRecDepth 100000 in
theorem gw_X5_endWithVeneers : Cond.code yX5_endWithVeneers cX5_endWithVeneers 1 (some .long) ∈ gt_tbl := List.mem_filter.mpr ⟨List.mem_of_getElem? (i := 829) (by rfl), rfl⟩
set_option maxRecDepth 100000 in
theorem gw_X5_alignedUp : Cond.code yX5_alignedUp cX5_alignedUp 5 (some .long) ∈ gt_tbl := List.mem_filter.mpr ⟨List.mem_of_getElem? (i := 824) (by rfl), rfl⟩
set_option maxRecDepth 100000 in
theorem gw_X6_init : Cond.code yX6_init cX6_init 9 none ∈ gt_tbl := List.mem_filter.mpr ⟨List.mem_of_getElem? (i := 520) (by rfl), rfl⟩
set_option maxRecDepth 100000 in
theorem gw_X6_isDefinition : Cond.code yX6_isDefinition cX6_isDefinition 1 (some .boolean) ∈ gt_tbl := List.mem_filter.mpr ⟨List.mem_of_getElem? (i := 656) (by rfl), rfl⟩
set_option maxRecDepth 100000 in
theorem gw_X6_targetSet : Cond.code yX6_targetSet cX6_targetSet 1 (some .int) ∈ gt_tbl := List.mem_filter.mpr ⟨List.mem_of_getElem? (i := 672) (by rfl), rfl⟩
set_option maxRecDepth 100000 in
theorem gw_X6_isNowhere : Cond.code yX6_isNowhere cX6_isNowhere 1 (some .boolean) ∈ gt_tbl := List.mem_filter.mpr ⟨List.mem_of_getElem? (i := 790) (by rfl), rfl⟩
set_option maxRecDepth 100000 in
theorem gw_X6_aimAt : Cond.code yX6_aimAt cX6_aimAt 2 none ∈ gt_tbl := List.mem_filter.mpr ⟨List.mem_of_getElem? (i := 676) (by rfl), rfl⟩
set_option maxRecDepth 100000 in
theorem gw_X6_hasSetAndOffsetOf : Cond.code yX6_hasSetAndOffsetOf cX6_hasSetAndOffsetOf 2 (some .boolean) ∈ gt_tbl := List.mem_filter.mpr ⟨List.mem_of_getElem? (i := 753) (by rfl), rfl⟩
set_option maxRecDepth 100000 in
theorem gw_X6_hasTargetOf : Cond.code yX6_hasTargetOf cX6_hasTargetOf 2 (some .boolean) ∈ gt_tbl := List.mem_filter.mpr ⟨List.mem_of_getElem? (i := 896) (by rfl), rfl⟩
set_option maxRecDepth 100000 in
theorem gw_X7_init : Cond.code yX7_init cX7_init 1 none ∈ gt_tbl := List.mem_filter.mpr ⟨List.mem_of_getElem? (i := 104) (by rfl), rfl⟩
set_option maxRecDepth 100000 in
theorem gw_X7_hasObject : Cond.code yX7_hasObject cX7_hasObject 2 (some .boolean) ∈ gt_tbl := List.mem_filter.mpr ⟨List.mem_of_getElem? (i := 287) (by rfl), rfl⟩
set_option maxRecDepth 100000 in
theorem gw_X7_sectionAt : Cond.code yX7_sectionAt cX7_sectionAt 2 (some (.object "SectionGarden$Section")) ∈ gt_tbl := List.mem_filter.mpr ⟨List.mem_of_getElem? (i := 468) (by rfl), rfl⟩
set_option maxRecDepth 100000 in
theorem gw_X7_symbolAt : Cond.code yX7_symbolAt cX7_symbolAt 2 (some (.object "SectionGarden$Symbol")) ∈ gt_tbl := List.mem_filter.mpr ⟨List.mem_of_getElem? (i := 569) (by rfl), rfl⟩
set_option maxRecDepth 100000 in
theorem gw_X7_addRoot : Cond.code yX7_addRoot cX7_addRoot 2 (some .boolean) ∈ gt_tbl := List.mem_filter.mpr ⟨List.mem_of_getElem? (i := 620) (by rfl), rfl⟩
set_option maxRecDepth 100000 in
theorem gw_X8_fits : Cond.code yX8_fits cX8_fits 3 (some .boolean) ∈ gt_tbl := List.mem_filter.mpr ⟨List.mem_of_getElem? (i := 888) (by rfl), rfl⟩
set_option maxRecDepth 100000 in
theorem gw_X9_init : Cond.code yX9_init cX9_init 1 none ∈ gt_tbl := List.mem_filter.mpr ⟨List.mem_of_getElem? (i := 96) (by rfl), rfl⟩
set_option maxRecDepth 100000 in
theorem gw_X9_object : Cond.code yX9_object cX9_object 1 (some .int) ∈ gt_tbl := List.mem_filter.mpr ⟨List.mem_of_getElem? (i := 275) (by rfl), rfl⟩
set_option maxRecDepth 100000 in
theorem gw_X9_section : Cond.code yX9_section cX9_section 7 (some .int) ∈ gt_tbl := List.mem_filter.mpr ⟨List.mem_of_getElem? (i := 283) (by rfl), rfl⟩
set_option maxRecDepth 100000 in
theorem gw_X9_patch : Cond.code yX9_patch cX9_patch 6 (some .int) ∈ gt_tbl := List.mem_filter.mpr ⟨List.mem_of_getElem? (i := 464) (by rfl), rfl⟩
set_option maxRecDepth 100000 in
theorem gw_X9_mark : Cond.code yX9_mark cX9_mark 5 (some .int) ∈ gt_tbl := List.mem_filter.mpr ⟨List.mem_of_getElem? (i := 501) (by rfl), rfl⟩
set_option maxRecDepth 100000 in
theorem gw_X9_symbol : Cond.code yX9_symbol cX9_symbol 9 (some .int) ∈ gt_tbl := List.mem_filter.mpr ⟨List.mem_of_getElem? (i := 512) (by rfl), rfl⟩
set_option maxRecDepth 100000 in
theorem gw_X9_relocation : Cond.code yX9_relocation cX9_relocation 10 (some .int) ∈ gt_tbl := List.mem_filter.mpr ⟨List.mem_of_getElem? (i := 565) (by rfl), rfl⟩
set_option maxRecDepth 100000 in
theorem gw_X9_root : Cond.code yX9_root cX9_root 2 (some .int) ∈ gt_tbl := List.mem_filter.mpr ⟨List.mem_of_getElem? (i := 616) (by rfl), rfl⟩
set_option maxRecDepth 100000 in
theorem gw_X9_base : Cond.code yX9_base cX9_base 4 (some .int) ∈ gt_tbl := List.mem_filter.mpr ⟨List.mem_of_getElem? (i := 624) (by rfl), rfl⟩
set_option maxRecDepth 100000 in
theorem gw_X9_link : Cond.code yX9_link cX9_link 3 (some .int) ∈ gt_tbl := List.mem_filter.mpr ⟨List.mem_of_getElem? (i := 629) (by rfl), rfl⟩
set_option maxRecDepth 100000 in
theorem gw_X9_fault : Cond.code yX9_fault cX9_fault 1 (some .int) ∈ gt_tbl := List.mem_filter.mpr ⟨List.mem_of_getElem? (i := 913) (by rfl), rfl⟩
set_option maxRecDepth 100000 in
theorem gw_X9_kept : Cond.code yX9_kept cX9_kept 4 (some .int) ∈ gt_tbl := List.mem_filter.mpr ⟨List.mem_of_getElem? (i := 917) (by rfl), rfl⟩
set_option maxRecDepth 100000 in
theorem gw_X9_place : Cond.code yX9_place cX9_place 3 (some .long) ∈ gt_tbl := List.mem_filter.mpr ⟨List.mem_of_getElem? (i := 967) (by rfl), rfl⟩
set_option maxRecDepth 100000 in
theorem gw_X9_value : Cond.code yX9_value cX9_value 3 (some .long) ∈ gt_tbl := List.mem_filter.mpr ⟨List.mem_of_getElem? (i := 1057) (by rfl), rfl⟩
set_option maxRecDepth 100000 in
theorem gw_X9_octet : Cond.code yX9_octet cX9_octet 5 (some .int) ∈ gt_tbl := List.mem_filter.mpr ⟨List.mem_of_getElem? (i := 925) (by rfl), rfl⟩
set_option maxRecDepth 100000 in
theorem gw_X9_range : Cond.code yX9_range cX9_range 3 (some .long) ∈ gt_tbl := List.mem_filter.mpr ⟨List.mem_of_getElem? (i := 1067) (by rfl), rfl⟩
set_option maxRecDepth 100000 in
theorem gw_X9_veneers : Cond.code yX9_veneers cX9_veneers 3 (some .int) ∈ gt_tbl := List.mem_filter.mpr ⟨List.mem_of_getElem? (i := 954) (by rfl), rfl⟩
set_option maxRecDepth 100000 in
theorem gw_X9_count : Cond.code yX9_count cX9_count 2 (some .int) ∈ gt_tbl := List.mem_filter.mpr ⟨List.mem_of_getElem? (i := 958) (by rfl), rfl⟩
set_option maxRecDepth 100000 in
theorem gw_X9_forgetLink : Cond.code yX9_forgetLink cX9_forgetLink 1 none ∈ gt_tbl := List.mem_filter.mpr ⟨List.mem_of_getElem? (i := 279) (by rfl), rfl⟩
set_option maxRecDepth 100000 in
theorem gw_X9_faultBeforePlacing : Cond.code yX9_faultBeforePlacing cX9_faultBeforePlacing 1 (some .int) ∈ gt_tbl := List.mem_filter.mpr ⟨List.mem_of_getElem? (i := 778) (by rfl), rfl⟩
set_option maxRecDepth 100000 in
theorem gw_X9_faultOfPlaces : Cond.code yX9_faultOfPlaces cX9_faultOfPlaces 1 (some .int) ∈ gt_tbl := List.mem_filter.mpr ⟨List.mem_of_getElem? (i := 901) (by rfl), rfl⟩
set_option maxRecDepth 100000 in
theorem gw_X9_isWithin : Cond.code yX9_isWithin cX9_isWithin 3 (some .boolean) ∈ gt_tbl := List.mem_filter.mpr ⟨List.mem_of_getElem? (i := 290) (by rfl), rfl⟩
set_option maxRecDepth 100000 in
theorem gw_X9_isMark : Cond.code yX9_isMark cX9_isMark 2 (some .boolean) ∈ gt_tbl := List.mem_filter.mpr ⟨List.mem_of_getElem? (i := 504) (by rfl), rfl⟩
set_option maxRecDepth 100000 in
theorem gw_X9_isSortFor : Cond.code yX9_isSortFor cX9_isSortFor 2 (some .boolean) ∈ gt_tbl := List.mem_filter.mpr ⟨List.mem_of_getElem? (i := 515) (by rfl), rfl⟩
set_option maxRecDepth 100000 in
theorem gw_X9_typeAt : Cond.code yX9_typeAt cX9_typeAt 1 (some (.object "SectionGarden$Type")) ∈ gt_tbl := List.mem_filter.mpr ⟨List.mem_of_getElem? (i := 573) (by rfl), rfl⟩
set_option maxRecDepth 100000 in
theorem gw_X9_numberOf : Cond.code yX9_numberOf cX9_numberOf 1 (some .int) ∈ gt_tbl := List.mem_filter.mpr ⟨List.mem_of_getElem? (i := 921) (by rfl), rfl⟩
set_option maxRecDepth 100000 in
theorem gw_X10_thrown : Cond.code yX10_thrown cX10_thrown 1 (some .int) ∈ gt_tbl := List.mem_filter.mpr ⟨List.mem_of_getElem? (i := 1073) (by rfl), rfl⟩
set_option maxRecDepth 100000 in
theorem gw_X10_init : Cond.code yX10_init cX10_init 1 none ∈ gt_tbl := List.mem_filter.mpr ⟨List.mem_of_getElem? (i := 1078) (by rfl), rfl⟩
set_option maxRecDepth 100000 in
theorem gw_X10_in : Cond.code yX10_in cX10_in 6 (some .boolean) ∈ gt_tbl := List.mem_filter.mpr ⟨List.mem_of_getElem? (i := 1259) (by rfl), rfl⟩
set_option maxRecDepth 100000 in
theorem gw_X10_told : Cond.code yX10_told cX10_told 1 none ∈ gt_tbl := List.mem_filter.mpr ⟨List.mem_of_getElem? (i := 1252) (by rfl), rfl⟩
set_option maxRecDepth 100000 in
theorem gw_X10_object : Cond.code yX10_object cX10_object 1 (some .int) ∈ gt_tbl := List.mem_filter.mpr ⟨List.mem_of_getElem? (i := 1248) (by rfl), rfl⟩
set_option maxRecDepth 100000 in
theorem gw_X10_section : Cond.code yX10_section cX10_section 8 (some .int) ∈ gt_tbl := List.mem_filter.mpr ⟨List.mem_of_getElem? (i := 1256) (by rfl), rfl⟩
set_option maxRecDepth 100000 in
theorem gw_X10_hasBytes : Cond.code yX10_hasBytes cX10_hasBytes 2 (some .boolean) ∈ gt_tbl := List.mem_filter.mpr ⟨List.mem_of_getElem? (i := 1270) (by rfl), rfl⟩
set_option maxRecDepth 100000 in
theorem gw_X10_patch : Cond.code yX10_patch cX10_patch 6 (some .int) ∈ gt_tbl := List.mem_filter.mpr ⟨List.mem_of_getElem? (i := 1266) (by rfl), rfl⟩
set_option maxRecDepth 100000 in
theorem gw_X10_mark : Cond.code yX10_mark cX10_mark 5 (some .int) ∈ gt_tbl := List.mem_filter.mpr ⟨List.mem_of_getElem? (i := 1274) (by rfl), rfl⟩
set_option maxRecDepth 100000 in
theorem gw_X10_symbol : Cond.code yX10_symbol cX10_symbol 9 (some .int) ∈ gt_tbl := List.mem_filter.mpr ⟨List.mem_of_getElem? (i := 1281) (by rfl), rfl⟩
set_option maxRecDepth 100000 in
theorem gw_X10_wide : Cond.code yX10_wide cX10_wide 1 (some .int) ∈ gt_tbl := List.mem_filter.mpr ⟨List.mem_of_getElem? (i := 1290) (by rfl), rfl⟩
set_option maxRecDepth 100000 in
theorem gw_X10_relocation : Cond.code yX10_relocation cX10_relocation 7 (some .int) ∈ gt_tbl := List.mem_filter.mpr ⟨List.mem_of_getElem? (i := 1286) (by rfl), rfl⟩
set_option maxRecDepth 100000 in
theorem gw_X10_root : Cond.code yX10_root cX10_root 2 (some .int) ∈ gt_tbl := List.mem_filter.mpr ⟨List.mem_of_getElem? (i := 1294) (by rfl), rfl⟩
set_option maxRecDepth 100000 in
theorem gw_X10_base : Cond.code yX10_base cX10_base 4 (some .int) ∈ gt_tbl := List.mem_filter.mpr ⟨List.mem_of_getElem? (i := 1298) (by rfl), rfl⟩
set_option maxRecDepth 100000 in
theorem gw_X10_names : Cond.code yX10_names cX10_names 6 (some .int) ∈ gt_tbl := List.mem_filter.mpr ⟨List.mem_of_getElem? (i := 1307) (by rfl), rfl⟩
set_option maxRecDepth 100000 in
theorem gw_X10_keeps : Cond.code yX10_keeps cX10_keeps 3 none ∈ gt_tbl := List.mem_filter.mpr ⟨List.mem_of_getElem? (i := 1319) (by rfl), rfl⟩
set_option maxRecDepth 100000 in
theorem gw_X10_keepAll : Cond.code yX10_keepAll cX10_keepAll 4 none ∈ gt_tbl := List.mem_filter.mpr ⟨List.mem_of_getElem? (i := 1315) (by rfl), rfl⟩
set_option maxRecDepth 100000 in
theorem gw_X10_comesBy : Cond.code yX10_comesBy cX10_comesBy 4 none ∈ gt_tbl := List.mem_filter.mpr ⟨List.mem_of_getElem? (i := 1323) (by rfl), rfl⟩
set_option maxRecDepth 100000 in
theorem gw_X10_relocationsOf : Cond.code yX10_relocationsOf cX10_relocationsOf 4 (some .int) ∈ gt_tbl := List.mem_filter.mpr ⟨List.mem_of_getElem? (i := 1335) (by rfl), rfl⟩
set_option maxRecDepth 100000 in
theorem gw_X10_nth : Cond.code yX10_nth cX10_nth 5 (some .int) ∈ gt_tbl := List.mem_filter.mpr ⟨List.mem_of_getElem? (i := 1343) (by rfl), rfl⟩
set_option maxRecDepth 100000 in
theorem gw_X10_startsAlike : Cond.code yX10_startsAlike cX10_startsAlike 4 (some .boolean) ∈ gt_tbl := List.mem_filter.mpr ⟨List.mem_of_getElem? (i := 1331) (by rfl), rfl⟩
set_option maxRecDepth 100000 in
theorem gw_X10_staysAlike : Cond.code yX10_staysAlike cX10_staysAlike 10 (some .boolean) ∈ gt_tbl := List.mem_filter.mpr ⟨List.mem_of_getElem? (i := 1339) (by rfl), rfl⟩
set_option maxRecDepth 100000 in
theorem gw_X10_foldAll : Cond.code yX10_foldAll cX10_foldAll 5 none ∈ gt_tbl := List.mem_filter.mpr ⟨List.mem_of_getElem? (i := 1327) (by rfl), rfl⟩
set_option maxRecDepth 100000 in
theorem gw_X10_isPlaced : Cond.code yX10_isPlaced cX10_isPlaced 2 (some .boolean) ∈ gt_tbl := List.mem_filter.mpr ⟨List.mem_of_getElem? (i := 1356) (by rfl), rfl⟩
set_option maxRecDepth 100000 in
theorem gw_X10_veneersOf : Cond.code yX10_veneersOf cX10_veneersOf 4 (some .int) ∈ gt_tbl := List.mem_filter.mpr ⟨List.mem_of_getElem? (i := 1363) (by rfl), rfl⟩
set_option maxRecDepth 100000 in
theorem gw_X10_up : Cond.code yX10_up cX10_up 4 (some .long) ∈ gt_tbl := List.mem_filter.mpr ⟨List.mem_of_getElem? (i := 1359) (by rfl), rfl⟩
set_option maxRecDepth 100000 in
theorem gw_X10_placeAll : Cond.code yX10_placeAll cX10_placeAll 6 none ∈ gt_tbl := List.mem_filter.mpr ⟨List.mem_of_getElem? (i := 1351) (by rfl), rfl⟩
set_option maxRecDepth 100000 in
theorem gw_X10_veneerPlace : Cond.code yX10_veneerPlace cX10_veneerPlace 5 (some .long) ∈ gt_tbl := List.mem_filter.mpr ⟨List.mem_of_getElem? (i := 1401) (by rfl), rfl⟩
set_option maxRecDepth 100000 in
theorem gw_X10_placeOf : Cond.code yX10_placeOf cX10_placeOf 2 (some .long) ∈ gt_tbl := List.mem_filter.mpr ⟨List.mem_of_getElem? (i := 1375) (by rfl), rfl⟩
set_option maxRecDepth 100000 in
theorem gw_X10_valueOf : Cond.code yX10_valueOf cX10_valueOf 10 (some .long) ∈ gt_tbl := List.mem_filter.mpr ⟨List.mem_of_getElem? (i := 1371) (by rfl), rfl⟩
set_option maxRecDepth 100000 in
theorem gw_X10_v : Cond.code yX10_v cX10_v 2 (some .long) ∈ gt_tbl := List.mem_filter.mpr ⟨List.mem_of_getElem? (i := 1367) (by rfl), rfl⟩
set_option maxRecDepth 100000 in
theorem gw_X10_isBranchNear : Cond.code yX10_isBranchNear cX10_isBranchNear 3 (some .boolean) ∈ gt_tbl := List.mem_filter.mpr ⟨List.mem_of_getElem? (i := 1379) (by rfl), rfl⟩
set_option maxRecDepth 100000 in
theorem gw_X10_sameAim : Cond.code yX10_sameAim cX10_sameAim 3 (some .boolean) ∈ gt_tbl := List.mem_filter.mpr ⟨List.mem_of_getElem? (i := 1385) (by rfl), rfl⟩
set_option maxRecDepth 100000 in
theorem gw_X10_veneerAll : Cond.code yX10_veneerAll cX10_veneerAll 7 none ∈ gt_tbl := List.mem_filter.mpr ⟨List.mem_of_getElem? (i := 1347) (by rfl), rfl⟩
set_option maxRecDepth 100000 in
theorem gw_X10_bad : Cond.code yX10_bad cX10_bad 3 none ∈ gt_tbl := List.mem_filter.mpr ⟨List.mem_of_getElem? (i := 1311) (by rfl), rfl⟩
set_option maxRecDepth 100000 in
theorem gw_X10_link : Cond.code yX10_link cX10_link 5 (some .int) ∈ gt_tbl := List.mem_filter.mpr ⟨List.mem_of_getElem? (i := 1303) (by rfl), rfl⟩
set_option maxRecDepth 100000 in
theorem gw_X10_hasPlaced : Cond.code yX10_hasPlaced cX10_hasPlaced 3 (some .boolean) ∈ gt_tbl := List.mem_filter.mpr ⟨List.mem_of_getElem? (i := 1389) (by rfl), rfl⟩
set_option maxRecDepth 100000 in
theorem gw_X10_written : Cond.code yX10_written cX10_written 6 (some .long) ∈ gt_tbl := List.mem_filter.mpr ⟨List.mem_of_getElem? (i := 1397) (by rfl), rfl⟩
set_option maxRecDepth 100000 in
theorem gw_X10_fits : Cond.code yX10_fits cX10_fits 4 (some .boolean) ∈ gt_tbl := List.mem_filter.mpr ⟨List.mem_of_getElem? (i := 1393) (by rfl), rfl⟩
set_option maxRecDepth 100000 in
theorem gw_X10_fault : Cond.code yX10_fault cX10_fault 1 (some .int) ∈ gt_tbl := List.mem_filter.mpr ⟨List.mem_of_getElem? (i := 1411) (by rfl), rfl⟩
set_option maxRecDepth 100000 in
theorem gw_X10_kept : Cond.code yX10_kept cX10_kept 3 (some .int) ∈ gt_tbl := List.mem_filter.mpr ⟨List.mem_of_getElem? (i := 1415) (by rfl), rfl⟩
set_option maxRecDepth 100000 in
theorem gw_X10_place : Cond.code yX10_place cX10_place 2 (some .long) ∈ gt_tbl := List.mem_filter.mpr ⟨List.mem_of_getElem? (i := 1419) (by rfl), rfl⟩
set_option maxRecDepth 100000 in
theorem gw_X10_value : Cond.code yX10_value cX10_value 2 (some .long) ∈ gt_tbl := List.mem_filter.mpr ⟨List.mem_of_getElem? (i := 1423) (by rfl), rfl⟩
set_option maxRecDepth 100000 in
theorem gw_X10_octet : Cond.code yX10_octet cX10_octet 7 (some .int) ∈ gt_tbl := List.mem_filter.mpr ⟨List.mem_of_getElem? (i := 1427) (by rfl), rfl⟩
set_option maxRecDepth 100000 in
theorem gw_X10_byteOf : Cond.code yX10_byteOf cX10_byteOf 6 (some .int) ∈ gt_tbl := List.mem_filter.mpr ⟨List.mem_of_getElem? (i := 1431) (by rfl), rfl⟩
set_option maxRecDepth 100000 in
theorem gw_X10_range : Cond.code yX10_range cX10_range 3 (some .long) ∈ gt_tbl := List.mem_filter.mpr ⟨List.mem_of_getElem? (i := 1435) (by rfl), rfl⟩
set_option maxRecDepth 100000 in
theorem gw_X10_veneers : Cond.code yX10_veneers cX10_veneers 2 (some .int) ∈ gt_tbl := List.mem_filter.mpr ⟨List.mem_of_getElem? (i := 1439) (by rfl), rfl⟩
set_option maxRecDepth 100000 in
theorem gw_X10_found : Cond.code yX10_found cX10_found 4 (some .int) ∈ gt_tbl := List.mem_filter.mpr ⟨List.mem_of_getElem? (i := 1447) (by rfl), rfl⟩
set_option maxRecDepth 100000 in
theorem gw_X10_count : Cond.code yX10_count cX10_count 2 (some .int) ∈ gt_tbl := List.mem_filter.mpr ⟨List.mem_of_getElem? (i := 1443) (by rfl), rfl⟩
set_option maxRecDepth 100000 in
theorem gw_Jxa1e45_init_da8c8 : Cond.code yJxa1e45_init_da8c8 cJxa1e45_init_da8c8 1 none ∈ gt_tbl := List.mem_filter.mpr ⟨List.mem_of_getElem? (i := 116) (by rfl), rfl⟩
set_option maxRecDepth 100000 in
theorem gw_Jxc12de_init_da8c8 : Cond.code yJxc12de_init_da8c8 cJxc12de_init_da8c8 1 none ∈ gt_tbl := List.mem_filter.mpr ⟨List.mem_of_getElem? (i := 113) (by rfl), rfl⟩
set_option maxRecDepth 100000 in
theorem gw_Jx4a65c_init_da8c8 : Cond.code yJx4a65c_init_da8c8 cJx4a65c_init_da8c8 1 none ∈ gt_tbl := List.mem_filter.mpr ⟨List.mem_of_getElem? (i := 110) (by rfl), rfl⟩
set_option maxRecDepth 100000 in
theorem gw_Jx4a65c_grow_92f84 : Cond.code yJx4a65c_grow_92f84 cJx4a65c_grow_92f84 4 (some (.array (.object "java/lang/Object"))) ∈ gt_tbl := List.mem_filter.mpr ⟨List.mem_of_getElem? (i := 415) (by rfl), rfl⟩
set_option maxRecDepth 100000 in
theorem gw_Jx4a65c_grow_d5877 : Cond.code yJx4a65c_grow_d5877 cJx4a65c_grow_d5877 1 (some (.array (.object "java/lang/Object"))) ∈ gt_tbl := List.mem_filter.mpr ⟨List.mem_of_getElem? (i := 411) (by rfl), rfl⟩
set_option maxRecDepth 100000 in
theorem gw_Jx4a65c_size_8abf5 : Cond.code yJx4a65c_size_8abf5 cJx4a65c_size_8abf5 1 (some .int) ∈ gt_tbl := List.mem_filter.mpr ⟨List.mem_of_getElem? (i := 294) (by rfl), rfl⟩
set_option maxRecDepth 100000 in
theorem gw_Jx4a65c_elementData_915e3 : Cond.code yJx4a65c_elementData_915e3 cJx4a65c_elementData_915e3 2 (some (.object "java/lang/Object")) ∈ gt_tbl := List.mem_filter.mpr ⟨List.mem_of_getElem? (i := 483) (by rfl), rfl⟩
set_option maxRecDepth 100000 in
theorem gw_Jx4a65c_get_915e3 : Cond.code yJx4a65c_get_915e3 cJx4a65c_get_915e3 2 (some (.object "java/lang/Object")) ∈ gt_tbl := List.mem_filter.mpr ⟨List.mem_of_getElem? (i := 473) (by rfl), rfl⟩
set_option maxRecDepth 100000 in
theorem gw_Jx4a65c_add_72be8 : Cond.code yJx4a65c_add_72be8 cJx4a65c_add_72be8 4 none ∈ gt_tbl := List.mem_filter.mpr ⟨List.mem_of_getElem? (i := 407) (by rfl), rfl⟩
set_option maxRecDepth 100000 in
theorem gw_Jx4a65c_add_9ea2d : Cond.code yJx4a65c_add_9ea2d cJx4a65c_add_9ea2d 2 (some .boolean) ∈ gt_tbl := List.mem_filter.mpr ⟨List.mem_of_getElem? (i := 403) (by rfl), rfl⟩
set_option maxRecDepth 100000 in
theorem gw_Jx4a65c_clear_da8c8 : Cond.code yJx4a65c_clear_da8c8 cJx4a65c_clear_da8c8 4 none ∈ gt_tbl := List.mem_filter.mpr ⟨List.mem_of_getElem? (i := 688) (by rfl), rfl⟩
set_option maxRecDepth 100000 in
theorem gw_J7_fill_d0a16 : Cond.code yJ7_fill_d0a16 cJ7_fill_d0a16 5 none ∈ gt_tbl := List.mem_filter.mpr ⟨List.mem_of_getElem? (i := 847) (by rfl), rfl⟩
set_option maxRecDepth 100000 in
theorem gw_J7_fill_53178 : Cond.code yJ7_fill_53178 cJ7_fill_53178 4 none ∈ gt_tbl := List.mem_filter.mpr ⟨List.mem_of_getElem? (i := 640) (by rfl), rfl⟩
set_option maxRecDepth 100000 in
theorem gw_J7_copyOf_1904c : Cond.code yJ7_copyOf_1904c cJ7_copyOf_1904c 2 (some (.array (.object "java/lang/Object"))) ∈ gt_tbl := List.mem_filter.mpr ⟨List.mem_of_getElem? (i := 428) (by rfl), rfl⟩
set_option maxRecDepth 100000 in
theorem gw_J7_copyOf_6403c : Cond.code yJ7_copyOf_6403c cJ7_copyOf_6403c 4 (some (.array (.object "java/lang/Object"))) ∈ gt_tbl := List.mem_filter.mpr ⟨List.mem_of_getElem? (i := 449) (by rfl), rfl⟩
set_option maxRecDepth 100000 in
theorem gw_J15_checkIndex_7cf53 : Cond.code yJ15_checkIndex_7cf53 cJ15_checkIndex_7cf53 2 (some .int) ∈ gt_tbl := List.mem_filter.mpr ⟨List.mem_of_getElem? (i := 476) (by rfl), rfl⟩
set_option maxRecDepth 100000 in
theorem gw_J8_newLength_cabcc : Cond.code yJ8_newLength_cabcc cJ8_newLength_cabcc 4 (some .int) ∈ gt_tbl := List.mem_filter.mpr ⟨List.mem_of_getElem? (i := 418) (by rfl), rfl⟩
set_option maxRecDepth 100000 in
theorem gw_J8_hugeLength_7cf53 : Cond.code yJ8_hugeLength_7cf53 cJ8_hugeLength_7cf53 3 (some .int) ∈ gt_tbl := List.mem_filter.mpr ⟨List.mem_of_getElem? (i := 425) (by rfl), rfl⟩
set_option maxRecDepth 100000 in
theorem gw_J3_checkIndex_8e157 : Cond.code yJ3_checkIndex_8e157 cJ3_checkIndex_8e157 3 (some .int) ∈ gt_tbl := List.mem_filter.mpr ⟨List.mem_of_getElem? (i := 479) (by rfl), rfl⟩
theorem gt_cw0 : ∀ M ∈ gt_ms0, Cond.code (mx_my M) (mx_mb M) (mx_ml M) (mx_mr M) ∈ gt_tbl := List.forall_mem_cons.mpr ⟨gw_X0_init, List.forall_mem_cons.mpr ⟨gw_X0_find, List.forall_mem_cons.mpr ⟨gw_X0_findWhatMayFold, List.forall_mem_cons.mpr ⟨gw_X0_forbidWhatItTakesPlacesOf, List.forall_mem_cons.mpr ⟨gw_X0_joinKin, List.forall_mem_cons.mpr ⟨gw_X0_looksLike, List.forall_mem_cons.mpr ⟨gw_X0_relocationsLookLike, List.forall_mem_cons.mpr ⟨gw_X0_partKin, List.forall_mem_cons.mpr ⟨gw_X0_firstOfTheSameKin, List.forall_mem_cons.mpr ⟨gw_X0_targetsAreKin, List.forall_mem_cons.mpr ⟨gw_X0_foldKin, List.forall_mem_cons.mpr ⟨gw_X1_init, List.forall_mem_cons.mpr ⟨gw_X1_find, List.forall_mem_cons.mpr ⟨gw_X1_firstNowhere, List.forall_mem_cons.mpr ⟨gw_X1_firstIntoLost, List.forall_mem_cons.mpr ⟨gw_X1_begin, fun _ h => absurd h List.not_mem_nil⟩⟩⟩⟩⟩⟩⟩⟩⟩⟩⟩⟩⟩⟩⟩⟩
theorem gt_cw1 : ∀ M ∈ gt_ms1, Cond.code (mx_my M) (mx_mb M) (mx_ml M) (mx_mr M) ∈ gt_tbl := List.forall_mem_cons.mpr ⟨gw_X1_admit, List.forall_mem_cons.mpr ⟨gw_X1_follow, List.forall_mem_cons.mpr ⟨gw_X1_admitSet, List.forall_mem_cons.mpr ⟨gw_X1_admitGroup, List.forall_mem_cons.mpr ⟨gw_X2_init, List.forall_mem_cons.mpr ⟨gw_X2_resolve, List.forall_mem_cons.mpr ⟨gw_X2_definitionOf, List.forall_mem_cons.mpr ⟨gw_X2_firstRootNowhere, List.forall_mem_cons.mpr ⟨gw_X2_findLost, List.forall_mem_cons.mpr ⟨gw_X2_hasGroup, List.forall_mem_cons.mpr ⟨gw_X2_findDefinitions, List.forall_mem_cons.mpr ⟨gw_X2_takeDefinition, List.forall_mem_cons.mpr ⟨gw_X2_findTargets, List.forall_mem_cons.mpr ⟨gw_X3_init, List.forall_mem_cons.mpr ⟨gw_X3_run, List.forall_mem_cons.mpr ⟨gw_X3_firstKindOverAnother, fun _ h => absurd h List.not_mem_nil⟩⟩⟩⟩⟩⟩⟩⟩⟩⟩⟩⟩⟩⟩⟩⟩
theorem gt_cw2 : ∀ M ∈ gt_ms2, Cond.code (mx_my M) (mx_mb M) (mx_ml M) (mx_mr M) ∈ gt_tbl := List.forall_mem_cons.mpr ⟨gw_X3_firstMisfit, List.forall_mem_cons.mpr ⟨gw_X3_targetValue, List.forall_mem_cons.mpr ⟨gw_X3_imageByte, List.forall_mem_cons.mpr ⟨gw_X3_dropVeneers, List.forall_mem_cons.mpr ⟨gw_X3_layOut, List.forall_mem_cons.mpr ⟨gw_X3_layOutKind, List.forall_mem_cons.mpr ⟨gw_X3_findSetEdges, List.forall_mem_cons.mpr ⟨gw_X3_widenSet, List.forall_mem_cons.mpr ⟨gw_X3_addVeneers, List.forall_mem_cons.mpr ⟨gw_X3_addVeneersOf, List.forall_mem_cons.mpr ⟨gw_X3_veneerFor, List.forall_mem_cons.mpr ⟨gw_X3_amountWritten, List.forall_mem_cons.mpr ⟨gw_X3_sectionByte, List.forall_mem_cons.mpr ⟨gw_X3_veneerByte, List.forall_mem_cons.mpr ⟨gw_X3_byteOf, List.forall_mem_cons.mpr ⟨gw_X4_init, fun _ h => absurd h List.not_mem_nil⟩⟩⟩⟩⟩⟩⟩⟩⟩⟩⟩⟩⟩⟩⟩⟩
theorem gt_cw3 : ∀ M ∈ gt_ms3, Cond.code (mx_my M) (mx_mb M) (mx_ml M) (mx_mr M) ∈ gt_tbl := List.forall_mem_cons.mpr ⟨gw_X4_ownPlace, List.forall_mem_cons.mpr ⟨gw_X4_covers, List.forall_mem_cons.mpr ⟨gw_X4_isWrittenLike, List.forall_mem_cons.mpr ⟨gw_X5_init, List.forall_mem_cons.mpr ⟨gw_X5_byteAt, List.forall_mem_cons.mpr ⟨gw_X5_setByte, List.forall_mem_cons.mpr ⟨gw_X5_seededBytes, List.forall_mem_cons.mpr ⟨gw_X5_hasBytesOf, List.forall_mem_cons.mpr ⟨gw_X5_exchangeMark, List.forall_mem_cons.mpr ⟨gw_X5_isKept, List.forall_mem_cons.mpr ⟨gw_X5_isPlaced, List.forall_mem_cons.mpr ⟨gw_X5_finalPlace, List.forall_mem_cons.mpr ⟨gw_X5_endWithoutVeneers, List.forall_mem_cons.mpr ⟨gw_X5_placeOfVeneer, List.forall_mem_cons.mpr ⟨gw_X5_endWithVeneers, List.forall_mem_cons.mpr ⟨gw_X5_alignedUp, fun _ h => absurd h List.not_mem_nil⟩⟩⟩⟩⟩⟩⟩⟩⟩⟩⟩⟩⟩⟩⟩⟩
theorem gt_cw4 : ∀ M ∈ gt_ms4, Cond.code (mx_my M) (mx_mb M) (mx_ml M) (mx_mr M) ∈ gt_tbl := List.forall_mem_cons.mpr ⟨gw_X6_init, List.forall_mem_cons.mpr ⟨gw_X6_isDefinition, List.forall_mem_cons.mpr ⟨gw_X6_targetSet, List.forall_mem_cons.mpr ⟨gw_X6_isNowhere, List.forall_mem_cons.mpr ⟨gw_X6_aimAt, List.forall_mem_cons.mpr ⟨gw_X6_hasSetAndOffsetOf, List.forall_mem_cons.mpr ⟨gw_X6_hasTargetOf, List.forall_mem_cons.mpr ⟨gw_X7_init, List.forall_mem_cons.mpr ⟨gw_X7_hasObject, List.forall_mem_cons.mpr ⟨gw_X7_sectionAt, List.forall_mem_cons.mpr ⟨gw_X7_symbolAt, List.forall_mem_cons.mpr ⟨gw_X7_addRoot, List.forall_mem_cons.mpr ⟨gw_X8_fits, List.forall_mem_cons.mpr ⟨gw_X9_init, List.forall_mem_cons.mpr ⟨gw_X9_object, List.forall_mem_cons.mpr ⟨gw_X9_section, fun _ h => absurd h List.not_mem_nil⟩⟩⟩⟩⟩⟩⟩⟩⟩⟩⟩⟩⟩⟩⟩⟩
theorem gt_cw5 : ∀ M ∈ gt_ms5, Cond.code (mx_my M) (mx_mb M) (mx_ml M) (mx_mr M) ∈ gt_tbl := List.forall_mem_cons.mpr ⟨gw_X9_patch, List.forall_mem_cons.mpr ⟨gw_X9_mark, List.forall_mem_cons.mpr ⟨gw_X9_symbol, List.forall_mem_cons.mpr ⟨gw_X9_relocation, List.forall_mem_cons.mpr ⟨gw_X9_root, List.forall_mem_cons.mpr ⟨gw_X9_base, List.forall_mem_cons.mpr ⟨gw_X9_link, List.forall_mem_cons.mpr ⟨gw_X9_fault, List.forall_mem_cons.mpr ⟨gw_X9_kept, List.forall_mem_cons.mpr ⟨gw_X9_place, List.forall_mem_cons.mpr ⟨gw_X9_value, List.forall_mem_cons.mpr ⟨gw_X9_octet, List.forall_mem_cons.mpr ⟨gw_X9_range, List.forall_mem_cons.mpr ⟨gw_X9_veneers, List.forall_mem_cons.mpr ⟨gw_X9_count, List.forall_mem_cons.mpr ⟨gw_X9_forgetLink, fun _ h => absurd h List.not_mem_nil⟩⟩⟩⟩⟩⟩⟩⟩⟩⟩⟩⟩⟩⟩⟩⟩
theorem gt_cw6 : ∀ M ∈ gt_ms6, Cond.code (mx_my M) (mx_mb M) (mx_ml M) (mx_mr M) ∈ gt_tbl := List.forall_mem_cons.mpr ⟨gw_X9_faultBeforePlacing, List.forall_mem_cons.mpr ⟨gw_X9_faultOfPlaces, List.forall_mem_cons.mpr ⟨gw_X9_isWithin, List.forall_mem_cons.mpr ⟨gw_X9_isMark, List.forall_mem_cons.mpr ⟨gw_X9_isSortFor, List.forall_mem_cons.mpr ⟨gw_X9_typeAt, List.forall_mem_cons.mpr ⟨gw_X9_numberOf, List.forall_mem_cons.mpr ⟨gw_X10_thrown, List.forall_mem_cons.mpr ⟨gw_X10_init, List.forall_mem_cons.mpr ⟨gw_X10_in, List.forall_mem_cons.mpr ⟨gw_X10_told, List.forall_mem_cons.mpr ⟨gw_X10_object, List.forall_mem_cons.mpr ⟨gw_X10_section, List.forall_mem_cons.mpr ⟨gw_X10_hasBytes, List.forall_mem_cons.mpr ⟨gw_X10_patch, List.forall_mem_cons.mpr ⟨gw_X10_mark, fun _ h => absurd h List.not_mem_nil⟩⟩⟩⟩⟩⟩⟩⟩⟩⟩⟩⟩⟩⟩⟩⟩
theorem gt_cw7 : ∀ M ∈ gt_ms7, Cond.code (mx_my M) (mx_mb M) (mx_ml M) (mx_mr M) ∈ gt_tbl := List.forall_mem_cons.mpr ⟨gw_X10_symbol, List.forall_mem_cons.mpr ⟨gw_X10_wide, List.forall_mem_cons.mpr ⟨gw_X10_relocation, List.forall_mem_cons.mpr ⟨gw_X10_root, List.forall_mem_cons.mpr ⟨gw_X10_base, List.forall_mem_cons.mpr ⟨gw_X10_names, List.forall_mem_cons.mpr ⟨gw_X10_keeps, List.forall_mem_cons.mpr ⟨gw_X10_keepAll, List.forall_mem_cons.mpr ⟨gw_X10_comesBy, List.forall_mem_cons.mpr ⟨gw_X10_relocationsOf, List.forall_mem_cons.mpr ⟨gw_X10_nth, List.forall_mem_cons.mpr ⟨gw_X10_startsAlike, List.forall_mem_cons.mpr ⟨gw_X10_staysAlike, List.forall_mem_cons.mpr ⟨gw_X10_foldAll, List.forall_mem_cons.mpr ⟨gw_X10_isPlaced, List.forall_mem_cons.mpr ⟨gw_X10_veneersOf, fun _ h => absurd h List.not_mem_nil⟩⟩⟩⟩⟩⟩⟩⟩⟩⟩⟩⟩⟩⟩⟩⟩
theorem gt_cw8 : ∀ M ∈ gt_ms8, Cond.code (mx_my M) (mx_mb M) (mx_ml M) (mx_mr M) ∈ gt_tbl := List.forall_mem_cons.mpr ⟨gw_X10_up, List.forall_mem_cons.mpr ⟨gw_X10_placeAll, List.forall_mem_cons.mpr ⟨gw_X10_veneerPlace, List.forall_mem_cons.mpr ⟨gw_X10_placeOf, List.forall_mem_cons.mpr ⟨gw_X10_valueOf, List.forall_mem_cons.mpr ⟨gw_X10_v, List.forall_mem_cons.mpr ⟨gw_X10_isBranchNear, List.forall_mem_cons.mpr ⟨gw_X10_sameAim, List.forall_mem_cons.mpr ⟨gw_X10_veneerAll, List.forall_mem_cons.mpr ⟨gw_X10_bad, List.forall_mem_cons.mpr ⟨gw_X10_link, List.forall_mem_cons.mpr ⟨gw_X10_hasPlaced, List.forall_mem_cons.mpr ⟨gw_X10_written, List.forall_mem_cons.mpr ⟨gw_X10_fits, List.forall_mem_cons.mpr ⟨gw_X10_fault, List.forall_mem_cons.mpr ⟨gw_X10_kept, fun _ h => absurd h List.not_mem_nil⟩⟩⟩⟩⟩⟩⟩⟩⟩⟩⟩⟩⟩⟩⟩⟩
theorem gt_cw9 : ∀ M ∈ gt_ms9, Cond.code (mx_my M) (mx_mb M) (mx_ml M) (mx_mr M) ∈ gt_tbl := List.forall_mem_cons.mpr ⟨gw_X10_place, List.forall_mem_cons.mpr ⟨gw_X10_value, List.forall_mem_cons.mpr ⟨gw_X10_octet, List.forall_mem_cons.mpr ⟨gw_X10_byteOf, List.forall_mem_cons.mpr ⟨gw_X10_range, List.forall_mem_cons.mpr ⟨gw_X10_veneers, List.forall_mem_cons.mpr ⟨gw_X10_found, List.forall_mem_cons.mpr ⟨gw_X10_count, List.forall_mem_cons.mpr ⟨gw_Jxa1e45_init_da8c8, List.forall_mem_cons.mpr ⟨gw_Jxc12de_init_da8c8, List.forall_mem_cons.mpr ⟨gw_Jx4a65c_init_da8c8, List.forall_mem_cons.mpr ⟨gw_Jx4a65c_grow_92f84, List.forall_mem_cons.mpr ⟨gw_Jx4a65c_grow_d5877, List.forall_mem_cons.mpr ⟨gw_Jx4a65c_size_8abf5, List.forall_mem_cons.mpr ⟨gw_Jx4a65c_elementData_915e3, List.forall_mem_cons.mpr ⟨gw_Jx4a65c_get_915e3, fun _ h => absurd h List.not_mem_nil⟩⟩⟩⟩⟩⟩⟩⟩⟩⟩⟩⟩⟩⟩⟩⟩
theorem gt_cw10 : ∀ M ∈ gt_ms10, Cond.code (mx_my M) (mx_mb M) (mx_ml M) (mx_mr M) ∈ gt_tbl := List.forall_mem_cons.mpr ⟨gw_Jx4a65c_add_72be8, List.forall_mem_cons.mpr ⟨gw_Jx4a65c_add_9ea2d, List.forall_mem_cons.mpr ⟨gw_Jx4a65c_clear_da8c8, List.forall_mem_cons.mpr ⟨gw_J7_fill_d0a16, List.forall_mem_cons.mpr ⟨gw_J7_fill_53178, List.forall_mem_cons.mpr ⟨gw_J7_copyOf_1904c, List.forall_mem_cons.mpr ⟨gw_J7_copyOf_6403c, List.forall_mem_cons.mpr ⟨gw_J15_checkIndex_7cf53, List.forall_mem_cons.mpr ⟨gw_J8_newLength_cabcc, List.forall_mem_cons.mpr ⟨gw_J8_hugeLength_7cf53, List.forall_mem_cons.mpr ⟨gw_J3_checkIndex_8e157, fun _ h => absurd h List.not_mem_nil⟩⟩⟩⟩⟩⟩⟩⟩⟩⟩⟩
theorem gt_code (M : mx_M) (h : M ∈ gt_ms) : Cond.code (mx_my M) (mx_mb M) (mx_ml M) (mx_mr M) ∈ gt_tbl := by
  unfold gt_ms at h
  simp only [List.mem_append] at h
  rcases h with h | h | h | h | h | h | h | h | h | h | h
  · exact gt_cw0 M h
  · exact gt_cw1 M h
  · exact gt_cw2 M h
  · exact gt_cw3 M h
  · exact gt_cw4 M h
  · exact gt_cw5 M h
  · exact gt_cw6 M h
  · exact gt_cw7 M h
  · exact gt_cw8 M h
  · exact gt_cw9 M h
  · exact gt_cw10 M h
end
section
def gt_at (p : Nat) (w : Cond) : Bool := decide (lw_tbl[p]? = some w) && goodWord w
theorem gt_at_ok {p : Nat} {w : Cond} (h : gt_at p w = true) : w ∈ gt_tbl := by
  simp only [gt_at, Bool.and_eq_true, decide_eq_true_eq] at h
  exact List.mem_filter.mpr ⟨List.mem_of_getElem? h.1, h.2⟩
def gt_an (p : Nat) (w : Cond) : Bool := decide (lw_tbl[p]? = some w) && gt_nw w
theorem gt_an_ok {p : Nat} {w : Cond} (h : gt_an p w = true) : w ∈ gt_nst := by
  simp only [gt_an, Bool.and_eq_true, decide_eq_true_eq] at h
  exact List.mem_filter.mpr ⟨List.mem_of_getElem? h.1, h.2⟩
theorem gt_us : ∀ {ws : List Cond} (ps : List Nat) (_ : (decide (ps.length = ws.length) && (ws.zip ps).all (fun e => gt_at e.2 e.1)) = true), ∀ w ∈ ws, w ∈ gt_tbl := by
  intro ws
  induction ws with
  | nil => intro ps _ w hw; cases hw
  | cons a l ih =>
    intro ps h w hw
    cases ps with
    | nil => simp at h
    | cons p ps =>
      simp only [List.length_cons, List.zip_cons_cons, List.all_cons, Bool.and_eq_true, decide_eq_true_eq, Nat.add_right_cancel_iff] at h
      rcases List.mem_cons.mp hw with e | e
      · rw [e]; exact gt_at_ok h.2.1
      · exact ih ps (by simp only [Bool.and_eq_true, decide_eq_true_eq]; exact ⟨h.1, h.2.2⟩) w e
theorem gt_lu_ok {α : Type} {t : List (List (Nat × α))} {c i : Nat} {x : α} (h : gt_lu t c i = some x) {f : Nat → Nat × α → Bool} (hf : t.zipIdx.all (fun lc => lc.1.all (fun e => f lc.2 e)) = true) : f c (i, x) = true := by
  unfold gt_lu at h
  obtain ⟨e, h1, h2⟩ := Option.map_eq_some_iff.mp h
  have h3 := List.find?_some h1
  have h4 := List.mem_of_find?_eq_some h1
  have e1 : e.1 = i := Nat.eq_of_beq_eq_true h3
  have e2 : e = (i, x) := by rw [← e1, ← h2]
  subst e2
  rw [List.getD_eq_getElem?_getD] at h4
  cases hc : t[c]? with
  | none => rw [hc] at h4; cases h4
  | some l =>
    rw [hc] at h4
    have hm : (l, c) ∈ t.zipIdx := by
      rw [List.mem_zipIdx_iff_getElem?]
      exact hc
    exact List.all_eq_true.mp (List.all_eq_true.mp hf (l, c) hm) (i, x) h4
def gt_okf (c : Nat) (e : Nat × (Nat × Nat × FieldType × Bool) × String × Nat × Nat) : Bool := match gt_cl[e.2.1.1]? with
  | none => false
  | some r => decide (e.2.1.2.1 < r.2.2) && decide (parseFieldDescriptor (r.2.1 e.2.1.2.1).2.2.1 = some e.2.1.2.2.1) && decide ((r.2.1 e.2.1.2.1).2.2.2 = e.2.1.2.2.2) && (!e.2.1.2.2.2 || decide ((r.2.1 e.2.1.2.1).1 = gt_c e.2.1.1)) && gt_at e.2.2.2.1 (.fieldLink (gt_c c) e.1 e.2.2.1 (r.2.1 e.2.1.2.1).2.1 (r.2.1 e.2.1.2.1).2.2.1) && (decide (e.2.2.1 = (r.2.1 e.2.1.2.1).1) || gt_at e.2.2.2.2 (.sameField e.2.2.1 (r.2.1 e.2.1.2.1).1 (r.2.1 e.2.1.2.1).2.1 (r.2.1 e.2.1.2.1).2.2.1))
def gt_okk (c : Nat) (e : Nat × Option Value × Nat) : Bool := match e.2.1 with
  | some (.int x) => gt_at e.2.2 (.constant (gt_c c) e.1 x)
  | some (.long x) => gt_at e.2.2 (.constantLong (gt_c c) e.1 x)
  | none => gt_at e.2.2 (.classLink (gt_c c) e.1 "[Ljava/lang/Object;")
  | _ => false
def gt_okn (c : Nat) (e : Nat × (Nat × List Value) × Nat × Nat × Nat) : Bool := match gt_cl[e.2.1.1]? with
  | none => false
  | some r => decide (r.2.2 = e.2.1.2.length) && gt_at e.2.2.1 (.classLink (gt_c c) e.1 r.1) && gt_at e.2.2.2.1 (.instantiable r.1 e.2.1.2.length) && gt_at e.2.2.2.2 (.initialized r.1) && (List.range e.2.1.2.length).all (fun j => decide ((parseFieldDescriptor (r.2.1 j).2.2.1).map defaultValue = some (vp_V e.2.1.2 j)))
def gt_oka (c : Nat) (e : Nat × Nat × String × Nat) : Bool := decide (gt_ty[e.2.1]? = some (.object e.2.2.1)) && gt_at e.2.2.2 (.classLink (gt_c c) e.1 e.2.2.1) && decide (e.2.2.1 ∈ gt_ao)
def gt_okq (c : Nat) (e : Nat × Nat × String × Nat) : Bool := gt_at e.2.2.2 (.classLink (gt_c c) e.1 e.2.2.1) && (match gt_cl[e.2.1]? with | none => false | some r => decide (r.1 = e.2.2.1))
def gt_okm0 (na q : Nat) (M : mx_M) (ps : List Nat) : Bool := decide (plainName (mx_my M).cls = true) && decide (q < gt_ms.length) && gt_at (ps.getD 0 0) (.initialized (mx_my M).cls) && decide ((mx_my M).cls ≠ "java/lang/invoke/MethodHandle") && decide ((mx_my M).cls ≠ "java/lang/invoke/VarHandle") && decide ((parseMethodDescriptor (mx_my M).desc).map (fun d => d.parameters.length) = some na) && decide ((mx_my M).cls = gt_c (mx_mc M))
def gt_okm (c : Nat) (e : Nat × (Nat × Nat × Nat) × List Nat × String) : Bool :=
  if e.2.1.1 = 3 then gt_at (e.2.2.1.getD 0 0) (.methodLink (gt_c c) e.1 Lib.objectInit) && gt_at (e.2.2.1.getD 1 0) (.instanceMethod Lib.objectInit) && gt_at (e.2.2.1.getD 2 0) (.code Lib.objectInit ⟨#[0xb1]⟩ 1 none)
  else if e.2.1.1 = 20 then gt_at (e.2.2.1.getD 0 0) (.methodLink (gt_c c) e.1 arraycopyName) && gt_at (e.2.2.1.getD 1 0) (.native arraycopyName) && gt_at (e.2.2.1.getD 2 0) (.static arraycopyName) && gt_at (e.2.2.1.getD 3 0) (.initialized "java/lang/System")
  else if e.2.1.1 = 21 then gt_at (e.2.2.1.getD 0 0) (.methodLink (gt_c c) e.1 ⟨"java/lang/Object", "getClass", "()Ljava/lang/Class;"⟩) && gt_at (e.2.2.1.getD 1 0) (.selects "[Ljava/lang/Object;" ⟨"java/lang/Object", "getClass", "()Ljava/lang/Class;"⟩ ⟨"java/lang/Object", "getClass", "()Ljava/lang/Class;"⟩) && gt_at (e.2.2.1.getD 2 0) (.instanceMethod ⟨"java/lang/Object", "getClass", "()Ljava/lang/Class;"⟩) && gt_at (e.2.2.1.getD 3 0) (.native ⟨"java/lang/Object", "getClass", "()Ljava/lang/Class;"⟩)
  else if e.2.1.1 = 22 then gt_at (e.2.2.1.getD 0 0) (.methodLink (gt_c c) e.1 Lib.Math.min.name) && gt_at (e.2.2.1.getD 1 0) (.static Lib.Math.min.name) && gt_at (e.2.2.1.getD 2 0) (.initialized "java/lang/Math") && gt_at (e.2.2.1.getD 3 0) (.code Lib.Math.min.name Lib.Math.min.code 2 (some .int))
  else if e.2.1.1 = 23 then gt_at (e.2.2.1.getD 0 0) (.methodLink (gt_c c) e.1 Lib.Math.max.name) && gt_at (e.2.2.1.getD 1 0) (.static Lib.Math.max.name) && gt_at (e.2.2.1.getD 2 0) (.initialized "java/lang/Math") && gt_at (e.2.2.1.getD 3 0) (.code Lib.Math.max.name Lib.Math.max.code 2 (some .int))
  else if e.2.1.1 = 24 then gt_at (e.2.2.1.getD 0 0) (.methodLink (gt_c c) e.1 Lib.MathLoose.min_long.x) && gt_at (e.2.2.1.getD 1 0) (.static Lib.MathLoose.min_long.x) && gt_at (e.2.2.1.getD 2 0) (.initialized "java/lang/Math") && gt_at (e.2.2.1.getD 3 0) (.code Lib.MathLoose.min_long.x Lib.MathLoose.min_long.code 4 (some .long))
  else if e.2.1.1 = 25 then gt_at (e.2.2.1.getD 0 0) (.methodLink (gt_c c) e.1 Lib.MathLoose.max_long.x) && gt_at (e.2.2.1.getD 1 0) (.static Lib.MathLoose.max_long.x) && gt_at (e.2.2.1.getD 2 0) (.initialized "java/lang/Math") && gt_at (e.2.2.1.getD 3 0) (.code Lib.MathLoose.max_long.x Lib.MathLoose.max_long.code 4 (some .long))
  else gt_okm0 e.2.1.2.1 e.2.1.2.2 (gt_ms.getD e.2.1.2.2 mL_law) e.2.2.1 && (if e.2.1.1 = 0 then gt_at (e.2.2.1.getD 1 0) (.methodLink (gt_c c) e.1 (mx_my (gt_ms.getD e.2.1.2.2 mL_law))) && gt_at (e.2.2.1.getD 2 0) (.instanceMethod (mx_my (gt_ms.getD e.2.1.2.2 mL_law))) && gt_at (e.2.2.1.getD 3 0) (.selects (gt_c (mx_mc (gt_ms.getD e.2.1.2.2 mL_law))) (mx_my (gt_ms.getD e.2.1.2.2 mL_law)) (mx_my (gt_ms.getD e.2.1.2.2 mL_law)))
    else if e.2.1.1 = 1 then gt_at (e.2.2.1.getD 1 0) (.methodLink (gt_c c) e.1 (mx_my (gt_ms.getD e.2.1.2.2 mL_law))) && gt_at (e.2.2.1.getD 2 0) (.instanceMethod (mx_my (gt_ms.getD e.2.1.2.2 mL_law))) && decide ((mx_my (gt_ms.getD e.2.1.2.2 mL_law)).name = "<init>") && decide (mx_mr (gt_ms.getD e.2.1.2.2 mL_law) = none)
    else if e.2.1.1 = 11 then gt_an (e.2.2.1.getD 1 0) (.methodLinkNest (gt_c c) e.1 (mx_my (gt_ms.getD e.2.1.2.2 mL_law)) e.2.2.2) && gt_at (e.2.2.1.getD 2 0) (.instanceMethod (mx_my (gt_ms.getD e.2.1.2.2 mL_law))) && decide ((mx_my (gt_ms.getD e.2.1.2.2 mL_law)).name = "<init>") && decide (mx_mr (gt_ms.getD e.2.1.2.2 mL_law) = none)
    else if e.2.1.1 = 2 then gt_at (e.2.2.1.getD 1 0) (.methodLink (gt_c c) e.1 (mx_my (gt_ms.getD e.2.1.2.2 mL_law))) && gt_at (e.2.2.1.getD 2 0) (.static (mx_my (gt_ms.getD e.2.1.2.2 mL_law)))
    else false)
set_option maxRecDepth 100000 in
theorem gt_okf_all : gt_f.zipIdx.all (fun lc => lc.1.all (fun e => gt_okf lc.2 e)) = true := by decide +kernel
set_option maxRecDepth 100000 in
theorem gt_okk_all : gt_k.zipIdx.all (fun lc => lc.1.all (fun e => gt_okk lc.2 e)) = true := by decide +kernel
set_option maxRecDepth 100000 in
theorem gt_okn_all : gt_n.zipIdx.all (fun lc => lc.1.all (fun e => gt_okn lc.2 e)) = true := by decide +kernel
set_option maxRecDepth 100000 in
theorem gt_oka_all : gt_a.zipIdx.all (fun lc => lc.1.all (fun e => gt_oka lc.2 e)) = true := by decide +kernel
set_option maxRecDepth 100000 in
theorem gt_okq_all : gt_q.zipIdx.all (fun lc => lc.1.all (fun e => gt_okq lc.2 e)) = true := by decide +kernel
set_option maxRecDepth 100000 in
theorem gt_okm_0 : (gt_m.getD 0 []).all (fun e => gt_okm 0 e) = true := by decide +kernel
set_option maxRecDepth 100000 in
theorem gt_okm_1 : (gt_m.getD 1 []).all (fun e => gt_okm 1 e) = true := by decide +kernel
set_option maxRecDepth 100000 in
theorem gt_okm_2 : (gt_m.getD 2 []).all (fun e => gt_okm 2 e) = true := by decide +kernel
set_option maxRecDepth 100000 in
theorem gt_okm_3 : (gt_m.getD 3 []).all (fun e => gt_okm 3 e) = true := by decide +kernel
set_option maxRecDepth 100000 in
theorem gt_okm_4 : (gt_m.getD 4 []).all (fun e => gt_okm 4 e) = true := by decide +kernel
set_option maxRecDepth 100000 in
theorem gt_okm_5 : (gt_m.getD 5 []).all (fun e => gt_okm 5 e) = true := by decide +kernel
set_option maxRecDepth 100000 in
theorem gt_okm_6 : (gt_m.getD 6 []).all (fun e => gt_okm 6 e) = true := by decide +kernel
set_option maxRecDepth 100000 in
theorem gt_okm_7 : (gt_m.getD 7 []).all (fun e => gt_okm 7 e) = true := by decide +kernel
set_option maxRecDepth 100000 in
theorem gt_okm_8 : (gt_m.getD 8 []).all (fun e => gt_okm 8 e) = true := by decide +kernel
set_option maxRecDepth 100000 in
theorem gt_okm_9 : (gt_m.getD 9 []).all (fun e => gt_okm 9 e) = true := by decide +kernel
set_option maxRecDepth 100000 in
theorem gt_okm_10 : (gt_m.getD 10 []).all (fun e => gt_okm 10 e) = true := by decide +kernel
set_option maxRecDepth 100000 in
theorem gt_okm_11 : (gt_m.getD 11 []).all (fun e => gt_okm 11 e) = true := by decide +kernel
set_option maxRecDepth 100000 in
theorem gt_okm_12 : (gt_m.getD 12 []).all (fun e => gt_okm 12 e) = true := by decide +kernel
set_option maxRecDepth 100000 in
theorem gt_okm_13 : (gt_m.getD 13 []).all (fun e => gt_okm 13 e) = true := by decide +kernel
set_option maxRecDepth 100000 in
theorem gt_okm_14 : (gt_m.getD 14 []).all (fun e => gt_okm 14 e) = true := by decide +kernel
set_option maxRecDepth 100000 in
theorem gt_okm_15 : (gt_m.getD 15 []).all (fun e => gt_okm 15 e) = true := by decide +kernel
set_option maxRecDepth 100000 in
theorem gt_okm_16 : (gt_m.getD 16 []).all (fun e => gt_okm 16 e) = true := by decide +kernel
set_option maxRecDepth 100000 in
theorem gt_okm_17 : (gt_m.getD 17 []).all (fun e => gt_okm 17 e) = true := by decide +kernel
set_option maxRecDepth 100000 in
theorem gt_okm_18 : (gt_m.getD 18 []).all (fun e => gt_okm 18 e) = true := by decide +kernel
set_option maxRecDepth 100000 in
theorem gt_okm_19 : (gt_m.getD 19 []).all (fun e => gt_okm 19 e) = true := by decide +kernel
theorem gt_okm_all {c i : Nat} {x : (Nat × Nat × Nat) × List Nat × String} (h : gt_lu gt_m c i = some x) : gt_okm c (i, x) = true := by
  unfold gt_lu at h
  obtain ⟨e, h1, h2⟩ := Option.map_eq_some_iff.mp h
  have h3 := List.find?_some h1
  have h4 := List.mem_of_find?_eq_some h1
  have e1 : e.1 = i := Nat.eq_of_beq_eq_true h3
  have e2 : e = (i, x) := by rw [← e1, ← h2]
  subst e2
  match c, h4 with
  | 0, h4 => exact List.all_eq_true.mp gt_okm_0 _ h4
  | 1, h4 => exact List.all_eq_true.mp gt_okm_1 _ h4
  | 2, h4 => exact List.all_eq_true.mp gt_okm_2 _ h4
  | 3, h4 => exact List.all_eq_true.mp gt_okm_3 _ h4
  | 4, h4 => exact List.all_eq_true.mp gt_okm_4 _ h4
  | 5, h4 => exact List.all_eq_true.mp gt_okm_5 _ h4
  | 6, h4 => exact List.all_eq_true.mp gt_okm_6 _ h4
  | 7, h4 => exact List.all_eq_true.mp gt_okm_7 _ h4
  | 8, h4 => exact List.all_eq_true.mp gt_okm_8 _ h4
  | 9, h4 => exact List.all_eq_true.mp gt_okm_9 _ h4
  | 10, h4 => exact List.all_eq_true.mp gt_okm_10 _ h4
  | 11, h4 => exact List.all_eq_true.mp gt_okm_11 _ h4
  | 12, h4 => exact List.all_eq_true.mp gt_okm_12 _ h4
  | 13, h4 => exact List.all_eq_true.mp gt_okm_13 _ h4
  | 14, h4 => exact List.all_eq_true.mp gt_okm_14 _ h4
  | 15, h4 => exact List.all_eq_true.mp gt_okm_15 _ h4
  | 16, h4 => exact List.all_eq_true.mp gt_okm_16 _ h4
  | 17, h4 => exact List.all_eq_true.mp gt_okm_17 _ h4
  | 18, h4 => exact List.all_eq_true.mp gt_okm_18 _ h4
  | 19, h4 => exact List.all_eq_true.mp gt_okm_19 _ h4
  | k + 20, h4 => exact absurd h4 (by simp [gt_m])
set_option maxRecDepth 100000 in
theorem gt_u0 : ∀ w ∈ u_ws RX0 TX0 1, w ∈ gt_tbl := gt_us [210] (by decide +kernel)
set_option maxRecDepth 100000 in
theorem gt_u1 : ∀ w ∈ u_ws RX1 TX1 1, w ∈ gt_tbl := gt_us [199] (by decide +kernel)
set_option maxRecDepth 100000 in
theorem gt_u2 : ∀ w ∈ u_ws RX2 TX2 2, w ∈ gt_tbl := gt_us [184, 186] (by decide +kernel)
set_option maxRecDepth 100000 in
theorem gt_u3 : ∀ w ∈ u_ws RX3 TX3 7, w ∈ gt_tbl := gt_us [230, 232, 234, 236, 238, 240, 242] (by decide +kernel)
set_option maxRecDepth 100000 in
theorem gt_u4 : ∀ w ∈ u_ws RX4 TX4 6, w ∈ gt_tbl := gt_us [600, 602, 604, 606, 608, 610] (by decide +kernel)
set_option maxRecDepth 100000 in
theorem gt_u5 : ∀ w ∈ u_ws RX5 TX5 20, w ∈ gt_tbl := gt_us [359, 361, 363, 365, 367, 369, 371, 373, 375, 377, 379, 381, 383, 385, 387, 389, 391, 393, 395, 397] (by decide +kernel)
set_option maxRecDepth 100000 in
theorem gt_u6 : ∀ w ∈ u_ws RX6 TX6 9, w ∈ gt_tbl := gt_us [543, 545, 547, 549, 551, 553, 555, 557, 559] (by decide +kernel)
set_option maxRecDepth 100000 in
theorem gt_u7 : ∀ w ∈ u_ws RX7 TX7 8, w ∈ gt_tbl := gt_us [156, 158, 160, 162, 164, 166, 168, 170] (by decide +kernel)
set_option maxRecDepth 100000 in
theorem gt_u8 : ∀ w ∈ u_ws RX9 TX9 8, w ∈ gt_tbl := gt_us [255, 257, 259, 261, 263, 265, 267, 269] (by decide +kernel)
set_option maxRecDepth 100000 in
theorem gt_u9 : ∀ w ∈ u_ws RX10 TX10 54, w ∈ gt_tbl := gt_us [1136, 1138, 1140, 1142, 1144, 1146, 1148, 1150, 1152, 1154, 1156, 1158, 1160, 1162, 1164, 1166, 1168, 1170, 1172, 1174, 1176, 1178, 1180, 1182, 1184, 1186, 1188, 1190, 1192, 1194, 1196, 1198, 1200, 1202, 1204, 1206, 1208, 1210, 1212, 1214, 1216, 1218, 1220, 1222, 1224, 1226, 1228, 1230, 1232, 1234, 1236, 1238, 1240, 1242] (by decide +kernel)
set_option maxRecDepth 100000 in
theorem gt_u10 : ∀ w ∈ u_ws RJx4a65c TJx4a65c 3, w ∈ gt_tbl := gt_us [129, 125, 127] (by decide +kernel)
theorem gt_okC : mx_okC gt_c gt_cl gt_tbl := by
  intro ci C T N h
  match ci, h with
  | 0, h => cases h; exact ⟨rfl, gt_u0, tyX0, tyX0_ok, nmX0⟩
  | 1, h => cases h; exact ⟨rfl, gt_u1, tyX1, tyX1_ok, nmX1⟩
  | 2, h => cases h; exact ⟨rfl, gt_u2, tyX2, tyX2_ok, nmX2⟩
  | 3, h => cases h; exact ⟨rfl, gt_u3, tyX3, tyX3_ok, nmX3⟩
  | 4, h => cases h; exact ⟨rfl, gt_u4, tyX4, tyX4_ok, nmX4⟩
  | 5, h => cases h; exact ⟨rfl, gt_u5, tyX5, tyX5_ok, nmX5⟩
  | 6, h => cases h; exact ⟨rfl, gt_u6, tyX6, tyX6_ok, nmX6⟩
  | 7, h => cases h; exact ⟨rfl, gt_u7, tyX7, tyX7_ok, nmX7⟩
  | 8, h => cases h; exact ⟨rfl, gt_u8, tyX9, tyX9_ok, nmX9⟩
  | 9, h => cases h; exact ⟨rfl, gt_u9, tyX10, tyX10_ok, nmX10⟩
  | 10, h => cases h; exact ⟨rfl, gt_u10, tyJx4a65c, tyJx4a65c_ok, nmJx4a65c⟩
  | k + 11, h => simp [gt_cl] at h
theorem gt_okF (b0 mi : Nat) (E : Nat → Nat) : mx_okF (gt_P b0 mi E) gt_c gt_cl gt_tbl := by
  intro c i ci j ty fin h
  obtain ⟨⟨x, ref, p, p2⟩, h1, h2⟩ := Option.map_eq_some_iff.mp (show (gt_lu gt_f c i).map (fun e => e.1) = some (ci, j, ty, fin) from h)
  dsimp only at h2
  subst h2
  have h3 := gt_lu_ok h1 gt_okf_all
  unfold gt_okf at h3
  dsimp only at h3
  cases hr : gt_cl[ci]? with
  | none => rw [hr] at h3; cases h3
  | some r =>
    rw [hr] at h3
    obtain ⟨C, T, N⟩ := r
    simp only [Bool.and_eq_true, Bool.or_eq_true, decide_eq_true_eq, Bool.not_eq_true'] at h3
    obtain ⟨⟨⟨⟨⟨a1, a2⟩, a3⟩, a4⟩, a5⟩, a6⟩ := h3
    refine ⟨C, T, N, ref, rfl, a1, a2, a3, fun hf => ?_, gt_at_ok a5, ?_⟩
    · rcases a4 with a4 | a4
      · rw [hf] at a4; cases a4
      · exact a4
    · rcases a6 with a6 | a6
      · exact Or.inl a6
      · exact Or.inr (gt_at_ok a6)
theorem gt_okK (b0 mi : Nat) (E : Nat → Nat) : mx_okK (gt_P b0 mi E) gt_c gt_tbl := by
  have key : ∀ c i v, mx_tc (gt_P b0 mi E) c i = some v → ∃ o p, gt_okk c (i, o, p) = true ∧ o.getD (.ref mi) = v := by
    intro c i v h
    obtain ⟨⟨o, p⟩, h1, h2⟩ := Option.map_eq_some_iff.mp (show (gt_lu gt_k c i).map (fun e => e.1.getD (.ref mi)) = some v from h)
    exact ⟨o, p, gt_lu_ok h1 gt_okk_all, h2⟩
  refine ⟨fun c i x h => ?_, fun c i x h => ?_, fun c i a h => ?_⟩
  · obtain ⟨o, p, h1, h2⟩ := key c i _ h
    cases o with
    | none => cases h2
    | some v => simp at h2; subst h2; exact gt_at_ok h1
  · obtain ⟨o, p, h1, h2⟩ := key c i _ h
    cases o with
    | none => cases h2
    | some v => simp at h2; subst h2; exact gt_at_ok h1
  · obtain ⟨o, p, h1, h2⟩ := key c i _ h
    cases o with
    | none => exact gt_at_ok h1
    | some v => simp at h2; subst h2; cases h1
theorem gt_okN (b0 mi : Nat) (E : Nat → Nat) : mx_okN (gt_P b0 mi E) gt_c gt_cl gt_tbl := by
  intro c i ci fs h
  obtain ⟨⟨x, p1, p2, p3⟩, h1, h2⟩ := Option.map_eq_some_iff.mp (show (gt_lu gt_n c i).map (fun e => e.1) = some (ci, fs) from h)
  dsimp only at h2
  subst h2
  have h3 := gt_lu_ok h1 gt_okn_all
  unfold gt_okn at h3
  dsimp only at h3
  cases hr : gt_cl[ci]? with
  | none => rw [hr] at h3; cases h3
  | some r =>
    rw [hr] at h3
    obtain ⟨C, T, N⟩ := r
    simp only [Bool.and_eq_true, decide_eq_true_eq, List.all_eq_true, List.mem_range] at h3
    obtain ⟨⟨⟨⟨a1, a2⟩, a3⟩, a4⟩, a5⟩ := h3
    subst a1
    exact ⟨C, T, rfl, gt_at_ok a2, gt_at_ok a3, gt_at_ok a4, a5⟩
theorem gt_okA (b0 mi : Nat) (E : Nat → Nat) : mx_okA (gt_P b0 mi E) gt_c gt_tbl gt_ao := by
  intro c i t h
  obtain ⟨⟨x, C, p⟩, h1, h2⟩ := Option.map_eq_some_iff.mp (show (gt_lu gt_a c i).map (fun e => e.1) = some t from h)
  dsimp only at h2
  subst h2
  have h3 := gt_lu_ok h1 gt_oka_all
  simp only [gt_oka, Bool.and_eq_true, decide_eq_true_eq] at h3
  exact ⟨C, h3.1.1, gt_at_ok h3.1.2, h3.2⟩
theorem gt_okT (b0 mi : Nat) (E : Nat → Nat) : mx_okT (gt_P b0 mi E) gt_c gt_cl gt_tbl := by
  intro c i cs h
  obtain ⟨⟨x, C, p⟩, h1, h2⟩ := Option.map_eq_some_iff.mp (show (gt_lu gt_q c i).map (fun e => [e.1]) = some cs from h)
  dsimp only at h2
  subst h2
  have h3 := gt_lu_ok h1 gt_okq_all
  unfold gt_okq at h3
  simp only [Bool.and_eq_true] at h3
  refine ⟨C, gt_at_ok h3.1, fun ci hci => ?_⟩
  rw [List.mem_singleton.mp hci]
  cases hr : gt_cl[x]? with
  | none => rw [hr] at h3; simp at h3
  | some r =>
    rw [hr] at h3
    obtain ⟨C', T, N⟩ := r
    have e : C' = C := by simpa using h3.2
    subst e
    exact ⟨T, N, rfl⟩
set_option maxRecDepth 100000 in
theorem gt_okY (b0 mi : Nat) (E : Nat → Nat) : mx_okY (gt_P b0 mi E) gt_tbl := by
  refine ⟨rfl, rfl, rfl, rfl, rfl, fun t h1 h2 => ?_, fun a h => ?_⟩
  · have h2 : t < 6 := h2
    have : t = 4 ∨ t = 5 := by omega
    rcases this with rfl | rfl
    · exact ⟨_, rfl⟩
    · exact ⟨_, rfl⟩
  · rcases h with rfl | rfl | rfl | rfl
    · exact gt_at_ok (p := 173) (by decide +kernel)
    · exact gt_at_ok (p := 245) (by decide +kernel)
    · exact gt_at_ok (p := 497) (by decide +kernel)
    · exact gt_at_ok (p := 246) (by decide +kernel)
set_option maxRecDepth 100000 in
theorem gt_okG (b0 mi : Nat) (E : Nat → Nat) : mx_okG (gt_P b0 mi E) gt_cl gt_nst := by
  intro t c h
  have h : gt_tg t c = true := h
  simp only [gt_tg, Bool.or_eq_true, Bool.and_eq_true, mx_beq] at h
  rcases h with ⟨rfl, (rfl | rfl) | rfl⟩ | ⟨rfl, rfl⟩
  · exact ⟨_, _, rfl, rfl, Or.inl (gt_an_ok (p := 1465) (by decide +kernel))⟩
  · exact ⟨_, _, rfl, rfl, Or.inl (gt_an_ok (p := 1463) (by decide +kernel))⟩
  · exact ⟨_, _, rfl, rfl, Or.inl (gt_an_ok (p := 1464) (by decide +kernel))⟩
  · exact ⟨_, _, rfl, rfl, Or.inr rfl⟩
theorem gt_okW : mx_okW gt_tbl gt_nst := by
  refine ⟨fun w hw => (List.mem_filter.mp hw).2, fun w hw => ?_⟩
  have h := (List.mem_filter.mp hw).2
  cases w <;> first | exact Or.inl ⟨_, _, _, _, rfl⟩ | exact Or.inr ⟨_, _, rfl⟩ | (simp [gt_nw] at h)
theorem gt_okM (b0 mi : Nat) (E : Nat → Nat) : mx_okM (gt_P b0 mi E) gt_c gt_cl gt_tbl gt_nst := by
  intro c i k na M' h
  obtain ⟨⟨⟨k', na', q⟩, ps, host⟩, h1, h2⟩ := Option.map_eq_some_iff.mp (show (gt_lu gt_m c i).map (fun e => (e.1.1, e.1.2.1, gt_ms.getD e.1.2.2 mL_law)) = some (k, na, M') from h)
  dsimp only at h2
  obtain ⟨rfl, rfl, rfl⟩ : k' = k ∧ na' = na ∧ gt_ms.getD q mL_law = M' := by
    have e1 := Prod.mk.inj h2
    have e2 := Prod.mk.inj e1.2
    exact ⟨e1.1, e2.1, e2.2⟩
  have h3 := gt_okm_all h1
  unfold gt_okm at h3
  dsimp only at h3
  refine ⟨fun e => ?_, fun e => ?_, fun e => ?_, fun e => ?_, fun e => ?_, fun e => ?_, fun e => ?_, fun n3 n20 => ?_, fun e => ?_, fun e => ?_, fun e => ?_, fun e => ?_⟩
  · subst e
    rw [if_pos rfl] at h3
    simp only [Bool.and_eq_true] at h3
    exact ⟨gt_at_ok h3.1.1, gt_at_ok h3.1.2, gt_at_ok h3.2⟩
  · subst e
    rw [if_neg (by decide), if_pos rfl] at h3
    simp only [Bool.and_eq_true] at h3
    exact ⟨gt_at_ok h3.1.1.1, gt_at_ok h3.1.1.2, gt_at_ok h3.1.2, gt_at_ok h3.2⟩
  · subst e
    rw [if_neg (by decide), if_neg (by decide), if_pos rfl] at h3
    simp only [Bool.and_eq_true] at h3
    exact ⟨gt_at_ok h3.1.1.1, gt_at_ok h3.1.1.2, gt_at_ok h3.1.2, gt_at_ok h3.2⟩
  · subst e
    rw [if_neg (by decide), if_neg (by decide), if_neg (by decide), if_pos rfl] at h3
    simp only [Bool.and_eq_true] at h3
    exact ⟨gt_at_ok h3.1.1.1, gt_at_ok h3.1.1.2, gt_at_ok h3.1.2, gt_at_ok h3.2⟩
  · subst e
    rw [if_neg (by decide), if_neg (by decide), if_neg (by decide), if_neg (by decide), if_pos rfl] at h3
    simp only [Bool.and_eq_true] at h3
    exact ⟨gt_at_ok h3.1.1.1, gt_at_ok h3.1.1.2, gt_at_ok h3.1.2, gt_at_ok h3.2⟩
  · subst e
    rw [if_neg (by decide), if_neg (by decide), if_neg (by decide), if_neg (by decide), if_neg (by decide), if_pos rfl] at h3
    simp only [Bool.and_eq_true] at h3
    exact ⟨gt_at_ok h3.1.1.1, gt_at_ok h3.1.1.2, gt_at_ok h3.1.2, gt_at_ok h3.2⟩
  · subst e
    rw [if_neg (by decide), if_neg (by decide), if_neg (by decide), if_neg (by decide), if_neg (by decide), if_neg (by decide), if_pos rfl] at h3
    simp only [Bool.and_eq_true] at h3
    exact ⟨gt_at_ok h3.1.1.1, gt_at_ok h3.1.1.2, gt_at_ok h3.1.2, gt_at_ok h3.2⟩
  · rw [if_neg n3, if_neg (by omega), if_neg (by omega), if_neg (by omega), if_neg (by omega), if_neg (by omega), if_neg (by omega), Bool.and_eq_true] at h3
    have h4 := h3.1
    simp only [gt_okm0, Bool.and_eq_true, decide_eq_true_eq] at h4
    obtain ⟨⟨⟨⟨⟨⟨a1, a2⟩, a3⟩, a4⟩, a5⟩, a6⟩, a7⟩ := h4
    refine ⟨a1, gt_code _ ?_, gt_at_ok a3, ⟨a4, a5⟩, a6, a7⟩
    rw [List.getD_eq_getElem?_getD, List.getElem?_eq_getElem a2]
    exact List.getElem_mem a2
  · subst e
    rw [if_neg (by decide), if_neg (by decide), if_neg (by decide), if_neg (by decide), if_neg (by decide), if_neg (by decide), if_neg (by decide), if_pos rfl] at h3
    simp only [Bool.and_eq_true] at h3
    exact ⟨gt_at_ok h3.2.1.1, gt_at_ok h3.2.1.2, gt_at_ok h3.2.2⟩
  · subst e
    rw [if_neg (by decide), if_neg (by decide), if_neg (by decide), if_neg (by decide), if_neg (by decide), if_neg (by decide), if_neg (by decide), if_neg (by decide), if_pos rfl] at h3
    simp only [Bool.and_eq_true, decide_eq_true_eq] at h3
    exact ⟨gt_at_ok h3.2.1.1.1, gt_at_ok h3.2.1.1.2, h3.2.1.2, h3.2.2⟩
  · subst e
    rw [if_neg (by decide), if_neg (by decide), if_neg (by decide), if_neg (by decide), if_neg (by decide), if_neg (by decide), if_neg (by decide), if_neg (by decide), if_neg (by decide), if_pos rfl] at h3
    simp only [Bool.and_eq_true, decide_eq_true_eq] at h3
    exact ⟨⟨host, gt_an_ok h3.2.1.1.1⟩, gt_at_ok h3.2.1.1.2, h3.2.1.2, h3.2.2⟩
  · subst e
    rw [if_neg (by decide), if_neg (by decide), if_neg (by decide), if_neg (by decide), if_neg (by decide), if_neg (by decide), if_neg (by decide), if_neg (by decide), if_neg (by decide), if_neg (by decide), if_pos rfl] at h3
    simp only [Bool.and_eq_true] at h3
    exact ⟨gt_at_ok h3.2.1, gt_at_ok h3.2.2⟩
/-- THE PROGRAM'S TABLES SAY WHAT THE CLAIM'S WORDS SAY -/
theorem gt_ok (b0 mi : Nat) (E : Nat → Nat) : mx_ok (gt_P b0 mi E) gt_c gt_cl gt_tbl gt_nst gt_ao := ⟨gt_okW, gt_okC, gt_okF b0 mi E, gt_okK b0 mi E, gt_okN b0 mi E, gt_okA b0 mi E, gt_okY b0 mi E, gt_okG b0 mi E, gt_okT b0 mi E, gt_okM b0 mi E⟩
end
