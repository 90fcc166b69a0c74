section
-- ===== PART A: goes FIRST, ahead of the names: the tables' words, and 'selects' of the private methods out of them =====
/-- a private method of a class that the tables say can be made, by its rows of tables_1 -/
def lw_okq (q : MethodName × Nat) : Prop := (q.1.cls ≠ "java/lang/invoke/MethodHandle" ∧ q.1.cls ≠ "java/lang/invoke/VarHandle") ∧ Cond.instantiable q.1.cls q.2 ∈ tables_1 ∧ Cond.privateMethod q.1 ∈ tables_1 ∧ Cond.instanceMethod q.1 ∈ tables_1
theorem lw_p0 : lw_okq (⟨"LongTones$ScoreText", "readItem", "()Z"⟩, 6) := ⟨⟨by decide +kernel, by decide +kernel⟩, List.mem_of_getElem? (i := 107) (by decide +kernel), List.mem_of_getElem? (i := 254) (by decide +kernel), List.mem_of_getElem? (i := 255) (by decide +kernel)⟩
theorem lw_p1 : lw_okq (⟨"LongTones$ScoreText", "signAt", "(I)I"⟩, 6) := ⟨⟨by decide +kernel, by decide +kernel⟩, List.mem_of_getElem? (i := 107) (by decide +kernel), List.mem_of_getElem? (i := 258) (by decide +kernel), List.mem_of_getElem? (i := 259) (by decide +kernel)⟩
theorem lw_p2 : lw_okq (⟨"LongTones$ScoreText", "digitAt", "(I)I"⟩, 6) := ⟨⟨by decide +kernel, by decide +kernel⟩, List.mem_of_getElem? (i := 107) (by decide +kernel), List.mem_of_getElem? (i := 269) (by decide +kernel), List.mem_of_getElem? (i := 270) (by decide +kernel)⟩
theorem lw_p3 : lw_okq (⟨"LongTones$ScoreText", "readTimes", "()Z"⟩, 6) := ⟨⟨by decide +kernel, by decide +kernel⟩, List.mem_of_getElem? (i := 107) (by decide +kernel), List.mem_of_getElem? (i := 276) (by decide +kernel), List.mem_of_getElem? (i := 277) (by decide +kernel)⟩
theorem lw_p4 : lw_okq (⟨"LongTones$Past", "forgetOldest", "()V"⟩, 2) := ⟨⟨by decide +kernel, by decide +kernel⟩, List.mem_of_getElem? (i := 135) (by decide +kernel), List.mem_of_getElem? (i := 284) (by decide +kernel), List.mem_of_getElem? (i := 285) (by decide +kernel)⟩
theorem lw_p5 : lw_okq (⟨"LongTones$State", "moveSolo", "(II)V"⟩, 13) := ⟨⟨by decide +kernel, by decide +kernel⟩, List.mem_of_getElem? (i := 21) (by decide +kernel), List.mem_of_getElem? (i := 384) (by decide +kernel), List.mem_of_getElem? (i := 385) (by decide +kernel)⟩
theorem lw_p6 : lw_okq (⟨"LongTones$Turns", "chooseFor", "(LLongTones$State;I)I"⟩, 1) := ⟨⟨by decide +kernel, by decide +kernel⟩, List.mem_of_getElem? (i := 196) (by decide +kernel), List.mem_of_getElem? (i := 432) (by decide +kernel), List.mem_of_getElem? (i := 433) (by decide +kernel)⟩
theorem lw_p7 : lw_okq (⟨"LongTones$Turns", "neededFrom", "(LLongTones$State;I)I"⟩, 1) := ⟨⟨by decide +kernel, by decide +kernel⟩, List.mem_of_getElem? (i := 196) (by decide +kernel), List.mem_of_getElem? (i := 436) (by decide +kernel), List.mem_of_getElem? (i := 437) (by decide +kernel)⟩
theorem lw_p8 : lw_okq (⟨"LongTones$Turns", "shortestOfBreath", "(LLongTones$State;II)I"⟩, 1) := ⟨⟨by decide +kernel, by decide +kernel⟩, List.mem_of_getElem? (i := 196) (by decide +kernel), List.mem_of_getElem? (i := 443) (by decide +kernel), List.mem_of_getElem? (i := 444) (by decide +kernel)⟩
theorem lw_p9 : lw_okq (⟨"LongTones$Turns", "canBeSungWithout", "(LLongTones$State;II)Z"⟩, 1) := ⟨⟨by decide +kernel, by decide +kernel⟩, List.mem_of_getElem? (i := 196) (by decide +kernel), List.mem_of_getElem? (i := 450) (by decide +kernel), List.mem_of_getElem? (i := 451) (by decide +kernel)⟩
theorem lw_p10 : lw_okq (⟨"LongTones$Turns", "goThrough", "(LLongTones$State;I)V"⟩, 1) := ⟨⟨by decide +kernel, by decide +kernel⟩, List.mem_of_getElem? (i := 196) (by decide +kernel), List.mem_of_getElem? (i := 455) (by decide +kernel), List.mem_of_getElem? (i := 456) (by decide +kernel)⟩
theorem lw_p11 : lw_okq (⟨"LongTones$State", "hasToSing", "(II)Z"⟩, 13) := ⟨⟨by decide +kernel, by decide +kernel⟩, List.mem_of_getElem? (i := 21) (by decide +kernel), List.mem_of_getElem? (i := 463) (by decide +kernel), List.mem_of_getElem? (i := 464) (by decide +kernel)⟩
theorem lw_p12 : lw_okq (⟨"LongTones$Choir", "collect", "(III)V"⟩, 3) := ⟨⟨by decide +kernel, by decide +kernel⟩, List.mem_of_getElem? (i := 175) (by decide +kernel), List.mem_of_getElem? (i := 517) (by decide +kernel), List.mem_of_getElem? (i := 518) (by decide +kernel)⟩
theorem lw_p13 : lw_okq (⟨"LongTones", "performed", "(II)I"⟩, 7) := ⟨⟨by decide +kernel, by decide +kernel⟩, List.mem_of_getElem? (i := 13) (by decide +kernel), List.mem_of_getElem? (i := 523) (by decide +kernel), List.mem_of_getElem? (i := 524) (by decide +kernel)⟩
theorem lw_p14 : lw_okq (⟨"LongTones", "performedBy", "(I)I"⟩, 7) := ⟨⟨by decide +kernel, by decide +kernel⟩, List.mem_of_getElem? (i := 13) (by decide +kernel), List.mem_of_getElem? (i := 533) (by decide +kernel), List.mem_of_getElem? (i := 534) (by decide +kernel)⟩
theorem lw_p15 : lw_okq (⟨"LongTones$Choir", "faultsAt", "(LLongTones$State;II)I"⟩, 3) := ⟨⟨by decide +kernel, by decide +kernel⟩, List.mem_of_getElem? (i := 175) (by decide +kernel), List.mem_of_getElem? (i := 570) (by decide +kernel), List.mem_of_getElem? (i := 571) (by decide +kernel)⟩
def lw_privs_1 : List (MethodName × Nat) := [(⟨"LongTones$ScoreText", "readItem", "()Z"⟩, 6), (⟨"LongTones$ScoreText", "signAt", "(I)I"⟩, 6), (⟨"LongTones$ScoreText", "digitAt", "(I)I"⟩, 6), (⟨"LongTones$ScoreText", "readTimes", "()Z"⟩, 6), (⟨"LongTones$Past", "forgetOldest", "()V"⟩, 2), (⟨"LongTones$State", "moveSolo", "(II)V"⟩, 13), (⟨"LongTones$Turns", "chooseFor", "(LLongTones$State;I)I"⟩, 1), (⟨"LongTones$Turns", "neededFrom", "(LLongTones$State;I)I"⟩, 1), (⟨"LongTones$Turns", "shortestOfBreath", "(LLongTones$State;II)I"⟩, 1), (⟨"LongTones$Turns", "canBeSungWithout", "(LLongTones$State;II)Z"⟩, 1), (⟨"LongTones$Turns", "goThrough", "(LLongTones$State;I)V"⟩, 1), (⟨"LongTones$State", "hasToSing", "(II)Z"⟩, 13), (⟨"LongTones$Choir", "collect", "(III)V"⟩, 3), (⟨"LongTones", "performed", "(II)I"⟩, 7), (⟨"LongTones", "performedBy", "(I)I"⟩, 7), (⟨"LongTones$Choir", "faultsAt", "(LLongTones$State;II)I"⟩, 3)]
theorem lw_r1 : ∀ q ∈ lw_privs_1, lw_okq q := List.forall_mem_cons.mpr ⟨lw_p0, List.forall_mem_cons.mpr ⟨lw_p1, List.forall_mem_cons.mpr ⟨lw_p2, List.forall_mem_cons.mpr ⟨lw_p3, List.forall_mem_cons.mpr ⟨lw_p4, List.forall_mem_cons.mpr ⟨lw_p5, List.forall_mem_cons.mpr ⟨lw_p6, List.forall_mem_cons.mpr ⟨lw_p7, List.forall_mem_cons.mpr ⟨lw_p8, List.forall_mem_cons.mpr ⟨lw_p9, List.forall_mem_cons.mpr ⟨lw_p10, List.forall_mem_cons.mpr ⟨lw_p11, List.forall_mem_cons.mpr ⟨lw_p12, List.forall_mem_cons.mpr ⟨lw_p13, List.forall_mem_cons.mpr ⟨lw_p14, List.forall_mem_cons.mpr ⟨lw_p15, fun _ h => absurd h List.not_mem_nil⟩⟩⟩⟩⟩⟩⟩⟩⟩⟩⟩⟩⟩⟩⟩⟩
theorem lw_p16 : lw_okq (⟨"LongTones$Choir", "isThinInside", "(LLongTones$State;I)Z"⟩, 3) := ⟨⟨by decide +kernel, by decide +kernel⟩, List.mem_of_getElem? (i := 175) (by decide +kernel), List.mem_of_getElem? (i := 575) (by decide +kernel), List.mem_of_getElem? (i := 576) (by decide +kernel)⟩
theorem lw_p17 : lw_okq (⟨"LongTonesModel", "beats", "()I"⟩, 20) := ⟨⟨by decide +kernel, by decide +kernel⟩, List.mem_of_getElem? (i := 623) (by decide +kernel), List.mem_of_getElem? (i := 703) (by decide +kernel), List.mem_of_getElem? (i := 704) (by decide +kernel)⟩
theorem lw_p18 : lw_okq (⟨"LongTonesModel", "begin", "()V"⟩, 20) := ⟨⟨by decide +kernel, by decide +kernel⟩, List.mem_of_getElem? (i := 623) (by decide +kernel), List.mem_of_getElem? (i := 711) (by decide +kernel), List.mem_of_getElem? (i := 712) (by decide +kernel)⟩
theorem lw_p19 : lw_okq (⟨"LongTonesModel", "done", "(I)I"⟩, 20) := ⟨⟨by decide +kernel, by decide +kernel⟩, List.mem_of_getElem? (i := 623) (by decide +kernel), List.mem_of_getElem? (i := 715) (by decide +kernel), List.mem_of_getElem? (i := 716) (by decide +kernel)⟩
theorem lw_p20 : lw_okq (⟨"LongTonesModel", "readText", "()I"⟩, 20) := ⟨⟨by decide +kernel, by decide +kernel⟩, List.mem_of_getElem? (i := 623) (by decide +kernel), List.mem_of_getElem? (i := 731) (by decide +kernel), List.mem_of_getElem? (i := 732) (by decide +kernel)⟩
theorem lw_p21 : lw_okq (⟨"LongTonesModel", "isAt", "(CC)Z"⟩, 20) := ⟨⟨by decide +kernel, by decide +kernel⟩, List.mem_of_getElem? (i := 623) (by decide +kernel), List.mem_of_getElem? (i := 738) (by decide +kernel), List.mem_of_getElem? (i := 739) (by decide +kernel)⟩
theorem lw_p22 : lw_okq (⟨"LongTonesModel", "times", "()I"⟩, 20) := ⟨⟨by decide +kernel, by decide +kernel⟩, List.mem_of_getElem? (i := 623) (by decide +kernel), List.mem_of_getElem? (i := 742) (by decide +kernel), List.mem_of_getElem? (i := 743) (by decide +kernel)⟩
theorem lw_p23 : lw_okq (⟨"LongTonesModel", "clearMarks", "()V"⟩, 20) := ⟨⟨by decide +kernel, by decide +kernel⟩, List.mem_of_getElem? (i := 623) (by decide +kernel), List.mem_of_getElem? (i := 746) (by decide +kernel), List.mem_of_getElem? (i := 747) (by decide +kernel)⟩
theorem lw_p24 : lw_okq (⟨"LongTonesModel", "noBeat", "(I)Z"⟩, 20) := ⟨⟨by decide +kernel, by decide +kernel⟩, List.mem_of_getElem? (i := 623) (by decide +kernel), List.mem_of_getElem? (i := 754) (by decide +kernel), List.mem_of_getElem? (i := 755) (by decide +kernel)⟩
theorem lw_p25 : lw_okq (⟨"LongTonesModel", "isRest", "(I)Z"⟩, 20) := ⟨⟨by decide +kernel, by decide +kernel⟩, List.mem_of_getElem? (i := 623) (by decide +kernel), List.mem_of_getElem? (i := 758) (by decide +kernel), List.mem_of_getElem? (i := 759) (by decide +kernel)⟩
theorem lw_p26 : lw_okq (⟨"LongTonesModel", "singers", "()I"⟩, 20) := ⟨⟨by decide +kernel, by decide +kernel⟩, List.mem_of_getElem? (i := 623) (by decide +kernel), List.mem_of_getElem? (i := 770) (by decide +kernel), List.mem_of_getElem? (i := 771) (by decide +kernel)⟩
theorem lw_p27 : lw_okq (⟨"LongTonesModel", "noSinger", "(I)Z"⟩, 20) := ⟨⟨by decide +kernel, by decide +kernel⟩, List.mem_of_getElem? (i := 623) (by decide +kernel), List.mem_of_getElem? (i := 778) (by decide +kernel), List.mem_of_getElem? (i := 779) (by decide +kernel)⟩
theorem lw_p28 : lw_okq (⟨"LongTonesModel", "of", "(II)I"⟩, 20) := ⟨⟨by decide +kernel, by decide +kernel⟩, List.mem_of_getElem? (i := 623) (by decide +kernel), List.mem_of_getElem? (i := 782) (by decide +kernel), List.mem_of_getElem? (i := 783) (by decide +kernel)⟩
theorem lw_p29 : lw_okq (⟨"LongTonesModel", "presentOnes", "()I"⟩, 20) := ⟨⟨by decide +kernel, by decide +kernel⟩, List.mem_of_getElem? (i := 623) (by decide +kernel), List.mem_of_getElem? (i := 786) (by decide +kernel), List.mem_of_getElem? (i := 787) (by decide +kernel)⟩
theorem lw_p30 : lw_okq (⟨"LongTonesModel", "solos", "()I"⟩, 20) := ⟨⟨by decide +kernel, by decide +kernel⟩, List.mem_of_getElem? (i := 623) (by decide +kernel), List.mem_of_getElem? (i := 794) (by decide +kernel), List.mem_of_getElem? (i := 795) (by decide +kernel)⟩
theorem lw_p31 : lw_okq (⟨"LongTonesModel", "soloOf", "(II)I"⟩, 20) := ⟨⟨by decide +kernel, by decide +kernel⟩, List.mem_of_getElem? (i := 623) (by decide +kernel), List.mem_of_getElem? (i := 798) (by decide +kernel), List.mem_of_getElem? (i := 799) (by decide +kernel)⟩
def lw_privs_2 : List (MethodName × Nat) := [(⟨"LongTones$Choir", "isThinInside", "(LLongTones$State;I)Z"⟩, 3), (⟨"LongTonesModel", "beats", "()I"⟩, 20), (⟨"LongTonesModel", "begin", "()V"⟩, 20), (⟨"LongTonesModel", "done", "(I)I"⟩, 20), (⟨"LongTonesModel", "readText", "()I"⟩, 20), (⟨"LongTonesModel", "isAt", "(CC)Z"⟩, 20), (⟨"LongTonesModel", "times", "()I"⟩, 20), (⟨"LongTonesModel", "clearMarks", "()V"⟩, 20), (⟨"LongTonesModel", "noBeat", "(I)Z"⟩, 20), (⟨"LongTonesModel", "isRest", "(I)Z"⟩, 20), (⟨"LongTonesModel", "singers", "()I"⟩, 20), (⟨"LongTonesModel", "noSinger", "(I)Z"⟩, 20), (⟨"LongTonesModel", "of", "(II)I"⟩, 20), (⟨"LongTonesModel", "presentOnes", "()I"⟩, 20), (⟨"LongTonesModel", "solos", "()I"⟩, 20), (⟨"LongTonesModel", "soloOf", "(II)I"⟩, 20)]
theorem lw_r2 : ∀ q ∈ lw_privs_2, lw_okq q := List.forall_mem_cons.mpr ⟨lw_p16, List.forall_mem_cons.mpr ⟨lw_p17, List.forall_mem_cons.mpr ⟨lw_p18, List.forall_mem_cons.mpr ⟨lw_p19, List.forall_mem_cons.mpr ⟨lw_p20, List.forall_mem_cons.mpr ⟨lw_p21, List.forall_mem_cons.mpr ⟨lw_p22, List.forall_mem_cons.mpr ⟨lw_p23, List.forall_mem_cons.mpr ⟨lw_p24, List.forall_mem_cons.mpr ⟨lw_p25, List.forall_mem_cons.mpr ⟨lw_p26, List.forall_mem_cons.mpr ⟨lw_p27, List.forall_mem_cons.mpr ⟨lw_p28, List.forall_mem_cons.mpr ⟨lw_p29, List.forall_mem_cons.mpr ⟨lw_p30, List.forall_mem_cons.mpr ⟨lw_p31, fun _ h => absurd h List.not_mem_nil⟩⟩⟩⟩⟩⟩⟩⟩⟩⟩⟩⟩⟩⟩⟩⟩
theorem lw_p32 : lw_okq (⟨"LongTonesModel", "isMarked", "(II)Z"⟩, 20) := ⟨⟨by decide +kernel, by decide +kernel⟩, List.mem_of_getElem? (i := 623) (by decide +kernel), List.mem_of_getElem? (i := 810) (by decide +kernel), List.mem_of_getElem? (i := 811) (by decide +kernel)⟩
theorem lw_p33 : lw_okq (⟨"LongTonesModel", "setMark", "(II)V"⟩, 20) := ⟨⟨by decide +kernel, by decide +kernel⟩, List.mem_of_getElem? (i := 623) (by decide +kernel), List.mem_of_getElem? (i := 814) (by decide +kernel), List.mem_of_getElem? (i := 815) (by decide +kernel)⟩
theorem lw_p34 : lw_okq (⟨"LongTonesModel", "marksOf", "(I)I"⟩, 20) := ⟨⟨by decide +kernel, by decide +kernel⟩, List.mem_of_getElem? (i := 623) (by decide +kernel), List.mem_of_getElem? (i := 818) (by decide +kernel), List.mem_of_getElem? (i := 819) (by decide +kernel)⟩
theorem lw_p35 : lw_okq (⟨"LongTonesModel", "soloAt", "(I)I"⟩, 20) := ⟨⟨by decide +kernel, by decide +kernel⟩, List.mem_of_getElem? (i := 623) (by decide +kernel), List.mem_of_getElem? (i := 830) (by decide +kernel), List.mem_of_getElem? (i := 831) (by decide +kernel)⟩
theorem lw_p36 : lw_okq (⟨"LongTonesModel", "giveMarks", "(I)V"⟩, 20) := ⟨⟨by decide +kernel, by decide +kernel⟩, List.mem_of_getElem? (i := 623) (by decide +kernel), List.mem_of_getElem? (i := 834) (by decide +kernel), List.mem_of_getElem? (i := 835) (by decide +kernel)⟩
theorem lw_p37 : lw_okq (⟨"LongTonesModel", "nextToBreathe", "(I)I"⟩, 20) := ⟨⟨by decide +kernel, by decide +kernel⟩, List.mem_of_getElem? (i := 623) (by decide +kernel), List.mem_of_getElem? (i := 838) (by decide +kernel), List.mem_of_getElem? (i := 839) (by decide +kernel)⟩
theorem lw_p38 : lw_okq (⟨"LongTonesModel", "leftAhead", "(II)I"⟩, 20) := ⟨⟨by decide +kernel, by decide +kernel⟩, List.mem_of_getElem? (i := 623) (by decide +kernel), List.mem_of_getElem? (i := 842) (by decide +kernel), List.mem_of_getElem? (i := 843) (by decide +kernel)⟩
theorem lw_p39 : lw_okq (⟨"LongTonesModel", "reserveAt", "(I)I"⟩, 20) := ⟨⟨by decide +kernel, by decide +kernel⟩, List.mem_of_getElem? (i := 623) (by decide +kernel), List.mem_of_getElem? (i := 846) (by decide +kernel), List.mem_of_getElem? (i := 847) (by decide +kernel)⟩
theorem lw_p40 : lw_okq (⟨"LongTonesModel", "loud", "(I)I"⟩, 20) := ⟨⟨by decide +kernel, by decide +kernel⟩, List.mem_of_getElem? (i := 623) (by decide +kernel), List.mem_of_getElem? (i := 850) (by decide +kernel), List.mem_of_getElem? (i := 851) (by decide +kernel)⟩
theorem lw_p41 : lw_okq (⟨"LongTonesModel", "someoneSings", "(I)Z"⟩, 20) := ⟨⟨by decide +kernel, by decide +kernel⟩, List.mem_of_getElem? (i := 623) (by decide +kernel), List.mem_of_getElem? (i := 854) (by decide +kernel), List.mem_of_getElem? (i := 855) (by decide +kernel)⟩
theorem lw_p42 : lw_okq (⟨"LongTonesModel", "live", "(II)V"⟩, 20) := ⟨⟨by decide +kernel, by decide +kernel⟩, List.mem_of_getElem? (i := 623) (by decide +kernel), List.mem_of_getElem? (i := 858) (by decide +kernel), List.mem_of_getElem? (i := 859) (by decide +kernel)⟩
theorem lw_p43 : lw_okq (⟨"LongTonesModel", "hasTo", "(II)Z"⟩, 20) := ⟨⟨by decide +kernel, by decide +kernel⟩, List.mem_of_getElem? (i := 623) (by decide +kernel), List.mem_of_getElem? (i := 862) (by decide +kernel), List.mem_of_getElem? (i := 863) (by decide +kernel)⟩
theorem lw_p44 : lw_okq (⟨"LongTonesModel", "allMarks", "()I"⟩, 20) := ⟨⟨by decide +kernel, by decide +kernel⟩, List.mem_of_getElem? (i := 623) (by decide +kernel), List.mem_of_getElem? (i := 869) (by decide +kernel), List.mem_of_getElem? (i := 870) (by decide +kernel)⟩
theorem lw_p45 : lw_okq (⟨"LongTonesModel", "findFaults", "()V"⟩, 20) := ⟨⟨by decide +kernel, by decide +kernel⟩, List.mem_of_getElem? (i := 623) (by decide +kernel), List.mem_of_getElem? (i := 877) (by decide +kernel), List.mem_of_getElem? (i := 878) (by decide +kernel)⟩
theorem lw_p46 : lw_okq (⟨"LongTonesModel", "liveAll", "()V"⟩, 20) := ⟨⟨by decide +kernel, by decide +kernel⟩, List.mem_of_getElem? (i := 623) (by decide +kernel), List.mem_of_getElem? (i := 881) (by decide +kernel), List.mem_of_getElem? (i := 882) (by decide +kernel)⟩
theorem lw_p47 : lw_okq (⟨"LongTonesModel", "many", "(II)I"⟩, 20) := ⟨⟨by decide +kernel, by decide +kernel⟩, List.mem_of_getElem? (i := 623) (by decide +kernel), List.mem_of_getElem? (i := 885) (by decide +kernel), List.mem_of_getElem? (i := 886) (by decide +kernel)⟩
def lw_privs_3 : List (MethodName × Nat) := [(⟨"LongTonesModel", "isMarked", "(II)Z"⟩, 20), (⟨"LongTonesModel", "setMark", "(II)V"⟩, 20), (⟨"LongTonesModel", "marksOf", "(I)I"⟩, 20), (⟨"LongTonesModel", "soloAt", "(I)I"⟩, 20), (⟨"LongTonesModel", "giveMarks", "(I)V"⟩, 20), (⟨"LongTonesModel", "nextToBreathe", "(I)I"⟩, 20), (⟨"LongTonesModel", "leftAhead", "(II)I"⟩, 20), (⟨"LongTonesModel", "reserveAt", "(I)I"⟩, 20), (⟨"LongTonesModel", "loud", "(I)I"⟩, 20), (⟨"LongTonesModel", "someoneSings", "(I)Z"⟩, 20), (⟨"LongTonesModel", "live", "(II)V"⟩, 20), (⟨"LongTonesModel", "hasTo", "(II)Z"⟩, 20), (⟨"LongTonesModel", "allMarks", "()I"⟩, 20), (⟨"LongTonesModel", "findFaults", "()V"⟩, 20), (⟨"LongTonesModel", "liveAll", "()V"⟩, 20), (⟨"LongTonesModel", "many", "(II)I"⟩, 20)]
theorem lw_r3 : ∀ q ∈ lw_privs_3, lw_okq q := List.forall_mem_cons.mpr ⟨lw_p32, List.forall_mem_cons.mpr ⟨lw_p33, List.forall_mem_cons.mpr ⟨lw_p34, List.forall_mem_cons.mpr ⟨lw_p35, List.forall_mem_cons.mpr ⟨lw_p36, List.forall_mem_cons.mpr ⟨lw_p37, List.forall_mem_cons.mpr ⟨lw_p38, List.forall_mem_cons.mpr ⟨lw_p39, List.forall_mem_cons.mpr ⟨lw_p40, List.forall_mem_cons.mpr ⟨lw_p41, List.forall_mem_cons.mpr ⟨lw_p42, List.forall_mem_cons.mpr ⟨lw_p43, List.forall_mem_cons.mpr ⟨lw_p44, List.forall_mem_cons.mpr ⟨lw_p45, List.forall_mem_cons.mpr ⟨lw_p46, List.forall_mem_cons.mpr ⟨lw_p47, fun _ h => absurd h List.not_mem_nil⟩⟩⟩⟩⟩⟩⟩⟩⟩⟩⟩⟩⟩⟩⟩⟩
theorem lw_p48 : lw_okq (⟨"LongTonesModel", "doesAt", "(II)I"⟩, 20) := ⟨⟨by decide +kernel, by decide +kernel⟩, List.mem_of_getElem? (i := 623) (by decide +kernel), List.mem_of_getElem? (i := 889) (by decide +kernel), List.mem_of_getElem? (i := 890) (by decide +kernel)⟩
theorem lw_p49 : lw_okq (⟨"LongTonesModel", "addFault", "(III)V"⟩, 20) := ⟨⟨by decide +kernel, by decide +kernel⟩, List.mem_of_getElem? (i := 623) (by decide +kernel), List.mem_of_getElem? (i := 893) (by decide +kernel), List.mem_of_getElem? (i := 894) (by decide +kernel)⟩
theorem lw_p50 : lw_okq (⟨"LongTonesModel", "sortOfMark", "(II)I"⟩, 20) := ⟨⟨by decide +kernel, by decide +kernel⟩, List.mem_of_getElem? (i := 623) (by decide +kernel), List.mem_of_getElem? (i := 897) (by decide +kernel), List.mem_of_getElem? (i := 898) (by decide +kernel)⟩
theorem lw_p51 : lw_okq (⟨"LongTonesModel", "firstOf", "(I)I"⟩, 20) := ⟨⟨by decide +kernel, by decide +kernel⟩, List.mem_of_getElem? (i := 623) (by decide +kernel), List.mem_of_getElem? (i := 901) (by decide +kernel), List.mem_of_getElem? (i := 902) (by decide +kernel)⟩
theorem lw_p52 : lw_okq (⟨"LongTonesModel", "beatsOf", "(II)I"⟩, 20) := ⟨⟨by decide +kernel, by decide +kernel⟩, List.mem_of_getElem? (i := 623) (by decide +kernel), List.mem_of_getElem? (i := 913) (by decide +kernel), List.mem_of_getElem? (i := 914) (by decide +kernel)⟩
theorem lw_p53 : lw_okq (⟨"LongTonesModel", "faultsOf", "(I)I"⟩, 20) := ⟨⟨by decide +kernel, by decide +kernel⟩, List.mem_of_getElem? (i := 623) (by decide +kernel), List.mem_of_getElem? (i := 941) (by decide +kernel), List.mem_of_getElem? (i := 942) (by decide +kernel)⟩
def lw_privs_4 : List (MethodName × Nat) := [(⟨"LongTonesModel", "doesAt", "(II)I"⟩, 20), (⟨"LongTonesModel", "addFault", "(III)V"⟩, 20), (⟨"LongTonesModel", "sortOfMark", "(II)I"⟩, 20), (⟨"LongTonesModel", "firstOf", "(I)I"⟩, 20), (⟨"LongTonesModel", "beatsOf", "(II)I"⟩, 20), (⟨"LongTonesModel", "faultsOf", "(I)I"⟩, 20)]
theorem lw_r4 : ∀ q ∈ lw_privs_4, lw_okq q := List.forall_mem_cons.mpr ⟨lw_p48, List.forall_mem_cons.mpr ⟨lw_p49, List.forall_mem_cons.mpr ⟨lw_p50, List.forall_mem_cons.mpr ⟨lw_p51, List.forall_mem_cons.mpr ⟨lw_p52, List.forall_mem_cons.mpr ⟨lw_p53, fun _ h => absurd h List.not_mem_nil⟩⟩⟩⟩⟩⟩
def lw_privs : List (MethodName × Nat) := lw_privs_1 ++ (lw_privs_2 ++ (lw_privs_3 ++ (lw_privs_4)))
def lw_tbl : List Cond := k2_sels lw_privs ++ tables_1
theorem lw_privs_ok : ∀ q ∈ lw_privs, lw_okq q := by
  show ∀ q ∈ lw_privs_1 ++ (lw_privs_2 ++ (lw_privs_3 ++ (lw_privs_4))), lw_okq q
  exact List.forall_mem_append.mpr ⟨lw_r1, List.forall_mem_append.mpr ⟨lw_r2, List.forall_mem_append.mpr ⟨lw_r3, lw_r4⟩⟩⟩
-- ===== end of PART A; then your names; then what follows =====
end
section
/-! ===== BEGIN words of one list among another's, by their places ===== -/
theorem goodIn_r {big : List Cond} (ws : List Cond) (ps : List Nat) (hp : ws = ps.filterMap (fun i => big[i]?)) (h : ws.all goodWord = true) : GoodIn big ws := by
  intro w hw
  have h1 := List.all_eq_true.mp h w hw
  rw [hp] at hw
  obtain ⟨i, -, hi⟩ := List.mem_filterMap.mp hw
  have hm : w ∈ big := by first | exact List.mem_of_getElem? hi | exact List.getElem?_mem hi
  exact ⟨hm, good_of_word h1⟩
theorem goodIn_app {big a b : List Cond} (ha : GoodIn big a) (hb : GoodIn big b) : GoodIn big (a ++ b) := fun w h => (List.mem_append.mp h).elim (ha w) (hb w)
theorem goodIn_ca {big a b : List Cond} {c : Cond} (ha : GoodIn big (c :: a)) (hb : GoodIn big b) : GoodIn big (c :: (a ++ b)) := fun w h => (List.mem_cons.mp h).elim (fun e => ha w (List.mem_cons.mpr (Or.inl e))) (fun h => (List.mem_append.mp h).elim (fun h => ha w (List.mem_cons.mpr (Or.inr h))) (hb w))
theorem goodIn_sub {big ws : List Cond} (hm : ∀ w ∈ ws, w ∈ big) (h : ws.all goodWord = true) : GoodIn big ws := fun w hw => ⟨hm w hw, good_of_word (List.all_eq_true.mp h w hw)⟩
/-! ===== END ===== -/

/-! ===== BEGIN printed: names, fields, word lists, decode rows ===== -/
def RX0 : String := "LongTones$Choir"
def TX0 : u_T := fun k => match k with
  | 0 => ("LongTones$Choir", "singing", "LLongTones$Row;", true)
  | 1 => ("LongTones$Choir", "breathing", "LLongTones$Row;", true)
  | _ => ("LongTones$Choir", "gasping", "LLongTones$Row;", true)
def tyX0 : Nat → FieldType := fun k => match k with
  | 0 => .object "LongTones$Row"
  | 1 => .object "LongTones$Row"
  | _ => .object "LongTones$Row"
abbrev wsX00 : List Cond := u_ws RX0 TX0 3
theorem nmX0 : ∀ a, a < 3 → ∀ b, b < 3 → a ≠ b → (TX0 a).2.1 ≠ (TX0 b).2.1 := by decide +kernel
theorem tyX0_ok : ∀ k, k < 3 → parseFieldDescriptor (TX0 k).2.2.1 = some (tyX0 k) := by decide +kernel
abbrev cX0_init : ByteArray := prog_2_method_1_code
def yX0_init : MethodName := ⟨RX0, "<init>", "()V"⟩
abbrev cX0_follow : ByteArray := prog_2_method_2_code
def yX0_follow : MethodName := ⟨RX0, "follow", "(LLongTones$State;LLongTones$Voice;)V"⟩
abbrev cX0_collect : ByteArray := prog_2_method_3_code
def yX0_collect : MethodName := ⟨RX0, "collect", "(III)V"⟩
abbrev cX0_countSilentWithout : ByteArray := prog_2_method_4_code
def yX0_countSilentWithout : MethodName := ⟨RX0, "countSilentWithout", "(LLongTones$State;I)I"⟩
abbrev cX0_countFaults : ByteArray := prog_2_method_5_code
def yX0_countFaults : MethodName := ⟨RX0, "countFaults", "(LLongTones$State;II)I"⟩
abbrev cX0_tellFault : ByteArray := prog_2_method_6_code
def yX0_tellFault : MethodName := ⟨RX0, "tellFault", "(LLongTones$State;II)I"⟩
abbrev cX0_tellOne : ByteArray := prog_2_method_7_code
def yX0_tellOne : MethodName := ⟨RX0, "tellOne", "(IIII)I"⟩
abbrev cX0_faultsAt : ByteArray := prog_2_method_8_code
def yX0_faultsAt : MethodName := ⟨RX0, "faultsAt", "(LLongTones$State;II)I"⟩
abbrev cX0_isThinInside : ByteArray := prog_2_method_9_code
def yX0_isThinInside : MethodName := ⟨RX0, "isThinInside", "(LLongTones$State;I)Z"⟩
abbrev cX0_memberAt : ByteArray := prog_2_method_10_code
def yX0_memberAt : MethodName := ⟨RX0, "memberAt", "(II)I"⟩
def RX1 : String := "LongTones$Past"
def TX1 : u_T := fun k => match k with
  | 0 => ("LongTones$Past", "states", "[LLongTones$State;", true)
  | _ => ("LongTones$Past", "size", "I", false)
def tyX1 : Nat → FieldType := fun k => match k with
  | 0 => .array (.object "LongTones$State")
  | _ => .int
abbrev wsX10 : List Cond := u_ws RX1 TX1 2
theorem nmX1 : ∀ a, a < 2 → ∀ b, b < 2 → a ≠ b → (TX1 a).2.1 ≠ (TX1 b).2.1 := by decide +kernel
theorem tyX1_ok : ∀ k, k < 2 → parseFieldDescriptor (TX1 k).2.2.1 = some (tyX1 k) := by decide +kernel
abbrev cX1_init : ByteArray := prog_3_method_1_code
def yX1_init : MethodName := ⟨RX1, "<init>", "()V"⟩
abbrev cX1_record : ByteArray := prog_3_method_2_code
def yX1_record : MethodName := ⟨RX1, "record", "(LLongTones$State;)V"⟩
abbrev cX1_takeBack : ByteArray := prog_3_method_3_code
def yX1_takeBack : MethodName := ⟨RX1, "takeBack", "(LLongTones$State;)V"⟩
abbrev cX1_forgetOldest : ByteArray := prog_3_method_4_code
def yX1_forgetOldest : MethodName := ⟨RX1, "forgetOldest", "()V"⟩
def RX2 : String := "LongTones$Row"
def TX2 : u_T := fun k => match k with
  | _ => ("LongTones$Row", "cells", "[I", true)
def tyX2 : Nat → FieldType := fun k => match k with
  | _ => .array .int
abbrev wsX20 : List Cond := u_ws RX2 TX2 1
theorem nmX2 : ∀ a, a < 1 → ∀ b, b < 1 → a ≠ b → (TX2 a).2.1 ≠ (TX2 b).2.1 := by decide +kernel
theorem tyX2_ok : ∀ k, k < 1 → parseFieldDescriptor (TX2 k).2.2.1 = some (tyX2 k) := by decide +kernel
abbrev cX2_init : ByteArray := prog_4_method_1_code
def yX2_init : MethodName := ⟨RX2, "<init>", "(I)V"⟩
abbrev cX2_at : ByteArray := prog_4_method_2_code
def yX2_at : MethodName := ⟨RX2, "at", "(I)I"⟩
abbrev cX2_put : ByteArray := prog_4_method_3_code
def yX2_put : MethodName := ⟨RX2, "put", "(II)V"⟩
abbrev cX2_clear : ByteArray := prog_4_method_4_code
def yX2_clear : MethodName := ⟨RX2, "clear", "()V"⟩
abbrev cX2_copyFrom : ByteArray := prog_4_method_5_code
def yX2_copyFrom : MethodName := ⟨RX2, "copyFrom", "(LLongTones$Row;)V"⟩
def RX3 : String := "LongTones$ScoreText"
def TX3 : u_T := fun k => match k with
  | 0 => ("LongTones$ScoreText", "signs", "LLongTones$Row;", true)
  | 1 => ("LongTones$ScoreText", "length", "I", false)
  | 2 => ("LongTones$ScoreText", "at", "I", false)
  | 3 => ("LongTones$ScoreText", "sort", "I", false)
  | 4 => ("LongTones$ScoreText", "loudness", "I", false)
  | _ => ("LongTones$ScoreText", "times", "I", false)
def tyX3 : Nat → FieldType := fun k => match k with
  | 0 => .object "LongTones$Row"
  | 1 => .int
  | 2 => .int
  | 3 => .int
  | 4 => .int
  | _ => .int
abbrev wsX30 : List Cond := u_ws RX3 TX3 6
theorem nmX3 : ∀ a, a < 6 → ∀ b, b < 6 → a ≠ b → (TX3 a).2.1 ≠ (TX3 b).2.1 := by decide +kernel
theorem tyX3_ok : ∀ k, k < 6 → parseFieldDescriptor (TX3 k).2.2.1 = some (tyX3 k) := by decide +kernel
abbrev cX3_init : ByteArray := prog_5_method_1_code
def yX3_init : MethodName := ⟨RX3, "<init>", "()V"⟩
abbrev cX3_append : ByteArray := prog_5_method_2_code
def yX3_append : MethodName := ⟨RX3, "append", "(C)Z"⟩
abbrev cX3_findFault : ByteArray := prog_5_method_3_code
def yX3_findFault : MethodName := ⟨RX3, "findFault", "()I"⟩
abbrev cX3_writeTo : ByteArray := prog_5_method_4_code
def yX3_writeTo : MethodName := ⟨RX3, "writeTo", "(LLongTones$State;)V"⟩
abbrev cX3_readItem : ByteArray := prog_5_method_5_code
def yX3_readItem : MethodName := ⟨RX3, "readItem", "()Z"⟩
abbrev cX3_readTimes : ByteArray := prog_5_method_6_code
def yX3_readTimes : MethodName := ⟨RX3, "readTimes", "()Z"⟩
abbrev cX3_signAt : ByteArray := prog_5_method_7_code
def yX3_signAt : MethodName := ⟨RX3, "signAt", "(I)I"⟩
abbrev cX3_digitAt : ByteArray := prog_5_method_8_code
def yX3_digitAt : MethodName := ⟨RX3, "digitAt", "(I)I"⟩
abbrev cX3_sortOf : ByteArray := prog_5_method_9_code
def yX3_sortOf : MethodName := ⟨RX3, "sortOf", "(I)I"⟩
def RX4 : String := "LongTones$State"
def TX4 : u_T := fun k => match k with
  | 0 => ("LongTones$State", "beats", "I", false)
  | 1 => ("LongTones$State", "singers", "I", false)
  | 2 => ("LongTones$State", "present", "I", false)
  | 3 => ("LongTones$State", "solos", "I", false)
  | 4 => ("LongTones$State", "reserve", "I", false)
  | 5 => ("LongTones$State", "sorts", "LLongTones$Row;", true)
  | 6 => ("LongTones$State", "loudnesses", "LLongTones$Row;", true)
  | 7 => ("LongTones$State", "marks", "LLongTones$Row;", true)
  | 8 => ("LongTones$State", "breaths", "LLongTones$Row;", true)
  | 9 => ("LongTones$State", "recoveries", "LLongTones$Row;", true)
  | 10 => ("LongTones$State", "soloSingers", "LLongTones$Row;", true)
  | 11 => ("LongTones$State", "soloStarts", "LLongTones$Row;", true)
  | _ => ("LongTones$State", "soloEnds", "LLongTones$Row;", true)
def tyX4 : Nat → FieldType := fun k => match k with
  | 0 => .int
  | 1 => .int
  | 2 => .int
  | 3 => .int
  | 4 => .int
  | 5 => .object "LongTones$Row"
  | 6 => .object "LongTones$Row"
  | 7 => .object "LongTones$Row"
  | 8 => .object "LongTones$Row"
  | 9 => .object "LongTones$Row"
  | 10 => .object "LongTones$Row"
  | 11 => .object "LongTones$Row"
  | _ => .object "LongTones$Row"
abbrev wsX40 : List Cond := u_ws RX4 TX4 13
theorem nmX4 : ∀ a, a < 13 → ∀ b, b < 13 → a ≠ b → (TX4 a).2.1 ≠ (TX4 b).2.1 := by decide +kernel
theorem tyX4_ok : ∀ k, k < 13 → parseFieldDescriptor (TX4 k).2.2.1 = some (tyX4 k) := by decide +kernel
abbrev cX4_init : ByteArray := prog_6_method_1_code
def yX4_init : MethodName := ⟨RX4, "<init>", "()V"⟩
abbrev cX4_copyFrom : ByteArray := prog_6_method_2_code
def yX4_copyFrom : MethodName := ⟨RX4, "copyFrom", "(LLongTones$State;)V"⟩
abbrev cX4_hasBeat : ByteArray := prog_6_method_3_code
def yX4_hasBeat : MethodName := ⟨RX4, "hasBeat", "(I)Z"⟩
abbrev cX4_hasSinger : ByteArray := prog_6_method_4_code
def yX4_hasSinger : MethodName := ⟨RX4, "hasSinger", "(I)Z"⟩
abbrev cX4_hasSolo : ByteArray := prog_6_method_5_code
def yX4_hasSolo : MethodName := ⟨RX4, "hasSolo", "(I)Z"⟩
abbrev cX4_clearScore : ByteArray := prog_6_method_6_code
def yX4_clearScore : MethodName := ⟨RX4, "clearScore", "()V"⟩
abbrev cX4_appendBeats : ByteArray := prog_6_method_7_code
def yX4_appendBeats : MethodName := ⟨RX4, "appendBeats", "(III)V"⟩
abbrev cX4_isRest : ByteArray := prog_6_method_8_code
def yX4_isRest : MethodName := ⟨RX4, "isRest", "(I)Z"⟩
abbrev cX4_firstOfSyllable : ByteArray := prog_6_method_9_code
def yX4_firstOfSyllable : MethodName := ⟨RX4, "firstOfSyllable", "(I)I"⟩
abbrev cX4_countRests : ByteArray := prog_6_method_10_code
def yX4_countRests : MethodName := ⟨RX4, "countRests", "()I"⟩
abbrev cX4_countSyllables : ByteArray := prog_6_method_11_code
def yX4_countSyllables : MethodName := ⟨RX4, "countSyllables", "()I"⟩
abbrev cX4_longestSyllable : ByteArray := prog_6_method_12_code
def yX4_longestSyllable : MethodName := ⟨RX4, "longestSyllable", "()I"⟩
abbrev cX4_appendSinger : ByteArray := prog_6_method_13_code
def yX4_appendSinger : MethodName := ⟨RX4, "appendSinger", "(II)I"⟩
abbrev cX4_isPresent : ByteArray := prog_6_method_14_code
def yX4_isPresent : MethodName := ⟨RX4, "isPresent", "(I)Z"⟩
abbrev cX4_countPresent : ByteArray := prog_6_method_15_code
def yX4_countPresent : MethodName := ⟨RX4, "countPresent", "()I"⟩
abbrev cX4_soloAt : ByteArray := prog_6_method_16_code
def yX4_soloAt : MethodName := ⟨RX4, "soloAt", "(I)I"⟩
abbrev cX4_overlapsSolo : ByteArray := prog_6_method_17_code
def yX4_overlapsSolo : MethodName := ⟨RX4, "overlapsSolo", "(II)Z"⟩
abbrev cX4_insertSolo : ByteArray := prog_6_method_18_code
def yX4_insertSolo : MethodName := ⟨RX4, "insertSolo", "(III)I"⟩
abbrev cX4_dropSolo : ByteArray := prog_6_method_19_code
def yX4_dropSolo : MethodName := ⟨RX4, "dropSolo", "(I)V"⟩
abbrev cX4_moveSolo : ByteArray := prog_6_method_20_code
def yX4_moveSolo : MethodName := ⟨RX4, "moveSolo", "(II)V"⟩
abbrev cX4_isMarked : ByteArray := prog_6_method_21_code
def yX4_isMarked : MethodName := ⟨RX4, "isMarked", "(II)Z"⟩
abbrev cX4_countMarks : ByteArray := prog_6_method_22_code
def yX4_countMarks : MethodName := ⟨RX4, "countMarks", "()I"⟩
abbrev cX4_countMarksOf : ByteArray := prog_6_method_23_code
def yX4_countMarksOf : MethodName := ⟨RX4, "countMarksOf", "(I)I"⟩
abbrev cX4_hasToSing : ByteArray := prog_6_method_24_code
def yX4_hasToSing : MethodName := ⟨RX4, "hasToSing", "(II)Z"⟩
abbrev cX4_doing : ByteArray := prog_6_method_25_code
def yX4_doing : MethodName := ⟨RX4, "doing", "(III)I"⟩
def RX5 : String := "LongTones$Turns"
def TX5 : u_T := fun k => match k with
  | _ => ("LongTones$Turns", "lefts", "LLongTones$Row;", true)
def tyX5 : Nat → FieldType := fun k => match k with
  | _ => .object "LongTones$Row"
abbrev wsX50 : List Cond := u_ws RX5 TX5 1
theorem nmX5 : ∀ a, a < 1 → ∀ b, b < 1 → a ≠ b → (TX5 a).2.1 ≠ (TX5 b).2.1 := by decide +kernel
theorem tyX5_ok : ∀ k, k < 1 → parseFieldDescriptor (TX5 k).2.2.1 = some (tyX5 k) := by decide +kernel
abbrev cX5_init : ByteArray := prog_7_method_1_code
def yX5_init : MethodName := ⟨RX5, "<init>", "()V"⟩
abbrev cX5_makePlan : ByteArray := prog_7_method_2_code
def yX5_makePlan : MethodName := ⟨RX5, "makePlan", "(LLongTones$State;)V"⟩
abbrev cX5_chooseFor : ByteArray := prog_7_method_3_code
def yX5_chooseFor : MethodName := ⟨RX5, "chooseFor", "(LLongTones$State;I)I"⟩
abbrev cX5_neededFrom : ByteArray := prog_7_method_4_code
def yX5_neededFrom : MethodName := ⟨RX5, "neededFrom", "(LLongTones$State;I)I"⟩
abbrev cX5_shortestOfBreath : ByteArray := prog_7_method_5_code
def yX5_shortestOfBreath : MethodName := ⟨RX5, "shortestOfBreath", "(LLongTones$State;II)I"⟩
abbrev cX5_canBeSungWithout : ByteArray := prog_7_method_6_code
def yX5_canBeSungWithout : MethodName := ⟨RX5, "canBeSungWithout", "(LLongTones$State;II)Z"⟩
abbrev cX5_goThrough : ByteArray := prog_7_method_7_code
def yX5_goThrough : MethodName := ⟨RX5, "goThrough", "(LLongTones$State;I)V"⟩
def RX6 : String := "LongTones$Voice"
def TX6 : u_T := fun k => match k with
  | 0 => ("LongTones$Voice", "doings", "LLongTones$Row;", true)
  | 1 => ("LongTones$Voice", "lefts", "LLongTones$Row;", true)
  | 2 => ("LongTones$Voice", "beats", "I", false)
  | _ => ("LongTones$Voice", "wholeBreath", "I", false)
def tyX6 : Nat → FieldType := fun k => match k with
  | 0 => .object "LongTones$Row"
  | 1 => .object "LongTones$Row"
  | 2 => .int
  | _ => .int
abbrev wsX60 : List Cond := u_ws RX6 TX6 4
theorem nmX6 : ∀ a, a < 4 → ∀ b, b < 4 → a ≠ b → (TX6 a).2.1 ≠ (TX6 b).2.1 := by decide +kernel
theorem tyX6_ok : ∀ k, k < 4 → parseFieldDescriptor (TX6 k).2.2.1 = some (tyX6 k) := by decide +kernel
abbrev cX6_init : ByteArray := prog_8_method_1_code
def yX6_init : MethodName := ⟨RX6, "<init>", "()V"⟩
abbrev cX6_follow : ByteArray := prog_8_method_2_code
def yX6_follow : MethodName := ⟨RX6, "follow", "(LLongTones$State;II)V"⟩
abbrev cX6_countDoing : ByteArray := prog_8_method_3_code
def yX6_countDoing : MethodName := ⟨RX6, "countDoing", "(I)I"⟩
abbrev cX6_leastLeft : ByteArray := prog_8_method_4_code
def yX6_leastLeft : MethodName := ⟨RX6, "leastLeft", "()I"⟩
abbrev cX6_longestSung : ByteArray := prog_8_method_5_code
def yX6_longestSung : MethodName := ⟨RX6, "longestSung", "()I"⟩
def RX7 : String := "LongTones"
def TX7 : u_T := fun k => match k with
  | 0 => ("LongTones", "state", "LLongTones$State;", true)
  | 1 => ("LongTones", "text", "LLongTones$ScoreText;", true)
  | 2 => ("LongTones", "past", "LLongTones$Past;", true)
  | 3 => ("LongTones", "snapshots", "[LLongTones$State;", true)
  | 4 => ("LongTones", "voice", "LLongTones$Voice;", true)
  | 5 => ("LongTones", "choir", "LLongTones$Choir;", true)
  | _ => ("LongTones", "turns", "LLongTones$Turns;", true)
def tyX7 : Nat → FieldType := fun k => match k with
  | 0 => .object "LongTones$State"
  | 1 => .object "LongTones$ScoreText"
  | 2 => .object "LongTones$Past"
  | 3 => .array (.object "LongTones$State")
  | 4 => .object "LongTones$Voice"
  | 5 => .object "LongTones$Choir"
  | _ => .object "LongTones$Turns"
abbrev wsX70 : List Cond := u_ws RX7 TX7 7
theorem nmX7 : ∀ a, a < 7 → ∀ b, b < 7 → a ≠ b → (TX7 a).2.1 ≠ (TX7 b).2.1 := by decide +kernel
theorem tyX7_ok : ∀ k, k < 7 → parseFieldDescriptor (TX7 k).2.2.1 = some (tyX7 k) := by decide +kernel
abbrev cX7_init : ByteArray := prog_1_method_1_code
def yX7_init : MethodName := ⟨RX7, "<init>", "()V"⟩
abbrev cX7_type : ByteArray := prog_1_method_2_code
def yX7_type : MethodName := ⟨RX7, "type", "(C)I"⟩
abbrev cX7_clearText : ByteArray := prog_1_method_3_code
def yX7_clearText : MethodName := ⟨RX7, "clearText", "()I"⟩
abbrev cX7_read : ByteArray := prog_1_method_4_code
def yX7_read : MethodName := ⟨RX7, "read", "()I"⟩
abbrev cX7_setLoudness : ByteArray := prog_1_method_5_code
def yX7_setLoudness : MethodName := ⟨RX7, "setLoudness", "(III)I"⟩
abbrev cX7_setSort : ByteArray := prog_1_method_6_code
def yX7_setSort : MethodName := ⟨RX7, "setSort", "(II)I"⟩
abbrev cX7_addSinger : ByteArray := prog_1_method_7_code
def yX7_addSinger : MethodName := ⟨RX7, "addSinger", "(II)I"⟩
abbrev cX7_setPresent : ByteArray := prog_1_method_8_code
def yX7_setPresent : MethodName := ⟨RX7, "setPresent", "(IZ)I"⟩
abbrev cX7_addSolo : ByteArray := prog_1_method_9_code
def yX7_addSolo : MethodName := ⟨RX7, "addSolo", "(III)I"⟩
abbrev cX7_removeSolo : ByteArray := prog_1_method_10_code
def yX7_removeSolo : MethodName := ⟨RX7, "removeSolo", "(I)I"⟩
abbrev cX7_mark : ByteArray := prog_1_method_11_code
def yX7_mark : MethodName := ⟨RX7, "mark", "(IIZ)I"⟩
abbrev cX7_setReserve : ByteArray := prog_1_method_12_code
def yX7_setReserve : MethodName := ⟨RX7, "setReserve", "(I)I"⟩
abbrev cX7_make : ByteArray := prog_1_method_13_code
def yX7_make : MethodName := ⟨RX7, "make", "()I"⟩
abbrev cX7_undo : ByteArray := prog_1_method_14_code
def yX7_undo : MethodName := ⟨RX7, "undo", "()I"⟩
abbrev cX7_keep : ByteArray := prog_1_method_15_code
def yX7_keep : MethodName := ⟨RX7, "keep", "(I)I"⟩
abbrev cX7_restore : ByteArray := prog_1_method_16_code
def yX7_restore : MethodName := ⟨RX7, "restore", "(I)I"⟩
abbrev cX7_beat : ByteArray := prog_1_method_17_code
def yX7_beat : MethodName := ⟨RX7, "beat", "(II)I"⟩
abbrev cX7_singer : ByteArray := prog_1_method_18_code
def yX7_singer : MethodName := ⟨RX7, "singer", "(II)I"⟩
abbrev cX7_does : ByteArray := prog_1_method_19_code
def yX7_does : MethodName := ⟨RX7, "does", "(II)I"⟩
abbrev cX7_left : ByteArray := prog_1_method_20_code
def yX7_left : MethodName := ⟨RX7, "left", "(II)I"⟩
abbrev cX7_solo : ByteArray := prog_1_method_21_code
def yX7_solo : MethodName := ⟨RX7, "solo", "(II)I"⟩
abbrev cX7_fault : ByteArray := prog_1_method_22_code
def yX7_fault : MethodName := ⟨RX7, "fault", "(II)I"⟩
abbrev cX7_silentWithout : ByteArray := prog_1_method_23_code
def yX7_silentWithout : MethodName := ⟨RX7, "silentWithout", "(I)I"⟩
abbrev cX7_breathFor : ByteArray := prog_1_method_24_code
def yX7_breathFor : MethodName := ⟨RX7, "breathFor", "(I)I"⟩
abbrev cX7_count : ByteArray := prog_1_method_25_code
def yX7_count : MethodName := ⟨RX7, "count", "(I)I"⟩
abbrev cX7_performed : ByteArray := prog_1_method_26_code
def yX7_performed : MethodName := ⟨RX7, "performed", "(II)I"⟩
abbrev cX7_performedBy : ByteArray := prog_1_method_27_code
def yX7_performedBy : MethodName := ⟨RX7, "performedBy", "(I)I"⟩
abbrev cX7_isWithin : ByteArray := prog_1_method_28_code
def yX7_isWithin : MethodName := ⟨RX7, "isWithin", "(III)Z"⟩
abbrev cX7_bit : ByteArray := prog_1_method_29_code
def yX7_bit : MethodName := ⟨RX7, "bit", "(I)I"⟩
abbrev cX7_contains : ByteArray := prog_1_method_30_code
def yX7_contains : MethodName := ⟨RX7, "contains", "(II)Z"⟩
def RX8 : String := "LongTonesModel"
def TX8 : u_T := fun k => match k with
  | 0 => ("LongTonesModel", "row", "[I", true)
  | 1 => ("LongTonesModel", "scratch", "[I", true)
  | 2 => ("LongTonesModel", "history", "[I", true)
  | 3 => ("LongTonesModel", "kept", "I", false)
  | 4 => ("LongTonesModel", "slots", "[I", true)
  | 5 => ("LongTonesModel", "isKept", "[Z", true)
  | 6 => ("LongTonesModel", "typed", "I", false)
  | 7 => ("LongTonesModel", "text", "[C", true)
  | 8 => ("LongTonesModel", "place", "I", false)
  | 9 => ("LongTonesModel", "itemSort", "[I", true)
  | 10 => ("LongTonesModel", "itemLoud", "[I", true)
  | 11 => ("LongTonesModel", "itemMany", "[I", true)
  | 12 => ("LongTonesModel", "itemCount", "I", false)
  | 13 => ("LongTonesModel", "doing", "[I", true)
  | 14 => ("LongTonesModel", "leftAt", "[I", true)
  | 15 => ("LongTonesModel", "marks", "[Z", true)
  | 16 => ("LongTonesModel", "faults", "I", false)
  | 17 => ("LongTonesModel", "faultSort", "[I", true)
  | 18 => ("LongTonesModel", "faultBeat", "[I", true)
  | _ => ("LongTonesModel", "faultSinger", "[I", true)
def tyX8 : Nat → FieldType := fun k => match k with
  | 0 => .array .int
  | 1 => .array .int
  | 2 => .array .int
  | 3 => .int
  | 4 => .array .int
  | 5 => .array .boolean
  | 6 => .int
  | 7 => .array .char
  | 8 => .int
  | 9 => .array .int
  | 10 => .array .int
  | 11 => .array .int
  | 12 => .int
  | 13 => .array .int
  | 14 => .array .int
  | 15 => .array .boolean
  | 16 => .int
  | 17 => .array .int
  | 18 => .array .int
  | _ => .array .int
abbrev wsX80 : List Cond := u_ws RX8 TX8 20
theorem nmX8 : ∀ a, a < 20 → ∀ b, b < 20 → a ≠ b → (TX8 a).2.1 ≠ (TX8 b).2.1 := by decide +kernel
theorem tyX8_ok : ∀ k, k < 20 → parseFieldDescriptor (TX8 k).2.2.1 = some (tyX8 k) := by decide +kernel
abbrev cX8_init : ByteArray := prog_10_method_1_code
def yX8_init : MethodName := ⟨RX8, "<init>", "()V"⟩
abbrev cX8_in : ByteArray := prog_10_method_2_code
def yX8_in : MethodName := ⟨RX8, "in", "(III)Z"⟩
abbrev cX8_lesser : ByteArray := prog_10_method_3_code
def yX8_lesser : MethodName := ⟨RX8, "lesser", "(II)I"⟩
abbrev cX8_begin : ByteArray := prog_10_method_4_code
def yX8_begin : MethodName := ⟨RX8, "begin", "()V"⟩
abbrev cX8_done : ByteArray := prog_10_method_5_code
def yX8_done : MethodName := ⟨RX8, "done", "(I)I"⟩
abbrev cX8_undo : ByteArray := prog_10_method_6_code
def yX8_undo : MethodName := ⟨RX8, "undo", "()I"⟩
abbrev cX8_keep : ByteArray := prog_10_method_7_code
def yX8_keep : MethodName := ⟨RX8, "keep", "(I)I"⟩
abbrev cX8_restore : ByteArray := prog_10_method_8_code
def yX8_restore : MethodName := ⟨RX8, "restore", "(I)I"⟩
abbrev cX8_beats : ByteArray := prog_10_method_9_code
def yX8_beats : MethodName := ⟨RX8, "beats", "()I"⟩
abbrev cX8_singers : ByteArray := prog_10_method_10_code
def yX8_singers : MethodName := ⟨RX8, "singers", "()I"⟩
abbrev cX8_solos : ByteArray := prog_10_method_11_code
def yX8_solos : MethodName := ⟨RX8, "solos", "()I"⟩
abbrev cX8_noBeat : ByteArray := prog_10_method_12_code
def yX8_noBeat : MethodName := ⟨RX8, "noBeat", "(I)Z"⟩
abbrev cX8_noSinger : ByteArray := prog_10_method_13_code
def yX8_noSinger : MethodName := ⟨RX8, "noSinger", "(I)Z"⟩
abbrev cX8_isRest : ByteArray := prog_10_method_14_code
def yX8_isRest : MethodName := ⟨RX8, "isRest", "(I)Z"⟩
abbrev cX8_loud : ByteArray := prog_10_method_15_code
def yX8_loud : MethodName := ⟨RX8, "loud", "(I)I"⟩
abbrev cX8_of : ByteArray := prog_10_method_16_code
def yX8_of : MethodName := ⟨RX8, "of", "(II)I"⟩
abbrev cX8_soloOf : ByteArray := prog_10_method_17_code
def yX8_soloOf : MethodName := ⟨RX8, "soloOf", "(II)I"⟩
abbrev cX8_type : ByteArray := prog_10_method_18_code
def yX8_type : MethodName := ⟨RX8, "type", "(C)I"⟩
abbrev cX8_clearText : ByteArray := prog_10_method_19_code
def yX8_clearText : MethodName := ⟨RX8, "clearText", "()I"⟩
abbrev cX8_isAt : ByteArray := prog_10_method_20_code
def yX8_isAt : MethodName := ⟨RX8, "isAt", "(CC)Z"⟩
abbrev cX8_sortOf : ByteArray := prog_10_method_21_code
def yX8_sortOf : MethodName := ⟨RX8, "sortOf", "(C)I"⟩
abbrev cX8_times : ByteArray := prog_10_method_22_code
def yX8_times : MethodName := ⟨RX8, "times", "()I"⟩
abbrev cX8_readText : ByteArray := prog_10_method_23_code
def yX8_readText : MethodName := ⟨RX8, "readText", "()I"⟩
abbrev cX8_read : ByteArray := prog_10_method_24_code
def yX8_read : MethodName := ⟨RX8, "read", "()I"⟩
abbrev cX8_setLoudness : ByteArray := prog_10_method_25_code
def yX8_setLoudness : MethodName := ⟨RX8, "setLoudness", "(III)I"⟩
abbrev cX8_setSort : ByteArray := prog_10_method_26_code
def yX8_setSort : MethodName := ⟨RX8, "setSort", "(II)I"⟩
abbrev cX8_firstOf : ByteArray := prog_10_method_27_code
def yX8_firstOf : MethodName := ⟨RX8, "firstOf", "(I)I"⟩
abbrev cX8_addSinger : ByteArray := prog_10_method_28_code
def yX8_addSinger : MethodName := ⟨RX8, "addSinger", "(II)I"⟩
abbrev cX8_presentOnes : ByteArray := prog_10_method_29_code
def yX8_presentOnes : MethodName := ⟨RX8, "presentOnes", "()I"⟩
abbrev cX8_setPresent : ByteArray := prog_10_method_30_code
def yX8_setPresent : MethodName := ⟨RX8, "setPresent", "(IZ)I"⟩
abbrev cX8_addSolo : ByteArray := prog_10_method_31_code
def yX8_addSolo : MethodName := ⟨RX8, "addSolo", "(III)I"⟩
abbrev cX8_removeSolo : ByteArray := prog_10_method_32_code
def yX8_removeSolo : MethodName := ⟨RX8, "removeSolo", "(I)I"⟩
abbrev cX8_soloAt : ByteArray := prog_10_method_33_code
def yX8_soloAt : MethodName := ⟨RX8, "soloAt", "(I)I"⟩
abbrev cX8_isMarked : ByteArray := prog_10_method_34_code
def yX8_isMarked : MethodName := ⟨RX8, "isMarked", "(II)Z"⟩
abbrev cX8_setMark : ByteArray := prog_10_method_35_code
def yX8_setMark : MethodName := ⟨RX8, "setMark", "(II)V"⟩
abbrev cX8_clearMarks : ByteArray := prog_10_method_36_code
def yX8_clearMarks : MethodName := ⟨RX8, "clearMarks", "()V"⟩
abbrev cX8_marksOf : ByteArray := prog_10_method_37_code
def yX8_marksOf : MethodName := ⟨RX8, "marksOf", "(I)I"⟩
abbrev cX8_allMarks : ByteArray := prog_10_method_38_code
def yX8_allMarks : MethodName := ⟨RX8, "allMarks", "()I"⟩
abbrev cX8_mark : ByteArray := prog_10_method_39_code
def yX8_mark : MethodName := ⟨RX8, "mark", "(IIZ)I"⟩
abbrev cX8_setReserve : ByteArray := prog_10_method_40_code
def yX8_setReserve : MethodName := ⟨RX8, "setReserve", "(I)I"⟩
abbrev cX8_hasTo : ByteArray := prog_10_method_41_code
def yX8_hasTo : MethodName := ⟨RX8, "hasTo", "(II)Z"⟩
abbrev cX8_leftAhead : ByteArray := prog_10_method_42_code
def yX8_leftAhead : MethodName := ⟨RX8, "leftAhead", "(II)I"⟩
abbrev cX8_live : ByteArray := prog_10_method_43_code
def yX8_live : MethodName := ⟨RX8, "live", "(II)V"⟩
abbrev cX8_liveAll : ByteArray := prog_10_method_44_code
def yX8_liveAll : MethodName := ⟨RX8, "liveAll", "()V"⟩
abbrev cX8_doesAt : ByteArray := prog_10_method_45_code
def yX8_doesAt : MethodName := ⟨RX8, "doesAt", "(II)I"⟩
abbrev cX8_many : ByteArray := prog_10_method_46_code
def yX8_many : MethodName := ⟨RX8, "many", "(II)I"⟩
abbrev cX8_reserveAt : ByteArray := prog_10_method_47_code
def yX8_reserveAt : MethodName := ⟨RX8, "reserveAt", "(I)I"⟩
abbrev cX8_someoneSings : ByteArray := prog_10_method_48_code
def yX8_someoneSings : MethodName := ⟨RX8, "someoneSings", "(I)Z"⟩
abbrev cX8_nextToBreathe : ByteArray := prog_10_method_49_code
def yX8_nextToBreathe : MethodName := ⟨RX8, "nextToBreathe", "(I)I"⟩
abbrev cX8_giveMarks : ByteArray := prog_10_method_50_code
def yX8_giveMarks : MethodName := ⟨RX8, "giveMarks", "(I)V"⟩
abbrev cX8_make : ByteArray := prog_10_method_51_code
def yX8_make : MethodName := ⟨RX8, "make", "()I"⟩
abbrev cX8_addFault : ByteArray := prog_10_method_52_code
def yX8_addFault : MethodName := ⟨RX8, "addFault", "(III)V"⟩
abbrev cX8_sortOfMark : ByteArray := prog_10_method_53_code
def yX8_sortOfMark : MethodName := ⟨RX8, "sortOfMark", "(II)I"⟩
abbrev cX8_findFaults : ByteArray := prog_10_method_54_code
def yX8_findFaults : MethodName := ⟨RX8, "findFaults", "()V"⟩
abbrev cX8_faultsOf : ByteArray := prog_10_method_55_code
def yX8_faultsOf : MethodName := ⟨RX8, "faultsOf", "(I)I"⟩
abbrev cX8_fault : ByteArray := prog_10_method_56_code
def yX8_fault : MethodName := ⟨RX8, "fault", "(II)I"⟩
abbrev cX8_beat : ByteArray := prog_10_method_57_code
def yX8_beat : MethodName := ⟨RX8, "beat", "(II)I"⟩
abbrev cX8_beatsOf : ByteArray := prog_10_method_58_code
def yX8_beatsOf : MethodName := ⟨RX8, "beatsOf", "(II)I"⟩
abbrev cX8_singer : ByteArray := prog_10_method_59_code
def yX8_singer : MethodName := ⟨RX8, "singer", "(II)I"⟩
abbrev cX8_does : ByteArray := prog_10_method_60_code
def yX8_does : MethodName := ⟨RX8, "does", "(II)I"⟩
abbrev cX8_left : ByteArray := prog_10_method_61_code
def yX8_left : MethodName := ⟨RX8, "left", "(II)I"⟩
abbrev cX8_solo : ByteArray := prog_10_method_62_code
def yX8_solo : MethodName := ⟨RX8, "solo", "(II)I"⟩
abbrev cX8_silentWithout : ByteArray := prog_10_method_63_code
def yX8_silentWithout : MethodName := ⟨RX8, "silentWithout", "(I)I"⟩
abbrev cX8_breathFor : ByteArray := prog_10_method_64_code
def yX8_breathFor : MethodName := ⟨RX8, "breathFor", "(I)I"⟩
abbrev cX8_count : ByteArray := prog_10_method_65_code
def yX8_count : MethodName := ⟨RX8, "count", "(I)I"⟩
def RJ6 : String := "java/lang/Integer"
def TJ6 : u_T := fun k => match k with
  | _ => ("", "", "", false)
def tyJ6 : Nat → FieldType := fun k => match k with
  | _ => .int
abbrev wsJ60 : List Cond := u_ws RJ6 TJ6 0
theorem nmJ6 : ∀ a, a < 0 → ∀ b, b < 0 → a ≠ b → (TJ6 a).2.1 ≠ (TJ6 b).2.1 := by decide +kernel
theorem tyJ6_ok : ∀ k, k < 0 → parseFieldDescriptor (TJ6 k).2.2.1 = some (tyJ6 k) := by decide +kernel
abbrev cJ6_bitCount_0f7a4 : ByteArray := prog_11_method_49_code
def yJ6_bitCount_0f7a4 : MethodName := ⟨RJ6, "bitCount", "(I)I"⟩
def RJ9 : String := "java/lang/Math"
def TJ9 : u_T := fun k => match k with
  | _ => ("", "", "", false)
def tyJ9 : Nat → FieldType := fun k => match k with
  | _ => .int
abbrev wsJ90 : List Cond := u_ws RJ9 TJ9 0
theorem nmJ9 : ∀ a, a < 0 → ∀ b, b < 0 → a ≠ b → (TJ9 a).2.1 ≠ (TJ9 b).2.1 := by decide +kernel
theorem tyJ9_ok : ∀ k, k < 0 → parseFieldDescriptor (TJ9 k).2.2.1 = some (tyJ9 k) := by decide +kernel
abbrev cJ9_max_7cf53 : ByteArray := prog_12_method_65_code
def yJ9_max_7cf53 : MethodName := ⟨RJ9, "max", "(II)I"⟩
abbrev cJ9_min_7cf53 : ByteArray := prog_12_method_69_code
def yJ9_min_7cf53 : MethodName := ⟨RJ9, "min", "(II)I"⟩
def RL : String := "LongTonesLaw"
abbrev cL_law : ByteArray := code
def yL_law : MethodName := ⟨RL, "law", "([I)Z"⟩
def wsX2_init : List Cond := .code yX2_init cX2_init 2 none :: ([.methodLink RX2 1 objectInit, .instanceMethod objectInit, .code objectInit ⟨#[0xb1]⟩ 1 none, .methodLink RX2 7 Lib.Math.max.name, .static Lib.Math.max.name, .initialized "java/lang/Math", .code Lib.Math.max.name Lib.Math.max.code 2 (some .int), .arrayClass .int, .fieldLink RX2 13 "LongTones$Row" "cells" "[I"] ++ wsX20)
def wsX0_init : List Cond := .code yX0_init cX0_init 1 none :: ([.methodLink RX0 3 objectInit, .instanceMethod objectInit, .code objectInit ⟨#[0xb1]⟩ 1 none, .classLink RX0 9 RX2, .instantiable RX2 1, .initialized RX2, .fieldLink RX0 14 "LongTones$Choir" "singing" "LLongTones$Row;", .fieldLink RX0 20 "LongTones$Choir" "breathing" "LLongTones$Row;", .fieldLink RX0 23 "LongTones$Choir" "gasping" "LLongTones$Row;", .methodLink RX0 11 yX2_init, .instanceMethod yX2_init, .code yX2_init cX2_init 2 none, .methodLink RX2 1 objectInit, .methodLink RX2 7 Lib.Math.max.name, .static Lib.Math.max.name, .initialized "java/lang/Math", .code Lib.Math.max.name Lib.Math.max.code 2 (some .int), .arrayClass .int, .fieldLink RX2 13 "LongTones$Row" "cells" "[I"] ++ wsX20 ++ wsX00)
def wsX2_clear : List Cond := .code yX2_clear cX2_clear 2 none :: ([.fieldLink RX2 13 "LongTones$Row" "cells" "[I"] ++ wsX20)
def wsX2_at : List Cond := .code yX2_at cX2_at 2 (some .int) :: ([.fieldLink RX2 13 "LongTones$Row" "cells" "[I"] ++ wsX20)
def wsX4_isRest : List Cond := .code yX4_isRest cX4_isRest 2 (some .boolean) :: ([.fieldLink RX4 14 "LongTones$State" "sorts" "LLongTones$Row;", .methodLink RX4 68 yX2_at, .instanceMethod yX2_at, .selects RX2 yX2_at yX2_at, .initialized RX2, .code yX2_at cX2_at 2 (some .int), .fieldLink RX2 13 "LongTones$Row" "cells" "[I"] ++ wsX40 ++ wsX20)
def wsX7_contains : List Cond := .code yX7_contains cX7_contains 2 (some .boolean) :: ([])
def wsX4_isPresent : List Cond := .code yX4_isPresent cX4_isPresent 2 (some .boolean) :: ([.fieldLink RX4 51 "LongTones$State" "present" "I", .static yX7_contains, .initialized RX7, .code yX7_contains cX7_contains 2 (some .boolean)] ++ wsX40)
def wsX4_soloAt : List Cond := .code yX4_soloAt cX4_soloAt 3 (some .int) :: ([.fieldLink RX4 54 "LongTones$State" "solos" "I", .fieldLink RX4 35 "LongTones$State" "soloStarts" "LLongTones$Row;", .fieldLink RX4 38 "LongTones$State" "soloEnds" "LLongTones$Row;", .methodLink RX4 68 yX2_at, .instanceMethod yX2_at, .selects RX2 yX2_at yX2_at, .initialized RX2, .code yX2_at cX2_at 2 (some .int), .fieldLink RX2 13 "LongTones$Row" "cells" "[I"] ++ wsX40 ++ wsX20)
def wsX4_hasToSing_r1 : List Cond := [Cond.fieldLink RX4 32 "LongTones$State" "soloSingers" "LLongTones$Row;", Cond.methodLink RX4 72 yX4_isRest, Cond.instanceMethod yX4_isRest, Cond.selects RX4 yX4_isRest yX4_isRest, Cond.initialized RX4, Cond.code yX4_isRest cX4_isRest 2 (some .boolean), Cond.fieldLink RX4 14 "LongTones$State" "sorts" "LLongTones$Row;", Cond.methodLink RX4 68 yX2_at, Cond.instanceMethod yX2_at, Cond.selects RX2 yX2_at yX2_at, Cond.initialized RX2, Cond.code yX2_at cX2_at 2 (some .int), Cond.fieldLink RX2 13 "LongTones$Row" "cells" "[I", Cond.methodLink RX4 103 yX4_isPresent, Cond.instanceMethod yX4_isPresent, Cond.selects RX4 yX4_isPresent yX4_isPresent, Cond.code yX4_isPresent cX4_isPresent 2 (some .boolean), Cond.fieldLink RX4 51 "LongTones$State" "present" "I", Cond.static yX7_contains, Cond.initialized RX7, Cond.code yX7_contains cX7_contains 2 (some .boolean), Cond.methodLink RX4 106 yX4_soloAt, Cond.instanceMethod yX4_soloAt, Cond.selects RX4 yX4_soloAt yX4_soloAt]
def wsX4_hasToSing_r2 : List Cond := [Cond.code yX4_soloAt cX4_soloAt 3 (some .int), Cond.fieldLink RX4 54 "LongTones$State" "solos" "I", Cond.fieldLink RX4 35 "LongTones$State" "soloStarts" "LLongTones$Row;", Cond.fieldLink RX4 38 "LongTones$State" "soloEnds" "LLongTones$Row;"]
def wsX4_hasToSing : List Cond := .code yX4_hasToSing cX4_hasToSing 4 (some .boolean) :: ((wsX4_hasToSing_r1 ++ wsX4_hasToSing_r2) ++ wsX40 ++ wsX20)
def wsX4_isMarked : List Cond := .code yX4_isMarked cX4_isMarked 3 (some .boolean) :: ([.fieldLink RX4 23 "LongTones$State" "marks" "LLongTones$Row;", .methodLink RX4 68 yX2_at, .instanceMethod yX2_at, .selects RX2 yX2_at yX2_at, .initialized RX2, .code yX2_at cX2_at 2 (some .int), .fieldLink RX2 13 "LongTones$Row" "cells" "[I", .static yX7_contains, .initialized RX7, .code yX7_contains cX7_contains 2 (some .boolean)] ++ wsX40 ++ wsX20)
def wsX4_doing_r1 : List Cond := [Cond.fieldLink RX4 20 "LongTones$State" "loudnesses" "LLongTones$Row;", Cond.methodLink RX4 109 yX4_hasToSing, Cond.instanceMethod yX4_hasToSing, Cond.selects RX4 yX4_hasToSing yX4_hasToSing, Cond.initialized RX4, Cond.code yX4_hasToSing cX4_hasToSing 4 (some .boolean), Cond.fieldLink RX4 32 "LongTones$State" "soloSingers" "LLongTones$Row;", Cond.methodLink RX4 72 yX4_isRest, Cond.instanceMethod yX4_isRest, Cond.selects RX4 yX4_isRest yX4_isRest, Cond.code yX4_isRest cX4_isRest 2 (some .boolean), Cond.fieldLink RX4 14 "LongTones$State" "sorts" "LLongTones$Row;", Cond.methodLink RX4 68 yX2_at, Cond.instanceMethod yX2_at, Cond.selects RX2 yX2_at yX2_at, Cond.initialized RX2, Cond.code yX2_at cX2_at 2 (some .int), Cond.fieldLink RX2 13 "LongTones$Row" "cells" "[I", Cond.methodLink RX4 103 yX4_isPresent, Cond.instanceMethod yX4_isPresent, Cond.selects RX4 yX4_isPresent yX4_isPresent, Cond.code yX4_isPresent cX4_isPresent 2 (some .boolean), Cond.fieldLink RX4 51 "LongTones$State" "present" "I", Cond.static yX7_contains]
def wsX4_doing_r2 : List Cond := [Cond.initialized RX7, Cond.code yX7_contains cX7_contains 2 (some .boolean), Cond.methodLink RX4 106 yX4_soloAt, Cond.instanceMethod yX4_soloAt, Cond.selects RX4 yX4_soloAt yX4_soloAt, Cond.code yX4_soloAt cX4_soloAt 3 (some .int), Cond.fieldLink RX4 54 "LongTones$State" "solos" "I", Cond.fieldLink RX4 35 "LongTones$State" "soloStarts" "LLongTones$Row;", Cond.fieldLink RX4 38 "LongTones$State" "soloEnds" "LLongTones$Row;", Cond.methodLink RX4 100 yX4_isMarked, Cond.instanceMethod yX4_isMarked, Cond.selects RX4 yX4_isMarked yX4_isMarked, Cond.code yX4_isMarked cX4_isMarked 3 (some .boolean), Cond.fieldLink RX4 23 "LongTones$State" "marks" "LLongTones$Row;"]
def wsX4_doing : List Cond := .code yX4_doing cX4_doing 4 (some .int) :: ((wsX4_doing_r1 ++ wsX4_doing_r2) ++ wsX40 ++ wsX20)
def wsX2_put : List Cond := .code yX2_put cX2_put 3 none :: ([.fieldLink RX2 13 "LongTones$Row" "cells" "[I"] ++ wsX20)
def wsX6_follow_r1 : List Cond := [Cond.fieldLink RX6 23 "LongTones$State" "beats" "I", Cond.fieldLink RX6 29 "LongTones$Voice" "beats" "I", Cond.fieldLink RX6 30 "LongTones$Voice" "wholeBreath" "I", Cond.fieldLink RX6 33 "LongTones$State" "recoveries" "LLongTones$Row;", Cond.fieldLink RX6 44 "LongTones$State" "loudnesses" "LLongTones$Row;", Cond.methodLink RX6 47 Lib.Math.min.name, Cond.static Lib.Math.min.name, Cond.initialized "java/lang/Math", Cond.code Lib.Math.min.name Lib.Math.min.code 2 (some .int), Cond.fieldLink RX6 14 "LongTones$Voice" "doings" "LLongTones$Row;", Cond.fieldLink RX6 20 "LongTones$Voice" "lefts" "LLongTones$Row;", Cond.methodLink RX6 36 yX2_at, Cond.instanceMethod yX2_at, Cond.selects RX2 yX2_at yX2_at, Cond.initialized RX2, Cond.code yX2_at cX2_at 2 (some .int), Cond.fieldLink RX2 13 "LongTones$Row" "cells" "[I", Cond.methodLink RX6 40 yX4_doing, Cond.instanceMethod yX4_doing, Cond.selects RX4 yX4_doing yX4_doing, Cond.initialized RX4, Cond.code yX4_doing cX4_doing 4 (some .int), Cond.fieldLink RX4 20 "LongTones$State" "loudnesses" "LLongTones$Row;", Cond.methodLink RX4 109 yX4_hasToSing]
def wsX6_follow_r2 : List Cond := [Cond.instanceMethod yX4_hasToSing, Cond.selects RX4 yX4_hasToSing yX4_hasToSing, Cond.code yX4_hasToSing cX4_hasToSing 4 (some .boolean), Cond.fieldLink RX4 32 "LongTones$State" "soloSingers" "LLongTones$Row;", Cond.methodLink RX4 72 yX4_isRest, Cond.instanceMethod yX4_isRest, Cond.selects RX4 yX4_isRest yX4_isRest, Cond.code yX4_isRest cX4_isRest 2 (some .boolean), Cond.fieldLink RX4 14 "LongTones$State" "sorts" "LLongTones$Row;", Cond.methodLink RX4 68 yX2_at, Cond.methodLink RX4 103 yX4_isPresent, Cond.instanceMethod yX4_isPresent, Cond.selects RX4 yX4_isPresent yX4_isPresent, Cond.code yX4_isPresent cX4_isPresent 2 (some .boolean), Cond.fieldLink RX4 51 "LongTones$State" "present" "I", Cond.static yX7_contains, Cond.initialized RX7, Cond.code yX7_contains cX7_contains 2 (some .boolean), Cond.methodLink RX4 106 yX4_soloAt, Cond.instanceMethod yX4_soloAt, Cond.selects RX4 yX4_soloAt yX4_soloAt, Cond.code yX4_soloAt cX4_soloAt 3 (some .int), Cond.fieldLink RX4 54 "LongTones$State" "solos" "I", Cond.fieldLink RX4 35 "LongTones$State" "soloStarts" "LLongTones$Row;"]
def wsX6_follow_r3 : List Cond := [Cond.fieldLink RX4 38 "LongTones$State" "soloEnds" "LLongTones$Row;", Cond.methodLink RX4 100 yX4_isMarked, Cond.instanceMethod yX4_isMarked, Cond.selects RX4 yX4_isMarked yX4_isMarked, Cond.code yX4_isMarked cX4_isMarked 3 (some .boolean), Cond.fieldLink RX4 23 "LongTones$State" "marks" "LLongTones$Row;", Cond.methodLink RX6 53 yX2_put, Cond.instanceMethod yX2_put, Cond.selects RX2 yX2_put yX2_put, Cond.code yX2_put cX2_put 3 none]
def wsX6_follow : List Cond := .code yX6_follow cX6_follow 8 none :: ((wsX6_follow_r1 ++ (wsX6_follow_r2 ++ wsX6_follow_r3)) ++ wsX40 ++ wsX60 ++ wsX20)
def wsX7_bit : List Cond := .code yX7_bit cX7_bit 1 (some .int) :: ([])
def wsX0_collect : List Cond := .code yX0_collect cX0_collect 4 none :: ([.fieldLink RX0 14 "LongTones$Choir" "singing" "LLongTones$Row;", .fieldLink RX0 20 "LongTones$Choir" "breathing" "LLongTones$Row;", .fieldLink RX0 23 "LongTones$Choir" "gasping" "LLongTones$Row;", .methodLink RX0 38 yX2_at, .instanceMethod yX2_at, .selects RX2 yX2_at yX2_at, .initialized RX2, .code yX2_at cX2_at 2 (some .int), .fieldLink RX2 13 "LongTones$Row" "cells" "[I", .static yX7_bit, .initialized RX7, .code yX7_bit cX7_bit 1 (some .int), .methodLink RX0 61 yX2_put, .instanceMethod yX2_put, .selects RX2 yX2_put yX2_put, .code yX2_put cX2_put 3 none] ++ wsX00 ++ wsX20)
def wsX0_follow_r1 : List Cond := [Cond.fieldLink RX0 14 "LongTones$Choir" "singing" "LLongTones$Row;", Cond.fieldLink RX0 20 "LongTones$Choir" "breathing" "LLongTones$Row;", Cond.fieldLink RX0 23 "LongTones$Choir" "gasping" "LLongTones$Row;", Cond.fieldLink RX0 29 "LongTones$State" "singers" "I", Cond.fieldLink RX0 35 "LongTones$State" "breaths" "LLongTones$Row;", Cond.fieldLink RX0 48 "LongTones$State" "beats" "I", Cond.fieldLink RX0 51 "LongTones$Voice" "doings" "LLongTones$Row;", Cond.methodLink RX0 26 yX2_clear, Cond.instanceMethod yX2_clear, Cond.selects RX2 yX2_clear yX2_clear, Cond.initialized RX2, Cond.code yX2_clear cX2_clear 2 none, Cond.fieldLink RX2 13 "LongTones$Row" "cells" "[I", Cond.methodLink RX0 38 yX2_at, Cond.instanceMethod yX2_at, Cond.selects RX2 yX2_at yX2_at, Cond.code yX2_at cX2_at 2 (some .int), Cond.methodLink RX0 42 yX6_follow, Cond.instanceMethod yX6_follow, Cond.selects RX6 yX6_follow yX6_follow, Cond.initialized RX6, Cond.code yX6_follow cX6_follow 8 none, Cond.fieldLink RX6 23 "LongTones$State" "beats" "I", Cond.fieldLink RX6 29 "LongTones$Voice" "beats" "I"]
def wsX0_follow_r2 : List Cond := [Cond.fieldLink RX6 30 "LongTones$Voice" "wholeBreath" "I", Cond.fieldLink RX6 33 "LongTones$State" "recoveries" "LLongTones$Row;", Cond.fieldLink RX6 44 "LongTones$State" "loudnesses" "LLongTones$Row;", Cond.methodLink RX6 47 Lib.Math.min.name, Cond.static Lib.Math.min.name, Cond.initialized "java/lang/Math", Cond.code Lib.Math.min.name Lib.Math.min.code 2 (some .int), Cond.fieldLink RX6 14 "LongTones$Voice" "doings" "LLongTones$Row;", Cond.fieldLink RX6 20 "LongTones$Voice" "lefts" "LLongTones$Row;", Cond.methodLink RX6 36 yX2_at, Cond.methodLink RX6 40 yX4_doing, Cond.instanceMethod yX4_doing, Cond.selects RX4 yX4_doing yX4_doing, Cond.initialized RX4, Cond.code yX4_doing cX4_doing 4 (some .int), Cond.fieldLink RX4 20 "LongTones$State" "loudnesses" "LLongTones$Row;", Cond.methodLink RX4 109 yX4_hasToSing, Cond.instanceMethod yX4_hasToSing, Cond.selects RX4 yX4_hasToSing yX4_hasToSing, Cond.code yX4_hasToSing cX4_hasToSing 4 (some .boolean), Cond.fieldLink RX4 32 "LongTones$State" "soloSingers" "LLongTones$Row;", Cond.methodLink RX4 72 yX4_isRest, Cond.instanceMethod yX4_isRest, Cond.selects RX4 yX4_isRest yX4_isRest]
def wsX0_follow_r3 : List Cond := [Cond.code yX4_isRest cX4_isRest 2 (some .boolean), Cond.fieldLink RX4 14 "LongTones$State" "sorts" "LLongTones$Row;", Cond.methodLink RX4 68 yX2_at, Cond.methodLink RX4 103 yX4_isPresent, Cond.instanceMethod yX4_isPresent, Cond.selects RX4 yX4_isPresent yX4_isPresent, Cond.code yX4_isPresent cX4_isPresent 2 (some .boolean), Cond.fieldLink RX4 51 "LongTones$State" "present" "I", Cond.static yX7_contains, Cond.initialized RX7, Cond.code yX7_contains cX7_contains 2 (some .boolean), Cond.methodLink RX4 106 yX4_soloAt, Cond.instanceMethod yX4_soloAt, Cond.selects RX4 yX4_soloAt yX4_soloAt, Cond.code yX4_soloAt cX4_soloAt 3 (some .int), Cond.fieldLink RX4 54 "LongTones$State" "solos" "I", Cond.fieldLink RX4 35 "LongTones$State" "soloStarts" "LLongTones$Row;", Cond.fieldLink RX4 38 "LongTones$State" "soloEnds" "LLongTones$Row;", Cond.methodLink RX4 100 yX4_isMarked, Cond.instanceMethod yX4_isMarked, Cond.selects RX4 yX4_isMarked yX4_isMarked, Cond.code yX4_isMarked cX4_isMarked 3 (some .boolean), Cond.fieldLink RX4 23 "LongTones$State" "marks" "LLongTones$Row;", Cond.methodLink RX6 53 yX2_put]
def wsX0_follow_r4 : List Cond := [Cond.instanceMethod yX2_put, Cond.selects RX2 yX2_put yX2_put, Cond.code yX2_put cX2_put 3 none, Cond.methodLink RX0 54 yX0_collect, Cond.instanceMethod yX0_collect, Cond.selects RX0 yX0_collect yX0_collect, Cond.initialized RX0, Cond.code yX0_collect cX0_collect 4 none, Cond.static yX7_bit, Cond.code yX7_bit cX7_bit 1 (some .int), Cond.methodLink RX0 61 yX2_put]
def wsX0_follow : List Cond := .code yX0_follow cX0_follow 5 none :: ((wsX0_follow_r1 ++ (wsX0_follow_r2 ++ (wsX0_follow_r3 ++ wsX0_follow_r4))) ++ wsX00 ++ wsX40 ++ wsX60 ++ wsX20)
def wsX0_countSilentWithout : List Cond := .code yX0_countSilentWithout cX0_countSilentWithout 5 (some .int) :: ([.fieldLink RX0 48 "LongTones$State" "beats" "I", .fieldLink RX0 14 "LongTones$Choir" "singing" "LLongTones$Row;", .methodLink RX0 65 yX4_isRest, .instanceMethod yX4_isRest, .selects RX4 yX4_isRest yX4_isRest, .initialized RX4, .code yX4_isRest cX4_isRest 2 (some .boolean), .fieldLink RX4 14 "LongTones$State" "sorts" "LLongTones$Row;", .methodLink RX4 68 yX2_at, .instanceMethod yX2_at, .selects RX2 yX2_at yX2_at, .initialized RX2, .code yX2_at cX2_at 2 (some .int), .fieldLink RX2 13 "LongTones$Row" "cells" "[I", .methodLink RX0 38 yX2_at, .static yX7_bit, .initialized RX7, .code yX7_bit cX7_bit 1 (some .int)] ++ wsX40 ++ wsX00 ++ wsX20)
def wsX4_firstOfSyllable : List Cond := .code yX4_firstOfSyllable cX4_firstOfSyllable 3 (some .int) :: ([.fieldLink RX4 14 "LongTones$State" "sorts" "LLongTones$Row;", .methodLink RX4 72 yX4_isRest, .instanceMethod yX4_isRest, .selects RX4 yX4_isRest yX4_isRest, .initialized RX4, .code yX4_isRest cX4_isRest 2 (some .boolean), .methodLink RX4 68 yX2_at, .instanceMethod yX2_at, .selects RX2 yX2_at yX2_at, .initialized RX2, .code yX2_at cX2_at 2 (some .int), .fieldLink RX2 13 "LongTones$Row" "cells" "[I"] ++ wsX40 ++ wsX20)
def wsJ6_bitCount_0f7a4 : List Cond := .code yJ6_bitCount_0f7a4 cJ6_bitCount_0f7a4 1 (some .int) :: ([.constant RJ6 265 (1431655765), .constant RJ6 266 (858993459), .constant RJ6 267 (252645135)])
def wsX0_isThinInside_r1 : List Cond := [Cond.fieldLink RX0 14 "LongTones$Choir" "singing" "LLongTones$Row;", Cond.methodLink RX0 90 yX4_soloAt, Cond.instanceMethod yX4_soloAt, Cond.selects RX4 yX4_soloAt yX4_soloAt, Cond.initialized RX4, Cond.code yX4_soloAt cX4_soloAt 3 (some .int), Cond.fieldLink RX4 54 "LongTones$State" "solos" "I", Cond.fieldLink RX4 35 "LongTones$State" "soloStarts" "LLongTones$Row;", Cond.fieldLink RX4 38 "LongTones$State" "soloEnds" "LLongTones$Row;", Cond.methodLink RX4 68 yX2_at, Cond.instanceMethod yX2_at, Cond.selects RX2 yX2_at yX2_at, Cond.initialized RX2, Cond.code yX2_at cX2_at 2 (some .int), Cond.fieldLink RX2 13 "LongTones$Row" "cells" "[I", Cond.methodLink RX0 93 yX4_firstOfSyllable, Cond.instanceMethod yX4_firstOfSyllable, Cond.selects RX4 yX4_firstOfSyllable yX4_firstOfSyllable, Cond.code yX4_firstOfSyllable cX4_firstOfSyllable 3 (some .int), Cond.fieldLink RX4 14 "LongTones$State" "sorts" "LLongTones$Row;", Cond.methodLink RX4 72 yX4_isRest, Cond.instanceMethod yX4_isRest, Cond.selects RX4 yX4_isRest yX4_isRest, Cond.code yX4_isRest cX4_isRest 2 (some .boolean)]
def wsX0_isThinInside_r2 : List Cond := [Cond.methodLink RX0 38 yX2_at, Cond.methodLink RX0 73 yJ6_bitCount_0f7a4, Cond.static yJ6_bitCount_0f7a4, Cond.initialized RJ6, Cond.code yJ6_bitCount_0f7a4 cJ6_bitCount_0f7a4 1 (some .int), Cond.constant RJ6 265 (1431655765), Cond.constant RJ6 266 (858993459), Cond.constant RJ6 267 (252645135)]
def wsX0_isThinInside : List Cond := .code yX0_isThinInside cX0_isThinInside 3 (some .boolean) :: ((wsX0_isThinInside_r1 ++ wsX0_isThinInside_r2) ++ wsX00 ++ wsX40 ++ wsX20)
def wsX0_faultsAt_r1 : List Cond := [Cond.fieldLink RX0 14 "LongTones$Choir" "singing" "LLongTones$Row;", Cond.fieldLink RX0 23 "LongTones$Choir" "gasping" "LLongTones$Row;", Cond.fieldLink RX0 20 "LongTones$Choir" "breathing" "LLongTones$Row;", Cond.methodLink RX0 65 yX4_isRest, Cond.instanceMethod yX4_isRest, Cond.selects RX4 yX4_isRest yX4_isRest, Cond.initialized RX4, Cond.code yX4_isRest cX4_isRest 2 (some .boolean), Cond.fieldLink RX4 14 "LongTones$State" "sorts" "LLongTones$Row;", Cond.methodLink RX4 68 yX2_at, Cond.instanceMethod yX2_at, Cond.selects RX2 yX2_at yX2_at, Cond.initialized RX2, Cond.code yX2_at cX2_at 2 (some .int), Cond.fieldLink RX2 13 "LongTones$Row" "cells" "[I", Cond.methodLink RX0 38 yX2_at, Cond.methodLink RX0 86 yX0_isThinInside, Cond.instanceMethod yX0_isThinInside, Cond.selects RX0 yX0_isThinInside yX0_isThinInside, Cond.initialized RX0, Cond.code yX0_isThinInside cX0_isThinInside 3 (some .boolean), Cond.methodLink RX0 90 yX4_soloAt, Cond.instanceMethod yX4_soloAt, Cond.selects RX4 yX4_soloAt yX4_soloAt]
def wsX0_faultsAt_r2 : List Cond := [Cond.code yX4_soloAt cX4_soloAt 3 (some .int), Cond.fieldLink RX4 54 "LongTones$State" "solos" "I", Cond.fieldLink RX4 35 "LongTones$State" "soloStarts" "LLongTones$Row;", Cond.fieldLink RX4 38 "LongTones$State" "soloEnds" "LLongTones$Row;", Cond.methodLink RX0 93 yX4_firstOfSyllable, Cond.instanceMethod yX4_firstOfSyllable, Cond.selects RX4 yX4_firstOfSyllable yX4_firstOfSyllable, Cond.code yX4_firstOfSyllable cX4_firstOfSyllable 3 (some .int), Cond.methodLink RX4 72 yX4_isRest, Cond.methodLink RX0 73 yJ6_bitCount_0f7a4, Cond.static yJ6_bitCount_0f7a4, Cond.initialized RJ6, Cond.code yJ6_bitCount_0f7a4 cJ6_bitCount_0f7a4 1 (some .int), Cond.constant RJ6 265 (1431655765), Cond.constant RJ6 266 (858993459), Cond.constant RJ6 267 (252645135)]
def wsX0_faultsAt : List Cond := .code yX0_faultsAt cX0_faultsAt 4 (some .int) :: ((wsX0_faultsAt_r1 ++ wsX0_faultsAt_r2) ++ wsX00 ++ wsX40 ++ wsX20)
def wsX0_countFaults_r1 : List Cond := [Cond.fieldLink RX0 48 "LongTones$State" "beats" "I", Cond.methodLink RX0 69 yX0_faultsAt, Cond.instanceMethod yX0_faultsAt, Cond.selects RX0 yX0_faultsAt yX0_faultsAt, Cond.initialized RX0, Cond.code yX0_faultsAt cX0_faultsAt 4 (some .int), Cond.fieldLink RX0 14 "LongTones$Choir" "singing" "LLongTones$Row;", Cond.fieldLink RX0 23 "LongTones$Choir" "gasping" "LLongTones$Row;", Cond.fieldLink RX0 20 "LongTones$Choir" "breathing" "LLongTones$Row;", Cond.methodLink RX0 65 yX4_isRest, Cond.instanceMethod yX4_isRest, Cond.selects RX4 yX4_isRest yX4_isRest, Cond.initialized RX4, Cond.code yX4_isRest cX4_isRest 2 (some .boolean), Cond.fieldLink RX4 14 "LongTones$State" "sorts" "LLongTones$Row;", Cond.methodLink RX4 68 yX2_at, Cond.instanceMethod yX2_at, Cond.selects RX2 yX2_at yX2_at, Cond.initialized RX2, Cond.code yX2_at cX2_at 2 (some .int), Cond.fieldLink RX2 13 "LongTones$Row" "cells" "[I", Cond.methodLink RX0 38 yX2_at, Cond.methodLink RX0 86 yX0_isThinInside, Cond.instanceMethod yX0_isThinInside]
def wsX0_countFaults_r2 : List Cond := [Cond.selects RX0 yX0_isThinInside yX0_isThinInside, Cond.code yX0_isThinInside cX0_isThinInside 3 (some .boolean), Cond.methodLink RX0 90 yX4_soloAt, Cond.instanceMethod yX4_soloAt, Cond.selects RX4 yX4_soloAt yX4_soloAt, Cond.code yX4_soloAt cX4_soloAt 3 (some .int), Cond.fieldLink RX4 54 "LongTones$State" "solos" "I", Cond.fieldLink RX4 35 "LongTones$State" "soloStarts" "LLongTones$Row;", Cond.fieldLink RX4 38 "LongTones$State" "soloEnds" "LLongTones$Row;", Cond.methodLink RX0 93 yX4_firstOfSyllable, Cond.instanceMethod yX4_firstOfSyllable, Cond.selects RX4 yX4_firstOfSyllable yX4_firstOfSyllable, Cond.code yX4_firstOfSyllable cX4_firstOfSyllable 3 (some .int), Cond.methodLink RX4 72 yX4_isRest, Cond.methodLink RX0 73 yJ6_bitCount_0f7a4, Cond.static yJ6_bitCount_0f7a4, Cond.initialized RJ6, Cond.code yJ6_bitCount_0f7a4 cJ6_bitCount_0f7a4 1 (some .int), Cond.constant RJ6 265 (1431655765), Cond.constant RJ6 266 (858993459), Cond.constant RJ6 267 (252645135)]
def wsX0_countFaults : List Cond := .code yX0_countFaults cX0_countFaults 7 (some .int) :: ((wsX0_countFaults_r1 ++ wsX0_countFaults_r2) ++ wsX40 ++ wsX00 ++ wsX20)
def wsX0_memberAt : List Cond := .code yX0_memberAt cX0_memberAt 4 (some .int) :: ([.static yX7_contains, .initialized RX7, .code yX7_contains cX7_contains 2 (some .boolean)])
def wsX0_tellOne : List Cond := .code yX0_tellOne cX0_tellOne 4 (some .int) :: ([])
def wsX0_tellFault_r1 : List Cond := [Cond.fieldLink RX0 48 "LongTones$State" "beats" "I", Cond.methodLink RX0 69 yX0_faultsAt, Cond.instanceMethod yX0_faultsAt, Cond.selects RX0 yX0_faultsAt yX0_faultsAt, Cond.initialized RX0, Cond.code yX0_faultsAt cX0_faultsAt 4 (some .int), Cond.fieldLink RX0 14 "LongTones$Choir" "singing" "LLongTones$Row;", Cond.fieldLink RX0 23 "LongTones$Choir" "gasping" "LLongTones$Row;", Cond.fieldLink RX0 20 "LongTones$Choir" "breathing" "LLongTones$Row;", Cond.methodLink RX0 65 yX4_isRest, Cond.instanceMethod yX4_isRest, Cond.selects RX4 yX4_isRest yX4_isRest, Cond.initialized RX4, Cond.code yX4_isRest cX4_isRest 2 (some .boolean), Cond.fieldLink RX4 14 "LongTones$State" "sorts" "LLongTones$Row;", Cond.methodLink RX4 68 yX2_at, Cond.instanceMethod yX2_at, Cond.selects RX2 yX2_at yX2_at, Cond.initialized RX2, Cond.code yX2_at cX2_at 2 (some .int), Cond.fieldLink RX2 13 "LongTones$Row" "cells" "[I", Cond.methodLink RX0 38 yX2_at, Cond.methodLink RX0 86 yX0_isThinInside, Cond.instanceMethod yX0_isThinInside]
def wsX0_tellFault_r2 : List Cond := [Cond.selects RX0 yX0_isThinInside yX0_isThinInside, Cond.code yX0_isThinInside cX0_isThinInside 3 (some .boolean), Cond.methodLink RX0 90 yX4_soloAt, Cond.instanceMethod yX4_soloAt, Cond.selects RX4 yX4_soloAt yX4_soloAt, Cond.code yX4_soloAt cX4_soloAt 3 (some .int), Cond.fieldLink RX4 54 "LongTones$State" "solos" "I", Cond.fieldLink RX4 35 "LongTones$State" "soloStarts" "LLongTones$Row;", Cond.fieldLink RX4 38 "LongTones$State" "soloEnds" "LLongTones$Row;", Cond.methodLink RX0 93 yX4_firstOfSyllable, Cond.instanceMethod yX4_firstOfSyllable, Cond.selects RX4 yX4_firstOfSyllable yX4_firstOfSyllable, Cond.code yX4_firstOfSyllable cX4_firstOfSyllable 3 (some .int), Cond.methodLink RX4 72 yX4_isRest, Cond.methodLink RX0 73 yJ6_bitCount_0f7a4, Cond.static yJ6_bitCount_0f7a4, Cond.initialized RJ6, Cond.code yJ6_bitCount_0f7a4 cJ6_bitCount_0f7a4 1 (some .int), Cond.constant RJ6 265 (1431655765), Cond.constant RJ6 266 (858993459), Cond.constant RJ6 267 (252645135), Cond.methodLink RX0 78 yX0_memberAt, Cond.static yX0_memberAt, Cond.code yX0_memberAt cX0_memberAt 4 (some .int)]
def wsX0_tellFault_r3 : List Cond := [Cond.static yX7_contains, Cond.initialized RX7, Cond.code yX7_contains cX7_contains 2 (some .boolean), Cond.methodLink RX0 82 yX0_tellOne, Cond.static yX0_tellOne, Cond.code yX0_tellOne cX0_tellOne 4 (some .int)]
def wsX0_tellFault : List Cond := .code yX0_tellFault cX0_tellFault 9 (some .int) :: ((wsX0_tellFault_r1 ++ (wsX0_tellFault_r2 ++ wsX0_tellFault_r3)) ++ wsX40 ++ wsX00 ++ wsX20)
def wsX1_init : List Cond := .code yX1_init cX1_init 1 none :: ([.methodLink RX1 3 objectInit, .instanceMethod objectInit, .code objectInit ⟨#[0xb1]⟩ 1 none, .classLink RX1 9 RX4, .fieldLink RX1 11 "LongTones$Past" "states" "[LLongTones$State;"] ++ wsX10)
def wsX1_forgetOldest : List Cond := .code yX1_forgetOldest cX1_forgetOldest 3 none :: ([.fieldLink RX1 11 "LongTones$Past" "states" "[LLongTones$State;", .fieldLink RX1 17 "LongTones$Past" "size" "I"] ++ wsX10)
def wsX4_init_r1 : List Cond := [Cond.methodLink RX4 3 objectInit, Cond.instanceMethod objectInit, Cond.code objectInit ⟨#[0xb1]⟩ 1 none, Cond.classLink RX4 9 RX2, Cond.instantiable RX2 1, Cond.initialized RX2, Cond.fieldLink RX4 14 "LongTones$State" "sorts" "LLongTones$Row;", Cond.fieldLink RX4 20 "LongTones$State" "loudnesses" "LLongTones$Row;", Cond.fieldLink RX4 23 "LongTones$State" "marks" "LLongTones$Row;", Cond.fieldLink RX4 26 "LongTones$State" "breaths" "LLongTones$Row;", Cond.fieldLink RX4 29 "LongTones$State" "recoveries" "LLongTones$Row;", Cond.fieldLink RX4 32 "LongTones$State" "soloSingers" "LLongTones$Row;", Cond.fieldLink RX4 35 "LongTones$State" "soloStarts" "LLongTones$Row;", Cond.fieldLink RX4 38 "LongTones$State" "soloEnds" "LLongTones$Row;", Cond.fieldLink RX4 41 "LongTones$State" "reserve" "I", Cond.methodLink RX4 11 yX2_init, Cond.instanceMethod yX2_init, Cond.code yX2_init cX2_init 2 none, Cond.methodLink RX2 1 objectInit, Cond.methodLink RX2 7 Lib.Math.max.name, Cond.static Lib.Math.max.name, Cond.initialized "java/lang/Math", Cond.code Lib.Math.max.name Lib.Math.max.code 2 (some .int), Cond.arrayClass .int]
def wsX4_init_r2 : List Cond := [Cond.fieldLink RX2 13 "LongTones$Row" "cells" "[I"]
def wsX4_init : List Cond := .code yX4_init cX4_init 1 none :: ((wsX4_init_r1 ++ wsX4_init_r2) ++ wsX20 ++ wsX40)
def wsX2_copyFrom : List Cond := .code yX2_copyFrom cX2_copyFrom 3 none :: ([.fieldLink RX2 13 "LongTones$Row" "cells" "[I", .methodLink RX2 19 yX2_at, .instanceMethod yX2_at, .selects RX2 yX2_at yX2_at, .initialized RX2, .code yX2_at cX2_at 2 (some .int)] ++ wsX20)
def wsX4_copyFrom : List Cond := .code yX4_copyFrom cX4_copyFrom 2 none :: ([.fieldLink RX4 45 "LongTones$State" "beats" "I", .fieldLink RX4 48 "LongTones$State" "singers" "I", .fieldLink RX4 51 "LongTones$State" "present" "I", .fieldLink RX4 54 "LongTones$State" "solos" "I", .fieldLink RX4 41 "LongTones$State" "reserve" "I", .fieldLink RX4 14 "LongTones$State" "sorts" "LLongTones$Row;", .fieldLink RX4 20 "LongTones$State" "loudnesses" "LLongTones$Row;", .fieldLink RX4 23 "LongTones$State" "marks" "LLongTones$Row;", .fieldLink RX4 26 "LongTones$State" "breaths" "LLongTones$Row;", .fieldLink RX4 29 "LongTones$State" "recoveries" "LLongTones$Row;", .fieldLink RX4 32 "LongTones$State" "soloSingers" "LLongTones$Row;", .fieldLink RX4 35 "LongTones$State" "soloStarts" "LLongTones$Row;", .fieldLink RX4 38 "LongTones$State" "soloEnds" "LLongTones$Row;", .methodLink RX4 57 yX2_copyFrom, .instanceMethod yX2_copyFrom, .selects RX2 yX2_copyFrom yX2_copyFrom, .initialized RX2, .code yX2_copyFrom cX2_copyFrom 3 none, .fieldLink RX2 13 "LongTones$Row" "cells" "[I", .methodLink RX2 19 yX2_at, .instanceMethod yX2_at, .selects RX2 yX2_at yX2_at, .code yX2_at cX2_at 2 (some .int)] ++ wsX40 ++ wsX20)
def wsX1_record_r1 : List Cond := [Cond.fieldLink RX1 17 "LongTones$Past" "size" "I", Cond.fieldLink RX1 11 "LongTones$Past" "states" "[LLongTones$State;", Cond.classLink RX1 9 RX4, Cond.instantiable RX4 13, Cond.initialized RX4, Cond.methodLink RX1 21 yX1_forgetOldest, Cond.instanceMethod yX1_forgetOldest, Cond.selects RX1 yX1_forgetOldest yX1_forgetOldest, Cond.initialized RX1, Cond.code yX1_forgetOldest cX1_forgetOldest 3 none, Cond.methodLink RX1 24 yX4_init, Cond.instanceMethod yX4_init, Cond.code yX4_init cX4_init 1 none, Cond.methodLink RX4 3 objectInit, Cond.instanceMethod objectInit, Cond.code objectInit ⟨#[0xb1]⟩ 1 none, Cond.classLink RX4 9 RX2, Cond.instantiable RX2 1, Cond.initialized RX2, Cond.fieldLink RX4 14 "LongTones$State" "sorts" "LLongTones$Row;", Cond.fieldLink RX4 20 "LongTones$State" "loudnesses" "LLongTones$Row;", Cond.fieldLink RX4 23 "LongTones$State" "marks" "LLongTones$Row;", Cond.fieldLink RX4 26 "LongTones$State" "breaths" "LLongTones$Row;", Cond.fieldLink RX4 29 "LongTones$State" "recoveries" "LLongTones$Row;"]
def wsX1_record_r2 : List Cond := [Cond.fieldLink RX4 32 "LongTones$State" "soloSingers" "LLongTones$Row;", Cond.fieldLink RX4 35 "LongTones$State" "soloStarts" "LLongTones$Row;", Cond.fieldLink RX4 38 "LongTones$State" "soloEnds" "LLongTones$Row;", Cond.fieldLink RX4 41 "LongTones$State" "reserve" "I", Cond.methodLink RX4 11 yX2_init, Cond.instanceMethod yX2_init, Cond.code yX2_init cX2_init 2 none, Cond.methodLink RX2 1 objectInit, Cond.methodLink RX2 7 Lib.Math.max.name, Cond.static Lib.Math.max.name, Cond.initialized "java/lang/Math", Cond.code Lib.Math.max.name Lib.Math.max.code 2 (some .int), Cond.arrayClass .int, Cond.fieldLink RX2 13 "LongTones$Row" "cells" "[I", Cond.methodLink RX1 25 yX4_copyFrom, Cond.instanceMethod yX4_copyFrom, Cond.selects RX4 yX4_copyFrom yX4_copyFrom, Cond.code yX4_copyFrom cX4_copyFrom 2 none, Cond.fieldLink RX4 45 "LongTones$State" "beats" "I", Cond.fieldLink RX4 48 "LongTones$State" "singers" "I", Cond.fieldLink RX4 51 "LongTones$State" "present" "I", Cond.fieldLink RX4 54 "LongTones$State" "solos" "I", Cond.methodLink RX4 57 yX2_copyFrom, Cond.instanceMethod yX2_copyFrom]
def wsX1_record_r3 : List Cond := [Cond.selects RX2 yX2_copyFrom yX2_copyFrom, Cond.code yX2_copyFrom cX2_copyFrom 3 none, Cond.methodLink RX2 19 yX2_at, Cond.instanceMethod yX2_at, Cond.selects RX2 yX2_at yX2_at, Cond.code yX2_at cX2_at 2 (some .int)]
def wsX1_record : List Cond := .code yX1_record cX1_record 3 none :: ((wsX1_record_r1 ++ (wsX1_record_r2 ++ wsX1_record_r3)) ++ wsX10 ++ wsX40 ++ wsX20)
def wsX1_takeBack_r1 : List Cond := [Cond.fieldLink RX1 17 "LongTones$Past" "size" "I", Cond.fieldLink RX1 11 "LongTones$Past" "states" "[LLongTones$State;", Cond.methodLink RX1 25 yX4_copyFrom, Cond.instanceMethod yX4_copyFrom, Cond.selects RX4 yX4_copyFrom yX4_copyFrom, Cond.initialized RX4, Cond.code yX4_copyFrom cX4_copyFrom 2 none, Cond.fieldLink RX4 45 "LongTones$State" "beats" "I", Cond.fieldLink RX4 48 "LongTones$State" "singers" "I", Cond.fieldLink RX4 51 "LongTones$State" "present" "I", Cond.fieldLink RX4 54 "LongTones$State" "solos" "I", Cond.fieldLink RX4 41 "LongTones$State" "reserve" "I", Cond.fieldLink RX4 14 "LongTones$State" "sorts" "LLongTones$Row;", Cond.fieldLink RX4 20 "LongTones$State" "loudnesses" "LLongTones$Row;", Cond.fieldLink RX4 23 "LongTones$State" "marks" "LLongTones$Row;", Cond.fieldLink RX4 26 "LongTones$State" "breaths" "LLongTones$Row;", Cond.fieldLink RX4 29 "LongTones$State" "recoveries" "LLongTones$Row;", Cond.fieldLink RX4 32 "LongTones$State" "soloSingers" "LLongTones$Row;", Cond.fieldLink RX4 35 "LongTones$State" "soloStarts" "LLongTones$Row;", Cond.fieldLink RX4 38 "LongTones$State" "soloEnds" "LLongTones$Row;", Cond.methodLink RX4 57 yX2_copyFrom, Cond.instanceMethod yX2_copyFrom, Cond.selects RX2 yX2_copyFrom yX2_copyFrom, Cond.initialized RX2]
def wsX1_takeBack_r2 : List Cond := [Cond.code yX2_copyFrom cX2_copyFrom 3 none, Cond.fieldLink RX2 13 "LongTones$Row" "cells" "[I", Cond.methodLink RX2 19 yX2_at, Cond.instanceMethod yX2_at, Cond.selects RX2 yX2_at yX2_at, Cond.code yX2_at cX2_at 2 (some .int)]
def wsX1_takeBack : List Cond := .code yX1_takeBack cX1_takeBack 4 none :: ((wsX1_takeBack_r1 ++ wsX1_takeBack_r2) ++ wsX10 ++ wsX40 ++ wsX20)
def wsX3_init : List Cond := .code yX3_init cX3_init 1 none :: ([.methodLink RX3 3 objectInit, .instanceMethod objectInit, .code objectInit ⟨#[0xb1]⟩ 1 none, .classLink RX3 9 RX2, .instantiable RX2 1, .initialized RX2, .fieldLink RX3 14 "LongTones$ScoreText" "signs" "LLongTones$Row;", .methodLink RX3 11 yX2_init, .instanceMethod yX2_init, .code yX2_init cX2_init 2 none, .methodLink RX2 1 objectInit, .methodLink RX2 7 Lib.Math.max.name, .static Lib.Math.max.name, .initialized "java/lang/Math", .code Lib.Math.max.name Lib.Math.max.code 2 (some .int), .arrayClass .int, .fieldLink RX2 13 "LongTones$Row" "cells" "[I"] ++ wsX20 ++ wsX30)
def wsX3_append : List Cond := .code yX3_append cX3_append 2 (some .boolean) :: ([.fieldLink RX3 20 "LongTones$ScoreText" "length" "I", .fieldLink RX3 14 "LongTones$ScoreText" "signs" "LLongTones$Row;", .methodLink RX3 24 yX2_put, .instanceMethod yX2_put, .selects RX2 yX2_put yX2_put, .initialized RX2, .code yX2_put cX2_put 3 none, .fieldLink RX2 13 "LongTones$Row" "cells" "[I"] ++ wsX30 ++ wsX20)
def wsX3_signAt : List Cond := .code yX3_signAt cX3_signAt 2 (some .int) :: ([.fieldLink RX3 20 "LongTones$ScoreText" "length" "I", .fieldLink RX3 14 "LongTones$ScoreText" "signs" "LLongTones$Row;", .methodLink RX3 67 yX2_at, .instanceMethod yX2_at, .selects RX2 yX2_at yX2_at, .initialized RX2, .code yX2_at cX2_at 2 (some .int), .fieldLink RX2 13 "LongTones$Row" "cells" "[I"] ++ wsX30 ++ wsX20)
def wsX3_sortOf : List Cond := .code yX3_sortOf cX3_sortOf 1 (some .int) :: ([])
def wsX7_isWithin : List Cond := .code yX7_isWithin cX7_isWithin 3 (some .boolean) :: ([])
def wsX3_digitAt : List Cond := .code yX3_digitAt cX3_digitAt 3 (some .int) :: ([.methodLink RX3 50 yX3_signAt, .instanceMethod yX3_signAt, .selects RX3 yX3_signAt yX3_signAt, .initialized RX3, .code yX3_signAt cX3_signAt 2 (some .int), .fieldLink RX3 20 "LongTones$ScoreText" "length" "I", .fieldLink RX3 14 "LongTones$ScoreText" "signs" "LLongTones$Row;", .methodLink RX3 67 yX2_at, .instanceMethod yX2_at, .selects RX2 yX2_at yX2_at, .initialized RX2, .code yX2_at cX2_at 2 (some .int), .fieldLink RX2 13 "LongTones$Row" "cells" "[I", .static yX7_isWithin, .initialized RX7, .code yX7_isWithin cX7_isWithin 3 (some .boolean)] ++ wsX30 ++ wsX20)
def wsX3_readTimes : List Cond := .code yX3_readTimes cX3_readTimes 3 (some .boolean) :: ([.fieldLink RX3 28 "LongTones$ScoreText" "at" "I", .fieldLink RX3 35 "LongTones$ScoreText" "times" "I", .methodLink RX3 57 yX3_digitAt, .instanceMethod yX3_digitAt, .selects RX3 yX3_digitAt yX3_digitAt, .initialized RX3, .code yX3_digitAt cX3_digitAt 3 (some .int), .methodLink RX3 50 yX3_signAt, .instanceMethod yX3_signAt, .selects RX3 yX3_signAt yX3_signAt, .code yX3_signAt cX3_signAt 2 (some .int), .fieldLink RX3 20 "LongTones$ScoreText" "length" "I", .fieldLink RX3 14 "LongTones$ScoreText" "signs" "LLongTones$Row;", .methodLink RX3 67 yX2_at, .instanceMethod yX2_at, .selects RX2 yX2_at yX2_at, .initialized RX2, .code yX2_at cX2_at 2 (some .int), .fieldLink RX2 13 "LongTones$Row" "cells" "[I", .static yX7_isWithin, .initialized RX7, .code yX7_isWithin cX7_isWithin 3 (some .boolean)] ++ wsX30 ++ wsX20)
def wsX3_readItem_r1 : List Cond := [Cond.fieldLink RX3 28 "LongTones$ScoreText" "at" "I", Cond.fieldLink RX3 38 "LongTones$ScoreText" "sort" "I", Cond.fieldLink RX3 41 "LongTones$ScoreText" "loudness" "I", Cond.fieldLink RX3 35 "LongTones$ScoreText" "times" "I", Cond.methodLink RX3 50 yX3_signAt, Cond.instanceMethod yX3_signAt, Cond.selects RX3 yX3_signAt yX3_signAt, Cond.initialized RX3, Cond.code yX3_signAt cX3_signAt 2 (some .int), Cond.fieldLink RX3 20 "LongTones$ScoreText" "length" "I", Cond.fieldLink RX3 14 "LongTones$ScoreText" "signs" "LLongTones$Row;", Cond.methodLink RX3 67 yX2_at, Cond.instanceMethod yX2_at, Cond.selects RX2 yX2_at yX2_at, Cond.initialized RX2, Cond.code yX2_at cX2_at 2 (some .int), Cond.fieldLink RX2 13 "LongTones$Row" "cells" "[I", Cond.methodLink RX3 54 yX3_sortOf, Cond.static yX3_sortOf, Cond.code yX3_sortOf cX3_sortOf 1 (some .int), Cond.methodLink RX3 57 yX3_digitAt, Cond.instanceMethod yX3_digitAt, Cond.selects RX3 yX3_digitAt yX3_digitAt, Cond.code yX3_digitAt cX3_digitAt 3 (some .int)]
def wsX3_readItem_r2 : List Cond := [Cond.static yX7_isWithin, Cond.initialized RX7, Cond.code yX7_isWithin cX7_isWithin 3 (some .boolean), Cond.methodLink RX3 64 yX3_readTimes, Cond.instanceMethod yX3_readTimes, Cond.selects RX3 yX3_readTimes yX3_readTimes, Cond.code yX3_readTimes cX3_readTimes 3 (some .boolean)]
def wsX3_readItem : List Cond := .code yX3_readItem cX3_readItem 2 (some .boolean) :: ((wsX3_readItem_r1 ++ wsX3_readItem_r2) ++ wsX30 ++ wsX20)
def wsX3_findFault_r1 : List Cond := [Cond.fieldLink RX3 20 "LongTones$ScoreText" "length" "I", Cond.fieldLink RX3 28 "LongTones$ScoreText" "at" "I", Cond.fieldLink RX3 35 "LongTones$ScoreText" "times" "I", Cond.methodLink RX3 31 yX3_readItem, Cond.instanceMethod yX3_readItem, Cond.selects RX3 yX3_readItem yX3_readItem, Cond.initialized RX3, Cond.code yX3_readItem cX3_readItem 2 (some .boolean), Cond.fieldLink RX3 38 "LongTones$ScoreText" "sort" "I", Cond.fieldLink RX3 41 "LongTones$ScoreText" "loudness" "I", Cond.methodLink RX3 50 yX3_signAt, Cond.instanceMethod yX3_signAt, Cond.selects RX3 yX3_signAt yX3_signAt, Cond.code yX3_signAt cX3_signAt 2 (some .int), Cond.fieldLink RX3 14 "LongTones$ScoreText" "signs" "LLongTones$Row;", Cond.methodLink RX3 67 yX2_at, Cond.instanceMethod yX2_at, Cond.selects RX2 yX2_at yX2_at, Cond.initialized RX2, Cond.code yX2_at cX2_at 2 (some .int), Cond.fieldLink RX2 13 "LongTones$Row" "cells" "[I", Cond.methodLink RX3 54 yX3_sortOf, Cond.static yX3_sortOf, Cond.code yX3_sortOf cX3_sortOf 1 (some .int)]
def wsX3_findFault_r2 : List Cond := [Cond.methodLink RX3 57 yX3_digitAt, Cond.instanceMethod yX3_digitAt, Cond.selects RX3 yX3_digitAt yX3_digitAt, Cond.code yX3_digitAt cX3_digitAt 3 (some .int), Cond.static yX7_isWithin, Cond.initialized RX7, Cond.code yX7_isWithin cX7_isWithin 3 (some .boolean), Cond.methodLink RX3 64 yX3_readTimes, Cond.instanceMethod yX3_readTimes, Cond.selects RX3 yX3_readTimes yX3_readTimes, Cond.code yX3_readTimes cX3_readTimes 3 (some .boolean)]
def wsX3_findFault : List Cond := .code yX3_findFault cX3_findFault 5 (some .int) :: ((wsX3_findFault_r1 ++ wsX3_findFault_r2) ++ wsX30 ++ wsX20)
def wsX4_appendBeats : List Cond := .code yX4_appendBeats cX4_appendBeats 5 none :: ([.fieldLink RX4 45 "LongTones$State" "beats" "I", .fieldLink RX4 14 "LongTones$State" "sorts" "LLongTones$Row;", .fieldLink RX4 20 "LongTones$State" "loudnesses" "LLongTones$Row;", .methodLink RX4 64 yX2_put, .instanceMethod yX2_put, .selects RX2 yX2_put yX2_put, .initialized RX2, .code yX2_put cX2_put 3 none, .fieldLink RX2 13 "LongTones$Row" "cells" "[I"] ++ wsX40 ++ wsX20)
def wsX3_writeTo_r1 : List Cond := [Cond.fieldLink RX3 28 "LongTones$ScoreText" "at" "I", Cond.fieldLink RX3 20 "LongTones$ScoreText" "length" "I", Cond.fieldLink RX3 38 "LongTones$ScoreText" "sort" "I", Cond.fieldLink RX3 41 "LongTones$ScoreText" "loudness" "I", Cond.fieldLink RX3 35 "LongTones$ScoreText" "times" "I", Cond.methodLink RX3 31 yX3_readItem, Cond.instanceMethod yX3_readItem, Cond.selects RX3 yX3_readItem yX3_readItem, Cond.initialized RX3, Cond.code yX3_readItem cX3_readItem 2 (some .boolean), Cond.methodLink RX3 50 yX3_signAt, Cond.instanceMethod yX3_signAt, Cond.selects RX3 yX3_signAt yX3_signAt, Cond.code yX3_signAt cX3_signAt 2 (some .int), Cond.fieldLink RX3 14 "LongTones$ScoreText" "signs" "LLongTones$Row;", Cond.methodLink RX3 67 yX2_at, Cond.instanceMethod yX2_at, Cond.selects RX2 yX2_at yX2_at, Cond.initialized RX2, Cond.code yX2_at cX2_at 2 (some .int), Cond.fieldLink RX2 13 "LongTones$Row" "cells" "[I", Cond.methodLink RX3 54 yX3_sortOf, Cond.static yX3_sortOf, Cond.code yX3_sortOf cX3_sortOf 1 (some .int)]
def wsX3_writeTo_r2 : List Cond := [Cond.methodLink RX3 57 yX3_digitAt, Cond.instanceMethod yX3_digitAt, Cond.selects RX3 yX3_digitAt yX3_digitAt, Cond.code yX3_digitAt cX3_digitAt 3 (some .int), Cond.static yX7_isWithin, Cond.initialized RX7, Cond.code yX7_isWithin cX7_isWithin 3 (some .boolean), Cond.methodLink RX3 64 yX3_readTimes, Cond.instanceMethod yX3_readTimes, Cond.selects RX3 yX3_readTimes yX3_readTimes, Cond.code yX3_readTimes cX3_readTimes 3 (some .boolean), Cond.methodLink RX3 44 yX4_appendBeats, Cond.instanceMethod yX4_appendBeats, Cond.selects RX4 yX4_appendBeats yX4_appendBeats, Cond.initialized RX4, Cond.code yX4_appendBeats cX4_appendBeats 5 none, Cond.fieldLink RX4 45 "LongTones$State" "beats" "I", Cond.fieldLink RX4 14 "LongTones$State" "sorts" "LLongTones$Row;", Cond.fieldLink RX4 20 "LongTones$State" "loudnesses" "LLongTones$Row;", Cond.methodLink RX4 64 yX2_put, Cond.instanceMethod yX2_put, Cond.selects RX2 yX2_put yX2_put, Cond.code yX2_put cX2_put 3 none]
def wsX3_writeTo : List Cond := .code yX3_writeTo cX3_writeTo 3 none :: ((wsX3_writeTo_r1 ++ wsX3_writeTo_r2) ++ wsX30 ++ wsX20 ++ wsX40)
def wsX4_hasBeat : List Cond := .code yX4_hasBeat cX4_hasBeat 2 (some .boolean) :: ([.fieldLink RX4 45 "LongTones$State" "beats" "I"] ++ wsX40)
def wsX4_hasSinger : List Cond := .code yX4_hasSinger cX4_hasSinger 2 (some .boolean) :: ([.fieldLink RX4 48 "LongTones$State" "singers" "I"] ++ wsX40)
def wsX4_hasSolo : List Cond := .code yX4_hasSolo cX4_hasSolo 2 (some .boolean) :: ([.fieldLink RX4 54 "LongTones$State" "solos" "I"] ++ wsX40)
def wsX4_clearScore : List Cond := .code yX4_clearScore cX4_clearScore 1 none :: ([.fieldLink RX4 45 "LongTones$State" "beats" "I", .fieldLink RX4 54 "LongTones$State" "solos" "I", .fieldLink RX4 23 "LongTones$State" "marks" "LLongTones$Row;", .methodLink RX4 61 yX2_clear, .instanceMethod yX2_clear, .selects RX2 yX2_clear yX2_clear, .initialized RX2, .code yX2_clear cX2_clear 2 none, .fieldLink RX2 13 "LongTones$Row" "cells" "[I"] ++ wsX40 ++ wsX20)
def wsX4_countRests : List Cond := .code yX4_countRests cX4_countRests 3 (some .int) :: ([.fieldLink RX4 45 "LongTones$State" "beats" "I", .methodLink RX4 72 yX4_isRest, .instanceMethod yX4_isRest, .selects RX4 yX4_isRest yX4_isRest, .initialized RX4, .code yX4_isRest cX4_isRest 2 (some .boolean), .fieldLink RX4 14 "LongTones$State" "sorts" "LLongTones$Row;", .methodLink RX4 68 yX2_at, .instanceMethod yX2_at, .selects RX2 yX2_at yX2_at, .initialized RX2, .code yX2_at cX2_at 2 (some .int), .fieldLink RX2 13 "LongTones$Row" "cells" "[I"] ++ wsX40 ++ wsX20)
def wsX4_countSyllables : List Cond := .code yX4_countSyllables cX4_countSyllables 3 (some .int) :: ([.fieldLink RX4 45 "LongTones$State" "beats" "I", .methodLink RX4 76 yX4_firstOfSyllable, .instanceMethod yX4_firstOfSyllable, .selects RX4 yX4_firstOfSyllable yX4_firstOfSyllable, .initialized RX4, .code yX4_firstOfSyllable cX4_firstOfSyllable 3 (some .int), .fieldLink RX4 14 "LongTones$State" "sorts" "LLongTones$Row;", .methodLink RX4 72 yX4_isRest, .instanceMethod yX4_isRest, .selects RX4 yX4_isRest yX4_isRest, .code yX4_isRest cX4_isRest 2 (some .boolean), .methodLink RX4 68 yX2_at, .instanceMethod yX2_at, .selects RX2 yX2_at yX2_at, .initialized RX2, .code yX2_at cX2_at 2 (some .int), .fieldLink RX2 13 "LongTones$Row" "cells" "[I"] ++ wsX40 ++ wsX20)
def wsX4_longestSyllable : List Cond := .code yX4_longestSyllable cX4_longestSyllable 3 (some .int) :: ([.fieldLink RX4 45 "LongTones$State" "beats" "I", .methodLink RX4 79 Lib.Math.max.name, .static Lib.Math.max.name, .initialized "java/lang/Math", .code Lib.Math.max.name Lib.Math.max.code 2 (some .int), .methodLink RX4 72 yX4_isRest, .instanceMethod yX4_isRest, .selects RX4 yX4_isRest yX4_isRest, .initialized RX4, .code yX4_isRest cX4_isRest 2 (some .boolean), .fieldLink RX4 14 "LongTones$State" "sorts" "LLongTones$Row;", .methodLink RX4 68 yX2_at, .instanceMethod yX2_at, .selects RX2 yX2_at yX2_at, .initialized RX2, .code yX2_at cX2_at 2 (some .int), .fieldLink RX2 13 "LongTones$Row" "cells" "[I", .methodLink RX4 76 yX4_firstOfSyllable, .instanceMethod yX4_firstOfSyllable, .selects RX4 yX4_firstOfSyllable yX4_firstOfSyllable, .code yX4_firstOfSyllable cX4_firstOfSyllable 3 (some .int)] ++ wsX40 ++ wsX20)
def wsX4_appendSinger : List Cond := .code yX4_appendSinger cX4_appendSinger 4 (some .int) :: ([.fieldLink RX4 48 "LongTones$State" "singers" "I", .fieldLink RX4 26 "LongTones$State" "breaths" "LLongTones$Row;", .fieldLink RX4 29 "LongTones$State" "recoveries" "LLongTones$Row;", .fieldLink RX4 51 "LongTones$State" "present" "I", .methodLink RX4 64 yX2_put, .instanceMethod yX2_put, .selects RX2 yX2_put yX2_put, .initialized RX2, .code yX2_put cX2_put 3 none, .fieldLink RX2 13 "LongTones$Row" "cells" "[I", .static yX7_bit, .initialized RX7, .code yX7_bit cX7_bit 1 (some .int)] ++ wsX40 ++ wsX20)
def wsX4_countPresent : List Cond := .code yX4_countPresent cX4_countPresent 1 (some .int) :: ([.fieldLink RX4 51 "LongTones$State" "present" "I", .methodLink RX4 92 yJ6_bitCount_0f7a4, .static yJ6_bitCount_0f7a4, .initialized RJ6, .code yJ6_bitCount_0f7a4 cJ6_bitCount_0f7a4 1 (some .int), .constant RJ6 265 (1431655765), .constant RJ6 266 (858993459), .constant RJ6 267 (252645135)] ++ wsX40)
def wsX4_overlapsSolo : List Cond := .code yX4_overlapsSolo cX4_overlapsSolo 4 (some .boolean) :: ([.fieldLink RX4 54 "LongTones$State" "solos" "I", .fieldLink RX4 35 "LongTones$State" "soloStarts" "LLongTones$Row;", .fieldLink RX4 38 "LongTones$State" "soloEnds" "LLongTones$Row;", .methodLink RX4 68 yX2_at, .instanceMethod yX2_at, .selects RX2 yX2_at yX2_at, .initialized RX2, .code yX2_at cX2_at 2 (some .int), .fieldLink RX2 13 "LongTones$Row" "cells" "[I"] ++ wsX40 ++ wsX20)
def wsX4_moveSolo : List Cond := .code yX4_moveSolo cX4_moveSolo 3 none :: ([.fieldLink RX4 32 "LongTones$State" "soloSingers" "LLongTones$Row;", .fieldLink RX4 35 "LongTones$State" "soloStarts" "LLongTones$Row;", .fieldLink RX4 38 "LongTones$State" "soloEnds" "LLongTones$Row;", .methodLink RX4 68 yX2_at, .instanceMethod yX2_at, .selects RX2 yX2_at yX2_at, .initialized RX2, .code yX2_at cX2_at 2 (some .int), .fieldLink RX2 13 "LongTones$Row" "cells" "[I", .methodLink RX4 64 yX2_put, .instanceMethod yX2_put, .selects RX2 yX2_put yX2_put, .code yX2_put cX2_put 3 none] ++ wsX40 ++ wsX20)
def wsX4_insertSolo : List Cond := .code yX4_insertSolo cX4_insertSolo 5 (some .int) :: ([.fieldLink RX4 54 "LongTones$State" "solos" "I", .fieldLink RX4 35 "LongTones$State" "soloStarts" "LLongTones$Row;", .fieldLink RX4 32 "LongTones$State" "soloSingers" "LLongTones$Row;", .fieldLink RX4 38 "LongTones$State" "soloEnds" "LLongTones$Row;", .methodLink RX4 68 yX2_at, .instanceMethod yX2_at, .selects RX2 yX2_at yX2_at, .initialized RX2, .code yX2_at cX2_at 2 (some .int), .fieldLink RX2 13 "LongTones$Row" "cells" "[I", .methodLink RX4 97 yX4_moveSolo, .instanceMethod yX4_moveSolo, .selects RX4 yX4_moveSolo yX4_moveSolo, .initialized RX4, .code yX4_moveSolo cX4_moveSolo 3 none, .methodLink RX4 64 yX2_put, .instanceMethod yX2_put, .selects RX2 yX2_put yX2_put, .code yX2_put cX2_put 3 none] ++ wsX40 ++ wsX20)
def wsX4_dropSolo : List Cond := .code yX4_dropSolo cX4_dropSolo 3 none :: ([.fieldLink RX4 54 "LongTones$State" "solos" "I", .methodLink RX4 97 yX4_moveSolo, .instanceMethod yX4_moveSolo, .selects RX4 yX4_moveSolo yX4_moveSolo, .initialized RX4, .code yX4_moveSolo cX4_moveSolo 3 none, .fieldLink RX4 32 "LongTones$State" "soloSingers" "LLongTones$Row;", .fieldLink RX4 35 "LongTones$State" "soloStarts" "LLongTones$Row;", .fieldLink RX4 38 "LongTones$State" "soloEnds" "LLongTones$Row;", .methodLink RX4 68 yX2_at, .instanceMethod yX2_at, .selects RX2 yX2_at yX2_at, .initialized RX2, .code yX2_at cX2_at 2 (some .int), .fieldLink RX2 13 "LongTones$Row" "cells" "[I", .methodLink RX4 64 yX2_put, .instanceMethod yX2_put, .selects RX2 yX2_put yX2_put, .code yX2_put cX2_put 3 none] ++ wsX40 ++ wsX20)
def wsX4_countMarks : List Cond := .code yX4_countMarks cX4_countMarks 3 (some .int) :: ([.fieldLink RX4 45 "LongTones$State" "beats" "I", .fieldLink RX4 23 "LongTones$State" "marks" "LLongTones$Row;", .methodLink RX4 68 yX2_at, .instanceMethod yX2_at, .selects RX2 yX2_at yX2_at, .initialized RX2, .code yX2_at cX2_at 2 (some .int), .fieldLink RX2 13 "LongTones$Row" "cells" "[I", .methodLink RX4 92 yJ6_bitCount_0f7a4, .static yJ6_bitCount_0f7a4, .initialized RJ6, .code yJ6_bitCount_0f7a4 cJ6_bitCount_0f7a4 1 (some .int), .constant RJ6 265 (1431655765), .constant RJ6 266 (858993459), .constant RJ6 267 (252645135)] ++ wsX40 ++ wsX20)
def wsX4_countMarksOf : List Cond := .code yX4_countMarksOf cX4_countMarksOf 4 (some .int) :: ([.fieldLink RX4 45 "LongTones$State" "beats" "I", .methodLink RX4 100 yX4_isMarked, .instanceMethod yX4_isMarked, .selects RX4 yX4_isMarked yX4_isMarked, .initialized RX4, .code yX4_isMarked cX4_isMarked 3 (some .boolean), .fieldLink RX4 23 "LongTones$State" "marks" "LLongTones$Row;", .methodLink RX4 68 yX2_at, .instanceMethod yX2_at, .selects RX2 yX2_at yX2_at, .initialized RX2, .code yX2_at cX2_at 2 (some .int), .fieldLink RX2 13 "LongTones$Row" "cells" "[I", .static yX7_contains, .initialized RX7, .code yX7_contains cX7_contains 2 (some .boolean)] ++ wsX40 ++ wsX20)
def wsX5_init : List Cond := .code yX5_init cX5_init 1 none :: ([.methodLink RX5 3 objectInit, .instanceMethod objectInit, .code objectInit ⟨#[0xb1]⟩ 1 none, .classLink RX5 9 RX2, .instantiable RX2 1, .initialized RX2, .fieldLink RX5 14 "LongTones$Turns" "lefts" "LLongTones$Row;", .methodLink RX5 11 yX2_init, .instanceMethod yX2_init, .code yX2_init cX2_init 2 none, .methodLink RX2 1 objectInit, .methodLink RX2 7 Lib.Math.max.name, .static Lib.Math.max.name, .initialized "java/lang/Math", .code Lib.Math.max.name Lib.Math.max.code 2 (some .int), .arrayClass .int, .fieldLink RX2 13 "LongTones$Row" "cells" "[I"] ++ wsX20 ++ wsX50)
def wsX5_neededFrom : List Cond := .code yX5_neededFrom cX5_neededFrom 6 (some .int) :: ([.fieldLink RX5 35 "LongTones$State" "beats" "I", .fieldLink RX5 83 "LongTones$State" "reserve" "I", .fieldLink RX5 86 "LongTones$State" "loudnesses" "LLongTones$Row;", .methodLink RX5 39 yX4_isRest, .instanceMethod yX4_isRest, .selects RX4 yX4_isRest yX4_isRest, .initialized RX4, .code yX4_isRest cX4_isRest 2 (some .boolean), .fieldLink RX4 14 "LongTones$State" "sorts" "LLongTones$Row;", .methodLink RX4 68 yX2_at, .instanceMethod yX2_at, .selects RX2 yX2_at yX2_at, .initialized RX2, .code yX2_at cX2_at 2 (some .int), .fieldLink RX2 13 "LongTones$Row" "cells" "[I", .methodLink RX5 89 yX2_at] ++ wsX40 ++ wsX20)
def wsX5_shortestOfBreath : List Cond := .code yX5_shortestOfBreath cX5_shortestOfBreath 8 (some .int) :: ([.fieldLink RX5 92 "LongTones$State" "singers" "I", .fieldLink RX5 14 "LongTones$Turns" "lefts" "LLongTones$Row;", .methodLink RX5 95 yX4_isPresent, .instanceMethod yX4_isPresent, .selects RX4 yX4_isPresent yX4_isPresent, .initialized RX4, .code yX4_isPresent cX4_isPresent 2 (some .boolean), .fieldLink RX4 51 "LongTones$State" "present" "I", .static yX7_contains, .initialized RX7, .code yX7_contains cX7_contains 2 (some .boolean), .methodLink RX5 89 yX2_at, .instanceMethod yX2_at, .selects RX2 yX2_at yX2_at, .initialized RX2, .code yX2_at cX2_at 2 (some .int), .fieldLink RX2 13 "LongTones$Row" "cells" "[I"] ++ wsX40 ++ wsX50 ++ wsX20)
def wsX5_canBeSungWithout : List Cond := .code yX5_canBeSungWithout cX5_canBeSungWithout 6 (some .boolean) :: ([.fieldLink RX5 92 "LongTones$State" "singers" "I", .fieldLink RX5 14 "LongTones$Turns" "lefts" "LLongTones$Row;", .fieldLink RX5 86 "LongTones$State" "loudnesses" "LLongTones$Row;", .methodLink RX5 95 yX4_isPresent, .instanceMethod yX4_isPresent, .selects RX4 yX4_isPresent yX4_isPresent, .initialized RX4, .code yX4_isPresent cX4_isPresent 2 (some .boolean), .fieldLink RX4 51 "LongTones$State" "present" "I", .static yX7_contains, .initialized RX7, .code yX7_contains cX7_contains 2 (some .boolean), .methodLink RX5 89 yX2_at, .instanceMethod yX2_at, .selects RX2 yX2_at yX2_at, .initialized RX2, .code yX2_at cX2_at 2 (some .int), .fieldLink RX2 13 "LongTones$Row" "cells" "[I"] ++ wsX40 ++ wsX50 ++ wsX20)
def wsX5_chooseFor_r1 : List Cond := [Cond.methodLink RX5 66 Lib.Math.max.name, Cond.static Lib.Math.max.name, Cond.initialized "java/lang/Math", Cond.code Lib.Math.max.name Lib.Math.max.code 2 (some .int), Cond.methodLink RX5 59 yX5_neededFrom, Cond.instanceMethod yX5_neededFrom, Cond.selects RX5 yX5_neededFrom yX5_neededFrom, Cond.initialized RX5, Cond.code yX5_neededFrom cX5_neededFrom 6 (some .int), Cond.fieldLink RX5 35 "LongTones$State" "beats" "I", Cond.fieldLink RX5 83 "LongTones$State" "reserve" "I", Cond.fieldLink RX5 86 "LongTones$State" "loudnesses" "LLongTones$Row;", Cond.methodLink RX5 39 yX4_isRest, Cond.instanceMethod yX4_isRest, Cond.selects RX4 yX4_isRest yX4_isRest, Cond.initialized RX4, Cond.code yX4_isRest cX4_isRest 2 (some .boolean), Cond.fieldLink RX4 14 "LongTones$State" "sorts" "LLongTones$Row;", Cond.methodLink RX4 68 yX2_at, Cond.instanceMethod yX2_at, Cond.selects RX2 yX2_at yX2_at, Cond.initialized RX2, Cond.code yX2_at cX2_at 2 (some .int), Cond.fieldLink RX2 13 "LongTones$Row" "cells" "[I"]
def wsX5_chooseFor_r2 : List Cond := [Cond.methodLink RX5 89 yX2_at, Cond.methodLink RX5 62 yX4_countPresent, Cond.instanceMethod yX4_countPresent, Cond.selects RX4 yX4_countPresent yX4_countPresent, Cond.code yX4_countPresent cX4_countPresent 1 (some .int), Cond.fieldLink RX4 51 "LongTones$State" "present" "I", Cond.methodLink RX4 92 yJ6_bitCount_0f7a4, Cond.static yJ6_bitCount_0f7a4, Cond.initialized RJ6, Cond.code yJ6_bitCount_0f7a4 cJ6_bitCount_0f7a4 1 (some .int), Cond.constant RJ6 265 (1431655765), Cond.constant RJ6 266 (858993459), Cond.constant RJ6 267 (252645135), Cond.methodLink RX5 72 yX5_shortestOfBreath, Cond.instanceMethod yX5_shortestOfBreath, Cond.selects RX5 yX5_shortestOfBreath yX5_shortestOfBreath, Cond.code yX5_shortestOfBreath cX5_shortestOfBreath 8 (some .int), Cond.fieldLink RX5 92 "LongTones$State" "singers" "I", Cond.fieldLink RX5 14 "LongTones$Turns" "lefts" "LLongTones$Row;", Cond.methodLink RX5 95 yX4_isPresent, Cond.instanceMethod yX4_isPresent, Cond.selects RX4 yX4_isPresent yX4_isPresent, Cond.code yX4_isPresent cX4_isPresent 2 (some .boolean), Cond.static yX7_contains]
def wsX5_chooseFor_r3 : List Cond := [Cond.initialized RX7, Cond.code yX7_contains cX7_contains 2 (some .boolean), Cond.static yX7_bit, Cond.code yX7_bit cX7_bit 1 (some .int), Cond.methodLink RX5 79 yX5_canBeSungWithout, Cond.instanceMethod yX5_canBeSungWithout, Cond.selects RX5 yX5_canBeSungWithout yX5_canBeSungWithout, Cond.code yX5_canBeSungWithout cX5_canBeSungWithout 6 (some .boolean)]
def wsX5_chooseFor : List Cond := .code yX5_chooseFor cX5_chooseFor 8 (some .int) :: ((wsX5_chooseFor_r1 ++ (wsX5_chooseFor_r2 ++ wsX5_chooseFor_r3)) ++ wsX40 ++ wsX20 ++ wsX50)
def wsX5_goThrough_r1 : List Cond := [Cond.fieldLink RX5 92 "LongTones$State" "singers" "I", Cond.fieldLink RX5 14 "LongTones$Turns" "lefts" "LLongTones$Row;", Cond.fieldLink RX5 86 "LongTones$State" "loudnesses" "LLongTones$Row;", Cond.fieldLink RX5 106 "LongTones$State" "recoveries" "LLongTones$Row;", Cond.fieldLink RX5 28 "LongTones$State" "breaths" "LLongTones$Row;", Cond.methodLink RX5 109 Lib.Math.min.name, Cond.static Lib.Math.min.name, Cond.initialized "java/lang/Math", Cond.code Lib.Math.min.name Lib.Math.min.code 2 (some .int), Cond.methodLink RX5 89 yX2_at, Cond.instanceMethod yX2_at, Cond.selects RX2 yX2_at yX2_at, Cond.initialized RX2, Cond.code yX2_at cX2_at 2 (some .int), Cond.fieldLink RX2 13 "LongTones$Row" "cells" "[I", Cond.methodLink RX5 102 yX4_doing, Cond.instanceMethod yX4_doing, Cond.selects RX4 yX4_doing yX4_doing, Cond.initialized RX4, Cond.code yX4_doing cX4_doing 4 (some .int), Cond.fieldLink RX4 20 "LongTones$State" "loudnesses" "LLongTones$Row;", Cond.methodLink RX4 109 yX4_hasToSing, Cond.instanceMethod yX4_hasToSing, Cond.selects RX4 yX4_hasToSing yX4_hasToSing]
def wsX5_goThrough_r2 : List Cond := [Cond.code yX4_hasToSing cX4_hasToSing 4 (some .boolean), Cond.fieldLink RX4 32 "LongTones$State" "soloSingers" "LLongTones$Row;", Cond.methodLink RX4 72 yX4_isRest, Cond.instanceMethod yX4_isRest, Cond.selects RX4 yX4_isRest yX4_isRest, Cond.code yX4_isRest cX4_isRest 2 (some .boolean), Cond.fieldLink RX4 14 "LongTones$State" "sorts" "LLongTones$Row;", Cond.methodLink RX4 68 yX2_at, Cond.methodLink RX4 103 yX4_isPresent, Cond.instanceMethod yX4_isPresent, Cond.selects RX4 yX4_isPresent yX4_isPresent, Cond.code yX4_isPresent cX4_isPresent 2 (some .boolean), Cond.fieldLink RX4 51 "LongTones$State" "present" "I", Cond.static yX7_contains, Cond.initialized RX7, Cond.code yX7_contains cX7_contains 2 (some .boolean), Cond.methodLink RX4 106 yX4_soloAt, Cond.instanceMethod yX4_soloAt, Cond.selects RX4 yX4_soloAt yX4_soloAt, Cond.code yX4_soloAt cX4_soloAt 3 (some .int), Cond.fieldLink RX4 54 "LongTones$State" "solos" "I", Cond.fieldLink RX4 35 "LongTones$State" "soloStarts" "LLongTones$Row;", Cond.fieldLink RX4 38 "LongTones$State" "soloEnds" "LLongTones$Row;", Cond.methodLink RX4 100 yX4_isMarked]
def wsX5_goThrough_r3 : List Cond := [Cond.instanceMethod yX4_isMarked, Cond.selects RX4 yX4_isMarked yX4_isMarked, Cond.code yX4_isMarked cX4_isMarked 3 (some .boolean), Cond.fieldLink RX4 23 "LongTones$State" "marks" "LLongTones$Row;", Cond.methodLink RX5 51 yX2_put, Cond.instanceMethod yX2_put, Cond.selects RX2 yX2_put yX2_put, Cond.code yX2_put cX2_put 3 none]
def wsX5_goThrough : List Cond := .code yX5_goThrough cX5_goThrough 6 none :: ((wsX5_goThrough_r1 ++ (wsX5_goThrough_r2 ++ wsX5_goThrough_r3)) ++ wsX40 ++ wsX50 ++ wsX20)
def wsX5_makePlan_r1 : List Cond := [Cond.fieldLink RX5 20 "LongTones$State" "marks" "LLongTones$Row;", Cond.fieldLink RX5 14 "LongTones$Turns" "lefts" "LLongTones$Row;", Cond.fieldLink RX5 28 "LongTones$State" "breaths" "LLongTones$Row;", Cond.fieldLink RX5 35 "LongTones$State" "beats" "I", Cond.methodLink RX5 25 yX2_clear, Cond.instanceMethod yX2_clear, Cond.selects RX2 yX2_clear yX2_clear, Cond.initialized RX2, Cond.code yX2_clear cX2_clear 2 none, Cond.fieldLink RX2 13 "LongTones$Row" "cells" "[I", Cond.methodLink RX5 31 yX2_copyFrom, Cond.instanceMethod yX2_copyFrom, Cond.selects RX2 yX2_copyFrom yX2_copyFrom, Cond.code yX2_copyFrom cX2_copyFrom 3 none, Cond.methodLink RX2 19 yX2_at, Cond.instanceMethod yX2_at, Cond.selects RX2 yX2_at yX2_at, Cond.code yX2_at cX2_at 2 (some .int), Cond.methodLink RX5 39 yX4_isRest, Cond.instanceMethod yX4_isRest, Cond.selects RX4 yX4_isRest yX4_isRest, Cond.initialized RX4, Cond.code yX4_isRest cX4_isRest 2 (some .boolean), Cond.fieldLink RX4 14 "LongTones$State" "sorts" "LLongTones$Row;"]
def wsX5_makePlan_r2 : List Cond := [Cond.methodLink RX4 68 yX2_at, Cond.methodLink RX5 43 yX4_soloAt, Cond.instanceMethod yX4_soloAt, Cond.selects RX4 yX4_soloAt yX4_soloAt, Cond.code yX4_soloAt cX4_soloAt 3 (some .int), Cond.fieldLink RX4 54 "LongTones$State" "solos" "I", Cond.fieldLink RX4 35 "LongTones$State" "soloStarts" "LLongTones$Row;", Cond.fieldLink RX4 38 "LongTones$State" "soloEnds" "LLongTones$Row;", Cond.methodLink RX5 47 yX5_chooseFor, Cond.instanceMethod yX5_chooseFor, Cond.selects RX5 yX5_chooseFor yX5_chooseFor, Cond.initialized RX5, Cond.code yX5_chooseFor cX5_chooseFor 8 (some .int), Cond.methodLink RX5 66 Lib.Math.max.name, Cond.static Lib.Math.max.name, Cond.initialized "java/lang/Math", Cond.code Lib.Math.max.name Lib.Math.max.code 2 (some .int), Cond.methodLink RX5 59 yX5_neededFrom, Cond.instanceMethod yX5_neededFrom, Cond.selects RX5 yX5_neededFrom yX5_neededFrom, Cond.code yX5_neededFrom cX5_neededFrom 6 (some .int), Cond.fieldLink RX5 83 "LongTones$State" "reserve" "I", Cond.fieldLink RX5 86 "LongTones$State" "loudnesses" "LLongTones$Row;", Cond.methodLink RX5 89 yX2_at]
def wsX5_makePlan_r3 : List Cond := [Cond.methodLink RX5 62 yX4_countPresent, Cond.instanceMethod yX4_countPresent, Cond.selects RX4 yX4_countPresent yX4_countPresent, Cond.code yX4_countPresent cX4_countPresent 1 (some .int), Cond.fieldLink RX4 51 "LongTones$State" "present" "I", Cond.methodLink RX4 92 yJ6_bitCount_0f7a4, Cond.static yJ6_bitCount_0f7a4, Cond.initialized RJ6, Cond.code yJ6_bitCount_0f7a4 cJ6_bitCount_0f7a4 1 (some .int), Cond.constant RJ6 265 (1431655765), Cond.constant RJ6 266 (858993459), Cond.constant RJ6 267 (252645135), Cond.methodLink RX5 72 yX5_shortestOfBreath, Cond.instanceMethod yX5_shortestOfBreath, Cond.selects RX5 yX5_shortestOfBreath yX5_shortestOfBreath, Cond.code yX5_shortestOfBreath cX5_shortestOfBreath 8 (some .int), Cond.fieldLink RX5 92 "LongTones$State" "singers" "I", Cond.methodLink RX5 95 yX4_isPresent, Cond.instanceMethod yX4_isPresent, Cond.selects RX4 yX4_isPresent yX4_isPresent, Cond.code yX4_isPresent cX4_isPresent 2 (some .boolean), Cond.static yX7_contains, Cond.initialized RX7, Cond.code yX7_contains cX7_contains 2 (some .boolean)]
def wsX5_makePlan_r4 : List Cond := [Cond.static yX7_bit, Cond.code yX7_bit cX7_bit 1 (some .int), Cond.methodLink RX5 79 yX5_canBeSungWithout, Cond.instanceMethod yX5_canBeSungWithout, Cond.selects RX5 yX5_canBeSungWithout yX5_canBeSungWithout, Cond.code yX5_canBeSungWithout cX5_canBeSungWithout 6 (some .boolean), Cond.methodLink RX5 51 yX2_put, Cond.instanceMethod yX2_put, Cond.selects RX2 yX2_put yX2_put, Cond.code yX2_put cX2_put 3 none, Cond.methodLink RX5 55 yX5_goThrough, Cond.instanceMethod yX5_goThrough, Cond.selects RX5 yX5_goThrough yX5_goThrough, Cond.code yX5_goThrough cX5_goThrough 6 none, Cond.fieldLink RX5 106 "LongTones$State" "recoveries" "LLongTones$Row;", Cond.methodLink RX5 109 Lib.Math.min.name, Cond.static Lib.Math.min.name, Cond.code Lib.Math.min.name Lib.Math.min.code 2 (some .int), Cond.methodLink RX5 102 yX4_doing, Cond.instanceMethod yX4_doing, Cond.selects RX4 yX4_doing yX4_doing, Cond.code yX4_doing cX4_doing 4 (some .int), Cond.fieldLink RX4 20 "LongTones$State" "loudnesses" "LLongTones$Row;", Cond.methodLink RX4 109 yX4_hasToSing]
def wsX5_makePlan_r5 : List Cond := [Cond.instanceMethod yX4_hasToSing, Cond.selects RX4 yX4_hasToSing yX4_hasToSing, Cond.code yX4_hasToSing cX4_hasToSing 4 (some .boolean), Cond.fieldLink RX4 32 "LongTones$State" "soloSingers" "LLongTones$Row;", Cond.methodLink RX4 72 yX4_isRest, Cond.methodLink RX4 103 yX4_isPresent, Cond.methodLink RX4 106 yX4_soloAt, Cond.methodLink RX4 100 yX4_isMarked, Cond.instanceMethod yX4_isMarked, Cond.selects RX4 yX4_isMarked yX4_isMarked, Cond.code yX4_isMarked cX4_isMarked 3 (some .boolean), Cond.fieldLink RX4 23 "LongTones$State" "marks" "LLongTones$Row;"]
def wsX5_makePlan : List Cond := .code yX5_makePlan cX5_makePlan 3 none :: ((wsX5_makePlan_r1 ++ (wsX5_makePlan_r2 ++ (wsX5_makePlan_r3 ++ (wsX5_makePlan_r4 ++ wsX5_makePlan_r5)))) ++ wsX40 ++ wsX50 ++ wsX20)
def wsX6_init : List Cond := .code yX6_init cX6_init 1 none :: ([.methodLink RX6 3 objectInit, .instanceMethod objectInit, .code objectInit ⟨#[0xb1]⟩ 1 none, .classLink RX6 9 RX2, .instantiable RX2 1, .initialized RX2, .fieldLink RX6 14 "LongTones$Voice" "doings" "LLongTones$Row;", .fieldLink RX6 20 "LongTones$Voice" "lefts" "LLongTones$Row;", .methodLink RX6 11 yX2_init, .instanceMethod yX2_init, .code yX2_init cX2_init 2 none, .methodLink RX2 1 objectInit, .methodLink RX2 7 Lib.Math.max.name, .static Lib.Math.max.name, .initialized "java/lang/Math", .code Lib.Math.max.name Lib.Math.max.code 2 (some .int), .arrayClass .int, .fieldLink RX2 13 "LongTones$Row" "cells" "[I"] ++ wsX20 ++ wsX60)
def wsX6_countDoing : List Cond := .code yX6_countDoing cX6_countDoing 4 (some .int) :: ([.fieldLink RX6 29 "LongTones$Voice" "beats" "I", .fieldLink RX6 14 "LongTones$Voice" "doings" "LLongTones$Row;", .methodLink RX6 36 yX2_at, .instanceMethod yX2_at, .selects RX2 yX2_at yX2_at, .initialized RX2, .code yX2_at cX2_at 2 (some .int), .fieldLink RX2 13 "LongTones$Row" "cells" "[I"] ++ wsX60 ++ wsX20)
def wsX6_leastLeft : List Cond := .code yX6_leastLeft cX6_leastLeft 3 (some .int) :: ([.fieldLink RX6 30 "LongTones$Voice" "wholeBreath" "I", .fieldLink RX6 29 "LongTones$Voice" "beats" "I", .fieldLink RX6 20 "LongTones$Voice" "lefts" "LLongTones$Row;", .methodLink RX6 47 Lib.Math.min.name, .static Lib.Math.min.name, .initialized "java/lang/Math", .code Lib.Math.min.name Lib.Math.min.code 2 (some .int), .methodLink RX6 36 yX2_at, .instanceMethod yX2_at, .selects RX2 yX2_at yX2_at, .initialized RX2, .code yX2_at cX2_at 2 (some .int), .fieldLink RX2 13 "LongTones$Row" "cells" "[I"] ++ wsX60 ++ wsX20)
def wsX6_longestSung : List Cond := .code yX6_longestSung cX6_longestSung 4 (some .int) :: ([.fieldLink RX6 29 "LongTones$Voice" "beats" "I", .fieldLink RX6 14 "LongTones$Voice" "doings" "LLongTones$Row;", .methodLink RX6 57 Lib.Math.max.name, .static Lib.Math.max.name, .initialized "java/lang/Math", .code Lib.Math.max.name Lib.Math.max.code 2 (some .int), .methodLink RX6 36 yX2_at, .instanceMethod yX2_at, .selects RX2 yX2_at yX2_at, .initialized RX2, .code yX2_at cX2_at 2 (some .int), .fieldLink RX2 13 "LongTones$Row" "cells" "[I"] ++ wsX60 ++ wsX20)
def wsX7_init_r1 : List Cond := [Cond.methodLink RX7 1 objectInit, Cond.instanceMethod objectInit, Cond.code objectInit ⟨#[0xb1]⟩ 1 none, Cond.classLink RX7 7 RX4, Cond.instantiable RX4 13, Cond.initialized RX4, Cond.fieldLink RX7 10 "LongTones" "state" "LLongTones$State;", Cond.classLink RX7 16 RX3, Cond.instantiable RX3 6, Cond.initialized RX3, Cond.fieldLink RX7 19 "LongTones" "text" "LLongTones$ScoreText;", Cond.classLink RX7 23 RX1, Cond.instantiable RX1 2, Cond.initialized RX1, Cond.fieldLink RX7 26 "LongTones" "past" "LLongTones$Past;", Cond.fieldLink RX7 30 "LongTones" "snapshots" "[LLongTones$State;", Cond.classLink RX7 34 RX6, Cond.instantiable RX6 4, Cond.initialized RX6, Cond.fieldLink RX7 37 "LongTones" "voice" "LLongTones$Voice;", Cond.classLink RX7 41 RX0, Cond.instantiable RX0 3, Cond.initialized RX0, Cond.fieldLink RX7 44 "LongTones" "choir" "LLongTones$Choir;"]
def wsX7_init_r2 : List Cond := [Cond.classLink RX7 48 RX5, Cond.instantiable RX5 1, Cond.initialized RX5, Cond.fieldLink RX7 51 "LongTones" "turns" "LLongTones$Turns;", Cond.methodLink RX7 9 yX4_init, Cond.instanceMethod yX4_init, Cond.code yX4_init cX4_init 1 none, Cond.methodLink RX4 3 objectInit, Cond.classLink RX4 9 RX2, Cond.instantiable RX2 1, Cond.initialized RX2, Cond.fieldLink RX4 14 "LongTones$State" "sorts" "LLongTones$Row;", Cond.fieldLink RX4 20 "LongTones$State" "loudnesses" "LLongTones$Row;", Cond.fieldLink RX4 23 "LongTones$State" "marks" "LLongTones$Row;", Cond.fieldLink RX4 26 "LongTones$State" "breaths" "LLongTones$Row;", Cond.fieldLink RX4 29 "LongTones$State" "recoveries" "LLongTones$Row;", Cond.fieldLink RX4 32 "LongTones$State" "soloSingers" "LLongTones$Row;", Cond.fieldLink RX4 35 "LongTones$State" "soloStarts" "LLongTones$Row;", Cond.fieldLink RX4 38 "LongTones$State" "soloEnds" "LLongTones$Row;", Cond.fieldLink RX4 41 "LongTones$State" "reserve" "I", Cond.methodLink RX4 11 yX2_init, Cond.instanceMethod yX2_init, Cond.code yX2_init cX2_init 2 none, Cond.methodLink RX2 1 objectInit]
def wsX7_init_r3 : List Cond := [Cond.methodLink RX2 7 Lib.Math.max.name, Cond.static Lib.Math.max.name, Cond.initialized "java/lang/Math", Cond.code Lib.Math.max.name Lib.Math.max.code 2 (some .int), Cond.arrayClass .int, Cond.fieldLink RX2 13 "LongTones$Row" "cells" "[I", Cond.instanceMethod yX3_init, Cond.code yX3_init cX3_init 1 none, Cond.methodLink RX3 3 objectInit, Cond.classLink RX3 9 RX2, Cond.fieldLink RX3 14 "LongTones$ScoreText" "signs" "LLongTones$Row;", Cond.methodLink RX3 11 yX2_init, Cond.instanceMethod yX1_init, Cond.code yX1_init cX1_init 1 none, Cond.methodLink RX1 3 objectInit, Cond.classLink RX1 9 RX4, Cond.fieldLink RX1 11 "LongTones$Past" "states" "[LLongTones$State;", Cond.instanceMethod yX6_init, Cond.code yX6_init cX6_init 1 none, Cond.methodLink RX6 3 objectInit, Cond.classLink RX6 9 RX2, Cond.fieldLink RX6 14 "LongTones$Voice" "doings" "LLongTones$Row;", Cond.fieldLink RX6 20 "LongTones$Voice" "lefts" "LLongTones$Row;", Cond.methodLink RX6 11 yX2_init]
def wsX7_init_r4 : List Cond := [Cond.instanceMethod yX0_init, Cond.code yX0_init cX0_init 1 none, Cond.methodLink RX0 3 objectInit, Cond.classLink RX0 9 RX2, Cond.fieldLink RX0 14 "LongTones$Choir" "singing" "LLongTones$Row;", Cond.fieldLink RX0 20 "LongTones$Choir" "breathing" "LLongTones$Row;", Cond.fieldLink RX0 23 "LongTones$Choir" "gasping" "LLongTones$Row;", Cond.methodLink RX0 11 yX2_init, Cond.instanceMethod yX5_init, Cond.code yX5_init cX5_init 1 none, Cond.methodLink RX5 3 objectInit, Cond.classLink RX5 9 RX2, Cond.fieldLink RX5 14 "LongTones$Turns" "lefts" "LLongTones$Row;", Cond.methodLink RX5 11 yX2_init]
def wsX7_init : List Cond := .code yX7_init cX7_init 1 none :: ((wsX7_init_r1 ++ (wsX7_init_r2 ++ (wsX7_init_r3 ++ wsX7_init_r4))) ++ wsX40 ++ wsX70 ++ wsX30 ++ wsX10 ++ wsX60 ++ wsX00 ++ wsX50 ++ wsX20)
def wsX7_type : List Cond := .code yX7_type cX7_type 2 (some .int) :: ([.fieldLink RX7 19 "LongTones" "text" "LLongTones$ScoreText;", .fieldLink RX7 59 "LongTones$ScoreText" "length" "I", .methodLink RX7 55 yX3_append, .instanceMethod yX3_append, .selects RX3 yX3_append yX3_append, .initialized RX3, .code yX3_append cX3_append 2 (some .boolean), .fieldLink RX3 20 "LongTones$ScoreText" "length" "I", .fieldLink RX3 14 "LongTones$ScoreText" "signs" "LLongTones$Row;", .methodLink RX3 24 yX2_put, .instanceMethod yX2_put, .selects RX2 yX2_put yX2_put, .initialized RX2, .code yX2_put cX2_put 3 none, .fieldLink RX2 13 "LongTones$Row" "cells" "[I"] ++ wsX70 ++ wsX30 ++ wsX20)
def wsX7_clearText : List Cond := .code yX7_clearText cX7_clearText 2 (some .int) :: ([.fieldLink RX7 19 "LongTones" "text" "LLongTones$ScoreText;", .fieldLink RX7 59 "LongTones$ScoreText" "length" "I"] ++ wsX70 ++ wsX30)
def wsX7_read_r1 : List Cond := [Cond.fieldLink RX7 19 "LongTones" "text" "LLongTones$ScoreText;", Cond.fieldLink RX7 26 "LongTones" "past" "LLongTones$Past;", Cond.fieldLink RX7 10 "LongTones" "state" "LLongTones$State;", Cond.fieldLink RX7 77 "LongTones$State" "beats" "I", Cond.methodLink RX7 63 yX3_findFault, Cond.instanceMethod yX3_findFault, Cond.selects RX3 yX3_findFault yX3_findFault, Cond.initialized RX3, Cond.code yX3_findFault cX3_findFault 5 (some .int), Cond.fieldLink RX3 20 "LongTones$ScoreText" "length" "I", Cond.fieldLink RX3 28 "LongTones$ScoreText" "at" "I", Cond.fieldLink RX3 35 "LongTones$ScoreText" "times" "I", Cond.methodLink RX3 31 yX3_readItem, Cond.instanceMethod yX3_readItem, Cond.selects RX3 yX3_readItem yX3_readItem, Cond.code yX3_readItem cX3_readItem 2 (some .boolean), Cond.fieldLink RX3 38 "LongTones$ScoreText" "sort" "I", Cond.fieldLink RX3 41 "LongTones$ScoreText" "loudness" "I", Cond.methodLink RX3 50 yX3_signAt, Cond.instanceMethod yX3_signAt, Cond.selects RX3 yX3_signAt yX3_signAt, Cond.code yX3_signAt cX3_signAt 2 (some .int), Cond.fieldLink RX3 14 "LongTones$ScoreText" "signs" "LLongTones$Row;", Cond.methodLink RX3 67 yX2_at]
def wsX7_read_r2 : List Cond := [Cond.instanceMethod yX2_at, Cond.selects RX2 yX2_at yX2_at, Cond.initialized RX2, Cond.code yX2_at cX2_at 2 (some .int), Cond.fieldLink RX2 13 "LongTones$Row" "cells" "[I", Cond.methodLink RX3 54 yX3_sortOf, Cond.static yX3_sortOf, Cond.code yX3_sortOf cX3_sortOf 1 (some .int), Cond.methodLink RX3 57 yX3_digitAt, Cond.instanceMethod yX3_digitAt, Cond.selects RX3 yX3_digitAt yX3_digitAt, Cond.code yX3_digitAt cX3_digitAt 3 (some .int), Cond.static yX7_isWithin, Cond.initialized RX7, Cond.code yX7_isWithin cX7_isWithin 3 (some .boolean), Cond.methodLink RX3 64 yX3_readTimes, Cond.instanceMethod yX3_readTimes, Cond.selects RX3 yX3_readTimes yX3_readTimes, Cond.code yX3_readTimes cX3_readTimes 3 (some .boolean), Cond.methodLink RX7 67 yX1_record, Cond.instanceMethod yX1_record, Cond.selects RX1 yX1_record yX1_record, Cond.initialized RX1, Cond.code yX1_record cX1_record 3 none]
def wsX7_read_r3 : List Cond := [Cond.fieldLink RX1 17 "LongTones$Past" "size" "I", Cond.fieldLink RX1 11 "LongTones$Past" "states" "[LLongTones$State;", Cond.classLink RX1 9 RX4, Cond.instantiable RX4 13, Cond.initialized RX4, Cond.methodLink RX1 21 yX1_forgetOldest, Cond.instanceMethod yX1_forgetOldest, Cond.selects RX1 yX1_forgetOldest yX1_forgetOldest, Cond.code yX1_forgetOldest cX1_forgetOldest 3 none, Cond.methodLink RX1 24 yX4_init, Cond.instanceMethod yX4_init, Cond.code yX4_init cX4_init 1 none, Cond.methodLink RX4 3 objectInit, Cond.instanceMethod objectInit, Cond.code objectInit ⟨#[0xb1]⟩ 1 none, Cond.classLink RX4 9 RX2, Cond.instantiable RX2 1, Cond.fieldLink RX4 14 "LongTones$State" "sorts" "LLongTones$Row;", Cond.fieldLink RX4 20 "LongTones$State" "loudnesses" "LLongTones$Row;", Cond.fieldLink RX4 23 "LongTones$State" "marks" "LLongTones$Row;", Cond.fieldLink RX4 26 "LongTones$State" "breaths" "LLongTones$Row;", Cond.fieldLink RX4 29 "LongTones$State" "recoveries" "LLongTones$Row;", Cond.fieldLink RX4 32 "LongTones$State" "soloSingers" "LLongTones$Row;", Cond.fieldLink RX4 35 "LongTones$State" "soloStarts" "LLongTones$Row;"]
def wsX7_read_r4 : List Cond := [Cond.fieldLink RX4 38 "LongTones$State" "soloEnds" "LLongTones$Row;", Cond.fieldLink RX4 41 "LongTones$State" "reserve" "I", Cond.methodLink RX4 11 yX2_init, Cond.instanceMethod yX2_init, Cond.code yX2_init cX2_init 2 none, Cond.methodLink RX2 1 objectInit, Cond.methodLink RX2 7 Lib.Math.max.name, Cond.static Lib.Math.max.name, Cond.initialized "java/lang/Math", Cond.code Lib.Math.max.name Lib.Math.max.code 2 (some .int), Cond.arrayClass .int, Cond.methodLink RX1 25 yX4_copyFrom, Cond.instanceMethod yX4_copyFrom, Cond.selects RX4 yX4_copyFrom yX4_copyFrom, Cond.code yX4_copyFrom cX4_copyFrom 2 none, Cond.fieldLink RX4 45 "LongTones$State" "beats" "I", Cond.fieldLink RX4 48 "LongTones$State" "singers" "I", Cond.fieldLink RX4 51 "LongTones$State" "present" "I", Cond.fieldLink RX4 54 "LongTones$State" "solos" "I", Cond.methodLink RX4 57 yX2_copyFrom, Cond.instanceMethod yX2_copyFrom, Cond.selects RX2 yX2_copyFrom yX2_copyFrom, Cond.code yX2_copyFrom cX2_copyFrom 3 none, Cond.methodLink RX2 19 yX2_at]
def wsX7_read_r5 : List Cond := [Cond.methodLink RX7 71 yX4_clearScore, Cond.instanceMethod yX4_clearScore, Cond.selects RX4 yX4_clearScore yX4_clearScore, Cond.code yX4_clearScore cX4_clearScore 1 none, Cond.methodLink RX4 61 yX2_clear, Cond.instanceMethod yX2_clear, Cond.selects RX2 yX2_clear yX2_clear, Cond.code yX2_clear cX2_clear 2 none, Cond.methodLink RX7 74 yX3_writeTo, Cond.instanceMethod yX3_writeTo, Cond.selects RX3 yX3_writeTo yX3_writeTo, Cond.code yX3_writeTo cX3_writeTo 3 none, Cond.methodLink RX3 44 yX4_appendBeats, Cond.instanceMethod yX4_appendBeats, Cond.selects RX4 yX4_appendBeats yX4_appendBeats, Cond.code yX4_appendBeats cX4_appendBeats 5 none, Cond.methodLink RX4 64 yX2_put, Cond.instanceMethod yX2_put, Cond.selects RX2 yX2_put yX2_put, Cond.code yX2_put cX2_put 3 none]
def wsX7_read : List Cond := .code yX7_read cX7_read 2 (some .int) :: ((wsX7_read_r1 ++ (wsX7_read_r2 ++ (wsX7_read_r3 ++ (wsX7_read_r4 ++ wsX7_read_r5)))) ++ wsX70 ++ wsX40 ++ wsX30 ++ wsX20 ++ wsX10)
def wsX7_setLoudness_r1 : List Cond := [Cond.fieldLink RX7 10 "LongTones" "state" "LLongTones$State;", Cond.fieldLink RX7 26 "LongTones" "past" "LLongTones$Past;", Cond.fieldLink RX7 88 "LongTones$State" "loudnesses" "LLongTones$Row;", Cond.methodLink RX7 80 yX4_hasBeat, Cond.instanceMethod yX4_hasBeat, Cond.selects RX4 yX4_hasBeat yX4_hasBeat, Cond.initialized RX4, Cond.code yX4_hasBeat cX4_hasBeat 2 (some .boolean), Cond.fieldLink RX4 45 "LongTones$State" "beats" "I", Cond.methodLink RX7 84 yX7_isWithin, Cond.static yX7_isWithin, Cond.initialized RX7, Cond.code yX7_isWithin cX7_isWithin 3 (some .boolean), Cond.methodLink RX7 67 yX1_record, Cond.instanceMethod yX1_record, Cond.selects RX1 yX1_record yX1_record, Cond.initialized RX1, Cond.code yX1_record cX1_record 3 none, Cond.fieldLink RX1 17 "LongTones$Past" "size" "I", Cond.fieldLink RX1 11 "LongTones$Past" "states" "[LLongTones$State;", Cond.classLink RX1 9 RX4, Cond.instantiable RX4 13, Cond.methodLink RX1 21 yX1_forgetOldest, Cond.instanceMethod yX1_forgetOldest]
def wsX7_setLoudness_r2 : List Cond := [Cond.selects RX1 yX1_forgetOldest yX1_forgetOldest, Cond.code yX1_forgetOldest cX1_forgetOldest 3 none, Cond.methodLink RX1 24 yX4_init, Cond.instanceMethod yX4_init, Cond.code yX4_init cX4_init 1 none, Cond.methodLink RX4 3 objectInit, Cond.instanceMethod objectInit, Cond.code objectInit ⟨#[0xb1]⟩ 1 none, Cond.classLink RX4 9 RX2, Cond.instantiable RX2 1, Cond.initialized RX2, Cond.fieldLink RX4 14 "LongTones$State" "sorts" "LLongTones$Row;", Cond.fieldLink RX4 20 "LongTones$State" "loudnesses" "LLongTones$Row;", Cond.fieldLink RX4 23 "LongTones$State" "marks" "LLongTones$Row;", Cond.fieldLink RX4 26 "LongTones$State" "breaths" "LLongTones$Row;", Cond.fieldLink RX4 29 "LongTones$State" "recoveries" "LLongTones$Row;", Cond.fieldLink RX4 32 "LongTones$State" "soloSingers" "LLongTones$Row;", Cond.fieldLink RX4 35 "LongTones$State" "soloStarts" "LLongTones$Row;", Cond.fieldLink RX4 38 "LongTones$State" "soloEnds" "LLongTones$Row;", Cond.fieldLink RX4 41 "LongTones$State" "reserve" "I", Cond.methodLink RX4 11 yX2_init, Cond.instanceMethod yX2_init, Cond.code yX2_init cX2_init 2 none, Cond.methodLink RX2 1 objectInit]
def wsX7_setLoudness_r3 : List Cond := [Cond.methodLink RX2 7 Lib.Math.max.name, Cond.static Lib.Math.max.name, Cond.initialized "java/lang/Math", Cond.code Lib.Math.max.name Lib.Math.max.code 2 (some .int), Cond.arrayClass .int, Cond.fieldLink RX2 13 "LongTones$Row" "cells" "[I", Cond.methodLink RX1 25 yX4_copyFrom, Cond.instanceMethod yX4_copyFrom, Cond.selects RX4 yX4_copyFrom yX4_copyFrom, Cond.code yX4_copyFrom cX4_copyFrom 2 none, Cond.fieldLink RX4 48 "LongTones$State" "singers" "I", Cond.fieldLink RX4 51 "LongTones$State" "present" "I", Cond.fieldLink RX4 54 "LongTones$State" "solos" "I", Cond.methodLink RX4 57 yX2_copyFrom, Cond.instanceMethod yX2_copyFrom, Cond.selects RX2 yX2_copyFrom yX2_copyFrom, Cond.code yX2_copyFrom cX2_copyFrom 3 none, Cond.methodLink RX2 19 yX2_at, Cond.instanceMethod yX2_at, Cond.selects RX2 yX2_at yX2_at, Cond.code yX2_at cX2_at 2 (some .int), Cond.methodLink RX7 92 yX2_put, Cond.instanceMethod yX2_put, Cond.selects RX2 yX2_put yX2_put]
def wsX7_setLoudness_r4 : List Cond := [Cond.code yX2_put cX2_put 3 none, Cond.methodLink RX7 98 yX4_isRest, Cond.instanceMethod yX4_isRest, Cond.selects RX4 yX4_isRest yX4_isRest, Cond.code yX4_isRest cX4_isRest 2 (some .boolean), Cond.methodLink RX4 68 yX2_at]
def wsX7_setLoudness : List Cond := .code yX7_setLoudness cX7_setLoudness 6 (some .int) :: ((wsX7_setLoudness_r1 ++ (wsX7_setLoudness_r2 ++ (wsX7_setLoudness_r3 ++ wsX7_setLoudness_r4))) ++ wsX70 ++ wsX40 ++ wsX10 ++ wsX20)
def wsX7_setSort_r1 : List Cond := [Cond.fieldLink RX7 10 "LongTones" "state" "LLongTones$State;", Cond.fieldLink RX7 26 "LongTones" "past" "LLongTones$Past;", Cond.fieldLink RX7 101 "LongTones$State" "sorts" "LLongTones$Row;", Cond.methodLink RX7 80 yX4_hasBeat, Cond.instanceMethod yX4_hasBeat, Cond.selects RX4 yX4_hasBeat yX4_hasBeat, Cond.initialized RX4, Cond.code yX4_hasBeat cX4_hasBeat 2 (some .boolean), Cond.fieldLink RX4 45 "LongTones$State" "beats" "I", Cond.methodLink RX7 84 yX7_isWithin, Cond.static yX7_isWithin, Cond.initialized RX7, Cond.code yX7_isWithin cX7_isWithin 3 (some .boolean), Cond.methodLink RX7 67 yX1_record, Cond.instanceMethod yX1_record, Cond.selects RX1 yX1_record yX1_record, Cond.initialized RX1, Cond.code yX1_record cX1_record 3 none, Cond.fieldLink RX1 17 "LongTones$Past" "size" "I", Cond.fieldLink RX1 11 "LongTones$Past" "states" "[LLongTones$State;", Cond.classLink RX1 9 RX4, Cond.instantiable RX4 13, Cond.methodLink RX1 21 yX1_forgetOldest, Cond.instanceMethod yX1_forgetOldest]
def wsX7_setSort_r2 : List Cond := [Cond.selects RX1 yX1_forgetOldest yX1_forgetOldest, Cond.code yX1_forgetOldest cX1_forgetOldest 3 none, Cond.methodLink RX1 24 yX4_init, Cond.instanceMethod yX4_init, Cond.code yX4_init cX4_init 1 none, Cond.methodLink RX4 3 objectInit, Cond.instanceMethod objectInit, Cond.code objectInit ⟨#[0xb1]⟩ 1 none, Cond.classLink RX4 9 RX2, Cond.instantiable RX2 1, Cond.initialized RX2, Cond.fieldLink RX4 14 "LongTones$State" "sorts" "LLongTones$Row;", Cond.fieldLink RX4 20 "LongTones$State" "loudnesses" "LLongTones$Row;", Cond.fieldLink RX4 23 "LongTones$State" "marks" "LLongTones$Row;", Cond.fieldLink RX4 26 "LongTones$State" "breaths" "LLongTones$Row;", Cond.fieldLink RX4 29 "LongTones$State" "recoveries" "LLongTones$Row;", Cond.fieldLink RX4 32 "LongTones$State" "soloSingers" "LLongTones$Row;", Cond.fieldLink RX4 35 "LongTones$State" "soloStarts" "LLongTones$Row;", Cond.fieldLink RX4 38 "LongTones$State" "soloEnds" "LLongTones$Row;", Cond.fieldLink RX4 41 "LongTones$State" "reserve" "I", Cond.methodLink RX4 11 yX2_init, Cond.instanceMethod yX2_init, Cond.code yX2_init cX2_init 2 none, Cond.methodLink RX2 1 objectInit]
def wsX7_setSort_r3 : List Cond := [Cond.methodLink RX2 7 Lib.Math.max.name, Cond.static Lib.Math.max.name, Cond.initialized "java/lang/Math", Cond.code Lib.Math.max.name Lib.Math.max.code 2 (some .int), Cond.arrayClass .int, Cond.fieldLink RX2 13 "LongTones$Row" "cells" "[I", Cond.methodLink RX1 25 yX4_copyFrom, Cond.instanceMethod yX4_copyFrom, Cond.selects RX4 yX4_copyFrom yX4_copyFrom, Cond.code yX4_copyFrom cX4_copyFrom 2 none, Cond.fieldLink RX4 48 "LongTones$State" "singers" "I", Cond.fieldLink RX4 51 "LongTones$State" "present" "I", Cond.fieldLink RX4 54 "LongTones$State" "solos" "I", Cond.methodLink RX4 57 yX2_copyFrom, Cond.instanceMethod yX2_copyFrom, Cond.selects RX2 yX2_copyFrom yX2_copyFrom, Cond.code yX2_copyFrom cX2_copyFrom 3 none, Cond.methodLink RX2 19 yX2_at, Cond.instanceMethod yX2_at, Cond.selects RX2 yX2_at yX2_at, Cond.code yX2_at cX2_at 2 (some .int), Cond.methodLink RX7 104 yX2_at, Cond.methodLink RX7 92 yX2_put, Cond.instanceMethod yX2_put]
def wsX7_setSort_r4 : List Cond := [Cond.selects RX2 yX2_put yX2_put, Cond.code yX2_put cX2_put 3 none]
def wsX7_setSort : List Cond := .code yX7_setSort cX7_setSort 4 (some .int) :: ((wsX7_setSort_r1 ++ (wsX7_setSort_r2 ++ (wsX7_setSort_r3 ++ wsX7_setSort_r4))) ++ wsX70 ++ wsX40 ++ wsX10 ++ wsX20)
def wsX7_addSinger_r1 : List Cond := [Cond.fieldLink RX7 10 "LongTones" "state" "LLongTones$State;", Cond.fieldLink RX7 108 "LongTones$State" "singers" "I", Cond.fieldLink RX7 26 "LongTones" "past" "LLongTones$Past;", Cond.methodLink RX7 84 yX7_isWithin, Cond.static yX7_isWithin, Cond.initialized RX7, Cond.code yX7_isWithin cX7_isWithin 3 (some .boolean), Cond.methodLink RX7 67 yX1_record, Cond.instanceMethod yX1_record, Cond.selects RX1 yX1_record yX1_record, Cond.initialized RX1, Cond.code yX1_record cX1_record 3 none, Cond.fieldLink RX1 17 "LongTones$Past" "size" "I", Cond.fieldLink RX1 11 "LongTones$Past" "states" "[LLongTones$State;", Cond.classLink RX1 9 RX4, Cond.instantiable RX4 13, Cond.initialized RX4, Cond.methodLink RX1 21 yX1_forgetOldest, Cond.instanceMethod yX1_forgetOldest, Cond.selects RX1 yX1_forgetOldest yX1_forgetOldest, Cond.code yX1_forgetOldest cX1_forgetOldest 3 none, Cond.methodLink RX1 24 yX4_init, Cond.instanceMethod yX4_init, Cond.code yX4_init cX4_init 1 none]
def wsX7_addSinger_r2 : List Cond := [Cond.methodLink RX4 3 objectInit, Cond.instanceMethod objectInit, Cond.code objectInit ⟨#[0xb1]⟩ 1 none, Cond.classLink RX4 9 RX2, Cond.instantiable RX2 1, Cond.initialized RX2, Cond.fieldLink RX4 14 "LongTones$State" "sorts" "LLongTones$Row;", Cond.fieldLink RX4 20 "LongTones$State" "loudnesses" "LLongTones$Row;", Cond.fieldLink RX4 23 "LongTones$State" "marks" "LLongTones$Row;", Cond.fieldLink RX4 26 "LongTones$State" "breaths" "LLongTones$Row;", Cond.fieldLink RX4 29 "LongTones$State" "recoveries" "LLongTones$Row;", Cond.fieldLink RX4 32 "LongTones$State" "soloSingers" "LLongTones$Row;", Cond.fieldLink RX4 35 "LongTones$State" "soloStarts" "LLongTones$Row;", Cond.fieldLink RX4 38 "LongTones$State" "soloEnds" "LLongTones$Row;", Cond.fieldLink RX4 41 "LongTones$State" "reserve" "I", Cond.methodLink RX4 11 yX2_init, Cond.instanceMethod yX2_init, Cond.code yX2_init cX2_init 2 none, Cond.methodLink RX2 1 objectInit, Cond.methodLink RX2 7 Lib.Math.max.name, Cond.static Lib.Math.max.name, Cond.initialized "java/lang/Math", Cond.code Lib.Math.max.name Lib.Math.max.code 2 (some .int), Cond.arrayClass .int]
def wsX7_addSinger_r3 : List Cond := [Cond.fieldLink RX2 13 "LongTones$Row" "cells" "[I", Cond.methodLink RX1 25 yX4_copyFrom, Cond.instanceMethod yX4_copyFrom, Cond.selects RX4 yX4_copyFrom yX4_copyFrom, Cond.code yX4_copyFrom cX4_copyFrom 2 none, Cond.fieldLink RX4 45 "LongTones$State" "beats" "I", Cond.fieldLink RX4 48 "LongTones$State" "singers" "I", Cond.fieldLink RX4 51 "LongTones$State" "present" "I", Cond.fieldLink RX4 54 "LongTones$State" "solos" "I", Cond.methodLink RX4 57 yX2_copyFrom, Cond.instanceMethod yX2_copyFrom, Cond.selects RX2 yX2_copyFrom yX2_copyFrom, Cond.code yX2_copyFrom cX2_copyFrom 3 none, Cond.methodLink RX2 19 yX2_at, Cond.instanceMethod yX2_at, Cond.selects RX2 yX2_at yX2_at, Cond.code yX2_at cX2_at 2 (some .int), Cond.methodLink RX7 111 yX4_appendSinger, Cond.instanceMethod yX4_appendSinger, Cond.selects RX4 yX4_appendSinger yX4_appendSinger, Cond.code yX4_appendSinger cX4_appendSinger 4 (some .int), Cond.methodLink RX4 64 yX2_put, Cond.instanceMethod yX2_put, Cond.selects RX2 yX2_put yX2_put]
def wsX7_addSinger_r4 : List Cond := [Cond.code yX2_put cX2_put 3 none, Cond.static yX7_bit, Cond.code yX7_bit cX7_bit 1 (some .int)]
def wsX7_addSinger : List Cond := .code yX7_addSinger cX7_addSinger 3 (some .int) :: ((wsX7_addSinger_r1 ++ (wsX7_addSinger_r2 ++ (wsX7_addSinger_r3 ++ wsX7_addSinger_r4))) ++ wsX70 ++ wsX40 ++ wsX10 ++ wsX20)
def wsX7_setPresent_r1 : List Cond := [Cond.fieldLink RX7 10 "LongTones" "state" "LLongTones$State;", Cond.fieldLink RX7 26 "LongTones" "past" "LLongTones$Past;", Cond.fieldLink RX7 121 "LongTones$State" "present" "I", Cond.methodLink RX7 115 yX4_hasSinger, Cond.instanceMethod yX4_hasSinger, Cond.selects RX4 yX4_hasSinger yX4_hasSinger, Cond.initialized RX4, Cond.code yX4_hasSinger cX4_hasSinger 2 (some .boolean), Cond.fieldLink RX4 48 "LongTones$State" "singers" "I", Cond.methodLink RX7 118 yX4_isPresent, Cond.instanceMethod yX4_isPresent, Cond.selects RX4 yX4_isPresent yX4_isPresent, Cond.code yX4_isPresent cX4_isPresent 2 (some .boolean), Cond.fieldLink RX4 51 "LongTones$State" "present" "I", Cond.static yX7_contains, Cond.initialized RX7, Cond.code yX7_contains cX7_contains 2 (some .boolean), Cond.methodLink RX7 67 yX1_record, Cond.instanceMethod yX1_record, Cond.selects RX1 yX1_record yX1_record, Cond.initialized RX1, Cond.code yX1_record cX1_record 3 none, Cond.fieldLink RX1 17 "LongTones$Past" "size" "I", Cond.fieldLink RX1 11 "LongTones$Past" "states" "[LLongTones$State;"]
def wsX7_setPresent_r2 : List Cond := [Cond.classLink RX1 9 RX4, Cond.instantiable RX4 13, Cond.methodLink RX1 21 yX1_forgetOldest, Cond.instanceMethod yX1_forgetOldest, Cond.selects RX1 yX1_forgetOldest yX1_forgetOldest, Cond.code yX1_forgetOldest cX1_forgetOldest 3 none, Cond.methodLink RX1 24 yX4_init, Cond.instanceMethod yX4_init, Cond.code yX4_init cX4_init 1 none, Cond.methodLink RX4 3 objectInit, Cond.instanceMethod objectInit, Cond.code objectInit ⟨#[0xb1]⟩ 1 none, Cond.classLink RX4 9 RX2, Cond.instantiable RX2 1, Cond.initialized RX2, Cond.fieldLink RX4 14 "LongTones$State" "sorts" "LLongTones$Row;", Cond.fieldLink RX4 20 "LongTones$State" "loudnesses" "LLongTones$Row;", Cond.fieldLink RX4 23 "LongTones$State" "marks" "LLongTones$Row;", Cond.fieldLink RX4 26 "LongTones$State" "breaths" "LLongTones$Row;", Cond.fieldLink RX4 29 "LongTones$State" "recoveries" "LLongTones$Row;", Cond.fieldLink RX4 32 "LongTones$State" "soloSingers" "LLongTones$Row;", Cond.fieldLink RX4 35 "LongTones$State" "soloStarts" "LLongTones$Row;", Cond.fieldLink RX4 38 "LongTones$State" "soloEnds" "LLongTones$Row;", Cond.fieldLink RX4 41 "LongTones$State" "reserve" "I"]
def wsX7_setPresent_r3 : List Cond := [Cond.methodLink RX4 11 yX2_init, Cond.instanceMethod yX2_init, Cond.code yX2_init cX2_init 2 none, Cond.methodLink RX2 1 objectInit, Cond.methodLink RX2 7 Lib.Math.max.name, Cond.static Lib.Math.max.name, Cond.initialized "java/lang/Math", Cond.code Lib.Math.max.name Lib.Math.max.code 2 (some .int), Cond.arrayClass .int, Cond.fieldLink RX2 13 "LongTones$Row" "cells" "[I", Cond.methodLink RX1 25 yX4_copyFrom, Cond.instanceMethod yX4_copyFrom, Cond.selects RX4 yX4_copyFrom yX4_copyFrom, Cond.code yX4_copyFrom cX4_copyFrom 2 none, Cond.fieldLink RX4 45 "LongTones$State" "beats" "I", Cond.fieldLink RX4 54 "LongTones$State" "solos" "I", Cond.methodLink RX4 57 yX2_copyFrom, Cond.instanceMethod yX2_copyFrom, Cond.selects RX2 yX2_copyFrom yX2_copyFrom, Cond.code yX2_copyFrom cX2_copyFrom 3 none, Cond.methodLink RX2 19 yX2_at, Cond.instanceMethod yX2_at, Cond.selects RX2 yX2_at yX2_at, Cond.code yX2_at cX2_at 2 (some .int)]
def wsX7_setPresent_r4 : List Cond := [Cond.methodLink RX7 124 yX7_bit, Cond.static yX7_bit, Cond.code yX7_bit cX7_bit 1 (some .int), Cond.methodLink RX7 127 yX4_countPresent, Cond.instanceMethod yX4_countPresent, Cond.selects RX4 yX4_countPresent yX4_countPresent, Cond.code yX4_countPresent cX4_countPresent 1 (some .int), Cond.methodLink RX4 92 yJ6_bitCount_0f7a4, Cond.static yJ6_bitCount_0f7a4, Cond.initialized RJ6, Cond.code yJ6_bitCount_0f7a4 cJ6_bitCount_0f7a4 1 (some .int), Cond.constant RJ6 265 (1431655765), Cond.constant RJ6 266 (858993459), Cond.constant RJ6 267 (252645135)]
def wsX7_setPresent : List Cond := .code yX7_setPresent cX7_setPresent 3 (some .int) :: ((wsX7_setPresent_r1 ++ (wsX7_setPresent_r2 ++ (wsX7_setPresent_r3 ++ wsX7_setPresent_r4))) ++ wsX70 ++ wsX40 ++ wsX10 ++ wsX20)
def wsX7_addSolo_r1 : List Cond := [Cond.fieldLink RX7 10 "LongTones" "state" "LLongTones$State;", Cond.fieldLink RX7 134 "LongTones$State" "solos" "I", Cond.fieldLink RX7 26 "LongTones" "past" "LLongTones$Past;", Cond.methodLink RX7 115 yX4_hasSinger, Cond.instanceMethod yX4_hasSinger, Cond.selects RX4 yX4_hasSinger yX4_hasSinger, Cond.initialized RX4, Cond.code yX4_hasSinger cX4_hasSinger 2 (some .boolean), Cond.fieldLink RX4 48 "LongTones$State" "singers" "I", Cond.methodLink RX7 80 yX4_hasBeat, Cond.instanceMethod yX4_hasBeat, Cond.selects RX4 yX4_hasBeat yX4_hasBeat, Cond.code yX4_hasBeat cX4_hasBeat 2 (some .boolean), Cond.fieldLink RX4 45 "LongTones$State" "beats" "I", Cond.methodLink RX7 130 yX4_overlapsSolo, Cond.instanceMethod yX4_overlapsSolo, Cond.selects RX4 yX4_overlapsSolo yX4_overlapsSolo, Cond.code yX4_overlapsSolo cX4_overlapsSolo 4 (some .boolean), Cond.fieldLink RX4 54 "LongTones$State" "solos" "I", Cond.fieldLink RX4 35 "LongTones$State" "soloStarts" "LLongTones$Row;", Cond.fieldLink RX4 38 "LongTones$State" "soloEnds" "LLongTones$Row;", Cond.methodLink RX4 68 yX2_at, Cond.instanceMethod yX2_at, Cond.selects RX2 yX2_at yX2_at]
def wsX7_addSolo_r2 : List Cond := [Cond.initialized RX2, Cond.code yX2_at cX2_at 2 (some .int), Cond.fieldLink RX2 13 "LongTones$Row" "cells" "[I", Cond.methodLink RX7 67 yX1_record, Cond.instanceMethod yX1_record, Cond.selects RX1 yX1_record yX1_record, Cond.initialized RX1, Cond.code yX1_record cX1_record 3 none, Cond.fieldLink RX1 17 "LongTones$Past" "size" "I", Cond.fieldLink RX1 11 "LongTones$Past" "states" "[LLongTones$State;", Cond.classLink RX1 9 RX4, Cond.instantiable RX4 13, Cond.methodLink RX1 21 yX1_forgetOldest, Cond.instanceMethod yX1_forgetOldest, Cond.selects RX1 yX1_forgetOldest yX1_forgetOldest, Cond.code yX1_forgetOldest cX1_forgetOldest 3 none, Cond.methodLink RX1 24 yX4_init, Cond.instanceMethod yX4_init, Cond.code yX4_init cX4_init 1 none, Cond.methodLink RX4 3 objectInit, Cond.instanceMethod objectInit, Cond.code objectInit ⟨#[0xb1]⟩ 1 none, Cond.classLink RX4 9 RX2, Cond.instantiable RX2 1]
def wsX7_addSolo_r3 : List Cond := [Cond.fieldLink RX4 14 "LongTones$State" "sorts" "LLongTones$Row;", Cond.fieldLink RX4 20 "LongTones$State" "loudnesses" "LLongTones$Row;", Cond.fieldLink RX4 23 "LongTones$State" "marks" "LLongTones$Row;", Cond.fieldLink RX4 26 "LongTones$State" "breaths" "LLongTones$Row;", Cond.fieldLink RX4 29 "LongTones$State" "recoveries" "LLongTones$Row;", Cond.fieldLink RX4 32 "LongTones$State" "soloSingers" "LLongTones$Row;", Cond.fieldLink RX4 41 "LongTones$State" "reserve" "I", Cond.methodLink RX4 11 yX2_init, Cond.instanceMethod yX2_init, Cond.code yX2_init cX2_init 2 none, Cond.methodLink RX2 1 objectInit, Cond.methodLink RX2 7 Lib.Math.max.name, Cond.static Lib.Math.max.name, Cond.initialized "java/lang/Math", Cond.code Lib.Math.max.name Lib.Math.max.code 2 (some .int), Cond.arrayClass .int, Cond.methodLink RX1 25 yX4_copyFrom, Cond.instanceMethod yX4_copyFrom, Cond.selects RX4 yX4_copyFrom yX4_copyFrom, Cond.code yX4_copyFrom cX4_copyFrom 2 none, Cond.fieldLink RX4 51 "LongTones$State" "present" "I", Cond.methodLink RX4 57 yX2_copyFrom, Cond.instanceMethod yX2_copyFrom, Cond.selects RX2 yX2_copyFrom yX2_copyFrom]
def wsX7_addSolo_r4 : List Cond := [Cond.code yX2_copyFrom cX2_copyFrom 3 none, Cond.methodLink RX2 19 yX2_at, Cond.methodLink RX7 137 yX4_insertSolo, Cond.instanceMethod yX4_insertSolo, Cond.selects RX4 yX4_insertSolo yX4_insertSolo, Cond.code yX4_insertSolo cX4_insertSolo 5 (some .int), Cond.methodLink RX4 97 yX4_moveSolo, Cond.instanceMethod yX4_moveSolo, Cond.selects RX4 yX4_moveSolo yX4_moveSolo, Cond.code yX4_moveSolo cX4_moveSolo 3 none, Cond.methodLink RX4 64 yX2_put, Cond.instanceMethod yX2_put, Cond.selects RX2 yX2_put yX2_put, Cond.code yX2_put cX2_put 3 none]
def wsX7_addSolo : List Cond := .code yX7_addSolo cX7_addSolo 4 (some .int) :: ((wsX7_addSolo_r1 ++ (wsX7_addSolo_r2 ++ (wsX7_addSolo_r3 ++ wsX7_addSolo_r4))) ++ wsX70 ++ wsX40 ++ wsX20 ++ wsX10)
def wsX7_removeSolo_r1 : List Cond := [Cond.fieldLink RX7 10 "LongTones" "state" "LLongTones$State;", Cond.fieldLink RX7 26 "LongTones" "past" "LLongTones$Past;", Cond.fieldLink RX7 134 "LongTones$State" "solos" "I", Cond.methodLink RX7 141 yX4_hasSolo, Cond.instanceMethod yX4_hasSolo, Cond.selects RX4 yX4_hasSolo yX4_hasSolo, Cond.initialized RX4, Cond.code yX4_hasSolo cX4_hasSolo 2 (some .boolean), Cond.fieldLink RX4 54 "LongTones$State" "solos" "I", Cond.methodLink RX7 67 yX1_record, Cond.instanceMethod yX1_record, Cond.selects RX1 yX1_record yX1_record, Cond.initialized RX1, Cond.code yX1_record cX1_record 3 none, Cond.fieldLink RX1 17 "LongTones$Past" "size" "I", Cond.fieldLink RX1 11 "LongTones$Past" "states" "[LLongTones$State;", Cond.classLink RX1 9 RX4, Cond.instantiable RX4 13, Cond.methodLink RX1 21 yX1_forgetOldest, Cond.instanceMethod yX1_forgetOldest, Cond.selects RX1 yX1_forgetOldest yX1_forgetOldest, Cond.code yX1_forgetOldest cX1_forgetOldest 3 none, Cond.methodLink RX1 24 yX4_init, Cond.instanceMethod yX4_init]
def wsX7_removeSolo_r2 : List Cond := [Cond.code yX4_init cX4_init 1 none, Cond.methodLink RX4 3 objectInit, Cond.instanceMethod objectInit, Cond.code objectInit ⟨#[0xb1]⟩ 1 none, Cond.classLink RX4 9 RX2, Cond.instantiable RX2 1, Cond.initialized RX2, Cond.fieldLink RX4 14 "LongTones$State" "sorts" "LLongTones$Row;", Cond.fieldLink RX4 20 "LongTones$State" "loudnesses" "LLongTones$Row;", Cond.fieldLink RX4 23 "LongTones$State" "marks" "LLongTones$Row;", Cond.fieldLink RX4 26 "LongTones$State" "breaths" "LLongTones$Row;", Cond.fieldLink RX4 29 "LongTones$State" "recoveries" "LLongTones$Row;", Cond.fieldLink RX4 32 "LongTones$State" "soloSingers" "LLongTones$Row;", Cond.fieldLink RX4 35 "LongTones$State" "soloStarts" "LLongTones$Row;", Cond.fieldLink RX4 38 "LongTones$State" "soloEnds" "LLongTones$Row;", Cond.fieldLink RX4 41 "LongTones$State" "reserve" "I", Cond.methodLink RX4 11 yX2_init, Cond.instanceMethod yX2_init, Cond.code yX2_init cX2_init 2 none, Cond.methodLink RX2 1 objectInit, Cond.methodLink RX2 7 Lib.Math.max.name, Cond.static Lib.Math.max.name, Cond.initialized "java/lang/Math", Cond.code Lib.Math.max.name Lib.Math.max.code 2 (some .int)]
def wsX7_removeSolo_r3 : List Cond := [Cond.arrayClass .int, Cond.fieldLink RX2 13 "LongTones$Row" "cells" "[I", Cond.methodLink RX1 25 yX4_copyFrom, Cond.instanceMethod yX4_copyFrom, Cond.selects RX4 yX4_copyFrom yX4_copyFrom, Cond.code yX4_copyFrom cX4_copyFrom 2 none, Cond.fieldLink RX4 45 "LongTones$State" "beats" "I", Cond.fieldLink RX4 48 "LongTones$State" "singers" "I", Cond.fieldLink RX4 51 "LongTones$State" "present" "I", Cond.methodLink RX4 57 yX2_copyFrom, Cond.instanceMethod yX2_copyFrom, Cond.selects RX2 yX2_copyFrom yX2_copyFrom, Cond.code yX2_copyFrom cX2_copyFrom 3 none, Cond.methodLink RX2 19 yX2_at, Cond.instanceMethod yX2_at, Cond.selects RX2 yX2_at yX2_at, Cond.code yX2_at cX2_at 2 (some .int), Cond.methodLink RX7 144 yX4_dropSolo, Cond.instanceMethod yX4_dropSolo, Cond.selects RX4 yX4_dropSolo yX4_dropSolo, Cond.code yX4_dropSolo cX4_dropSolo 3 none, Cond.methodLink RX4 97 yX4_moveSolo, Cond.instanceMethod yX4_moveSolo, Cond.selects RX4 yX4_moveSolo yX4_moveSolo]
def wsX7_removeSolo_r4 : List Cond := [Cond.code yX4_moveSolo cX4_moveSolo 3 none, Cond.methodLink RX4 68 yX2_at, Cond.methodLink RX4 64 yX2_put, Cond.instanceMethod yX2_put, Cond.selects RX2 yX2_put yX2_put, Cond.code yX2_put cX2_put 3 none]
def wsX7_removeSolo : List Cond := .code yX7_removeSolo cX7_removeSolo 2 (some .int) :: ((wsX7_removeSolo_r1 ++ (wsX7_removeSolo_r2 ++ (wsX7_removeSolo_r3 ++ wsX7_removeSolo_r4))) ++ wsX70 ++ wsX40 ++ wsX10 ++ wsX20)
def wsX7_mark_r1 : List Cond := [Cond.fieldLink RX7 10 "LongTones" "state" "LLongTones$State;", Cond.fieldLink RX7 26 "LongTones" "past" "LLongTones$Past;", Cond.fieldLink RX7 151 "LongTones$State" "marks" "LLongTones$Row;", Cond.methodLink RX7 115 yX4_hasSinger, Cond.instanceMethod yX4_hasSinger, Cond.selects RX4 yX4_hasSinger yX4_hasSinger, Cond.initialized RX4, Cond.code yX4_hasSinger cX4_hasSinger 2 (some .boolean), Cond.fieldLink RX4 48 "LongTones$State" "singers" "I", Cond.methodLink RX7 80 yX4_hasBeat, Cond.instanceMethod yX4_hasBeat, Cond.selects RX4 yX4_hasBeat yX4_hasBeat, Cond.code yX4_hasBeat cX4_hasBeat 2 (some .boolean), Cond.fieldLink RX4 45 "LongTones$State" "beats" "I", Cond.methodLink RX7 148 yX4_isMarked, Cond.instanceMethod yX4_isMarked, Cond.selects RX4 yX4_isMarked yX4_isMarked, Cond.code yX4_isMarked cX4_isMarked 3 (some .boolean), Cond.fieldLink RX4 23 "LongTones$State" "marks" "LLongTones$Row;", Cond.methodLink RX4 68 yX2_at, Cond.instanceMethod yX2_at, Cond.selects RX2 yX2_at yX2_at, Cond.initialized RX2, Cond.code yX2_at cX2_at 2 (some .int)]
def wsX7_mark_r2 : List Cond := [Cond.fieldLink RX2 13 "LongTones$Row" "cells" "[I", Cond.static yX7_contains, Cond.initialized RX7, Cond.code yX7_contains cX7_contains 2 (some .boolean), Cond.methodLink RX7 67 yX1_record, Cond.instanceMethod yX1_record, Cond.selects RX1 yX1_record yX1_record, Cond.initialized RX1, Cond.code yX1_record cX1_record 3 none, Cond.fieldLink RX1 17 "LongTones$Past" "size" "I", Cond.fieldLink RX1 11 "LongTones$Past" "states" "[LLongTones$State;", Cond.classLink RX1 9 RX4, Cond.instantiable RX4 13, Cond.methodLink RX1 21 yX1_forgetOldest, Cond.instanceMethod yX1_forgetOldest, Cond.selects RX1 yX1_forgetOldest yX1_forgetOldest, Cond.code yX1_forgetOldest cX1_forgetOldest 3 none, Cond.methodLink RX1 24 yX4_init, Cond.instanceMethod yX4_init, Cond.code yX4_init cX4_init 1 none, Cond.methodLink RX4 3 objectInit, Cond.instanceMethod objectInit, Cond.code objectInit ⟨#[0xb1]⟩ 1 none, Cond.classLink RX4 9 RX2]
def wsX7_mark_r3 : List Cond := [Cond.instantiable RX2 1, Cond.fieldLink RX4 14 "LongTones$State" "sorts" "LLongTones$Row;", Cond.fieldLink RX4 20 "LongTones$State" "loudnesses" "LLongTones$Row;", Cond.fieldLink RX4 26 "LongTones$State" "breaths" "LLongTones$Row;", Cond.fieldLink RX4 29 "LongTones$State" "recoveries" "LLongTones$Row;", Cond.fieldLink RX4 32 "LongTones$State" "soloSingers" "LLongTones$Row;", Cond.fieldLink RX4 35 "LongTones$State" "soloStarts" "LLongTones$Row;", Cond.fieldLink RX4 38 "LongTones$State" "soloEnds" "LLongTones$Row;", Cond.fieldLink RX4 41 "LongTones$State" "reserve" "I", Cond.methodLink RX4 11 yX2_init, Cond.instanceMethod yX2_init, Cond.code yX2_init cX2_init 2 none, Cond.methodLink RX2 1 objectInit, Cond.methodLink RX2 7 Lib.Math.max.name, Cond.static Lib.Math.max.name, Cond.initialized "java/lang/Math", Cond.code Lib.Math.max.name Lib.Math.max.code 2 (some .int), Cond.arrayClass .int, Cond.methodLink RX1 25 yX4_copyFrom, Cond.instanceMethod yX4_copyFrom, Cond.selects RX4 yX4_copyFrom yX4_copyFrom, Cond.code yX4_copyFrom cX4_copyFrom 2 none, Cond.fieldLink RX4 51 "LongTones$State" "present" "I", Cond.fieldLink RX4 54 "LongTones$State" "solos" "I"]
def wsX7_mark_r4 : List Cond := [Cond.methodLink RX4 57 yX2_copyFrom, Cond.instanceMethod yX2_copyFrom, Cond.selects RX2 yX2_copyFrom yX2_copyFrom, Cond.code yX2_copyFrom cX2_copyFrom 3 none, Cond.methodLink RX2 19 yX2_at, Cond.methodLink RX7 104 yX2_at, Cond.methodLink RX7 124 yX7_bit, Cond.static yX7_bit, Cond.code yX7_bit cX7_bit 1 (some .int), Cond.methodLink RX7 92 yX2_put, Cond.instanceMethod yX2_put, Cond.selects RX2 yX2_put yX2_put, Cond.code yX2_put cX2_put 3 none, Cond.methodLink RX7 154 yX4_countMarksOf, Cond.instanceMethod yX4_countMarksOf, Cond.selects RX4 yX4_countMarksOf yX4_countMarksOf, Cond.code yX4_countMarksOf cX4_countMarksOf 4 (some .int), Cond.methodLink RX4 100 yX4_isMarked]
def wsX7_mark : List Cond := .code yX7_mark cX7_mark 4 (some .int) :: ((wsX7_mark_r1 ++ (wsX7_mark_r2 ++ (wsX7_mark_r3 ++ wsX7_mark_r4))) ++ wsX70 ++ wsX40 ++ wsX20 ++ wsX10)
def wsX7_setReserve_r1 : List Cond := [Cond.fieldLink RX7 26 "LongTones" "past" "LLongTones$Past;", Cond.fieldLink RX7 10 "LongTones" "state" "LLongTones$State;", Cond.fieldLink RX7 157 "LongTones$State" "reserve" "I", Cond.methodLink RX7 84 yX7_isWithin, Cond.static yX7_isWithin, Cond.initialized RX7, Cond.code yX7_isWithin cX7_isWithin 3 (some .boolean), Cond.methodLink RX7 67 yX1_record, Cond.instanceMethod yX1_record, Cond.selects RX1 yX1_record yX1_record, Cond.initialized RX1, Cond.code yX1_record cX1_record 3 none, Cond.fieldLink RX1 17 "LongTones$Past" "size" "I", Cond.fieldLink RX1 11 "LongTones$Past" "states" "[LLongTones$State;", Cond.classLink RX1 9 RX4, Cond.instantiable RX4 13, Cond.initialized RX4, Cond.methodLink RX1 21 yX1_forgetOldest, Cond.instanceMethod yX1_forgetOldest, Cond.selects RX1 yX1_forgetOldest yX1_forgetOldest, Cond.code yX1_forgetOldest cX1_forgetOldest 3 none, Cond.methodLink RX1 24 yX4_init, Cond.instanceMethod yX4_init, Cond.code yX4_init cX4_init 1 none]
def wsX7_setReserve_r2 : List Cond := [Cond.methodLink RX4 3 objectInit, Cond.instanceMethod objectInit, Cond.code objectInit ⟨#[0xb1]⟩ 1 none, Cond.classLink RX4 9 RX2, Cond.instantiable RX2 1, Cond.initialized RX2, Cond.fieldLink RX4 14 "LongTones$State" "sorts" "LLongTones$Row;", Cond.fieldLink RX4 20 "LongTones$State" "loudnesses" "LLongTones$Row;", Cond.fieldLink RX4 23 "LongTones$State" "marks" "LLongTones$Row;", Cond.fieldLink RX4 26 "LongTones$State" "breaths" "LLongTones$Row;", Cond.fieldLink RX4 29 "LongTones$State" "recoveries" "LLongTones$Row;", Cond.fieldLink RX4 32 "LongTones$State" "soloSingers" "LLongTones$Row;", Cond.fieldLink RX4 35 "LongTones$State" "soloStarts" "LLongTones$Row;", Cond.fieldLink RX4 38 "LongTones$State" "soloEnds" "LLongTones$Row;", Cond.fieldLink RX4 41 "LongTones$State" "reserve" "I", Cond.methodLink RX4 11 yX2_init, Cond.instanceMethod yX2_init, Cond.code yX2_init cX2_init 2 none, Cond.methodLink RX2 1 objectInit, Cond.methodLink RX2 7 Lib.Math.max.name, Cond.static Lib.Math.max.name, Cond.initialized "java/lang/Math", Cond.code Lib.Math.max.name Lib.Math.max.code 2 (some .int), Cond.arrayClass .int]
def wsX7_setReserve_r3 : List Cond := [Cond.fieldLink RX2 13 "LongTones$Row" "cells" "[I", Cond.methodLink RX1 25 yX4_copyFrom, Cond.instanceMethod yX4_copyFrom, Cond.selects RX4 yX4_copyFrom yX4_copyFrom, Cond.code yX4_copyFrom cX4_copyFrom 2 none, Cond.fieldLink RX4 45 "LongTones$State" "beats" "I", Cond.fieldLink RX4 48 "LongTones$State" "singers" "I", Cond.fieldLink RX4 51 "LongTones$State" "present" "I", Cond.fieldLink RX4 54 "LongTones$State" "solos" "I", Cond.methodLink RX4 57 yX2_copyFrom, Cond.instanceMethod yX2_copyFrom, Cond.selects RX2 yX2_copyFrom yX2_copyFrom, Cond.code yX2_copyFrom cX2_copyFrom 3 none, Cond.methodLink RX2 19 yX2_at, Cond.instanceMethod yX2_at, Cond.selects RX2 yX2_at yX2_at, Cond.code yX2_at cX2_at 2 (some .int)]
def wsX7_setReserve : List Cond := .code yX7_setReserve cX7_setReserve 3 (some .int) :: ((wsX7_setReserve_r1 ++ (wsX7_setReserve_r2 ++ wsX7_setReserve_r3)) ++ wsX70 ++ wsX40 ++ wsX10 ++ wsX20)
def wsX7_make_r1 : List Cond := [Cond.fieldLink RX7 10 "LongTones" "state" "LLongTones$State;", Cond.fieldLink RX7 121 "LongTones$State" "present" "I", Cond.fieldLink RX7 77 "LongTones$State" "beats" "I", Cond.fieldLink RX7 26 "LongTones" "past" "LLongTones$Past;", Cond.fieldLink RX7 51 "LongTones" "turns" "LLongTones$Turns;", Cond.methodLink RX7 67 yX1_record, Cond.instanceMethod yX1_record, Cond.selects RX1 yX1_record yX1_record, Cond.initialized RX1, Cond.code yX1_record cX1_record 3 none, Cond.fieldLink RX1 17 "LongTones$Past" "size" "I", Cond.fieldLink RX1 11 "LongTones$Past" "states" "[LLongTones$State;", Cond.classLink RX1 9 RX4, Cond.instantiable RX4 13, Cond.initialized RX4, Cond.methodLink RX1 21 yX1_forgetOldest, Cond.instanceMethod yX1_forgetOldest, Cond.selects RX1 yX1_forgetOldest yX1_forgetOldest, Cond.code yX1_forgetOldest cX1_forgetOldest 3 none, Cond.methodLink RX1 24 yX4_init, Cond.instanceMethod yX4_init, Cond.code yX4_init cX4_init 1 none, Cond.methodLink RX4 3 objectInit, Cond.instanceMethod objectInit]
def wsX7_make_r2 : List Cond := [Cond.code objectInit ⟨#[0xb1]⟩ 1 none, Cond.classLink RX4 9 RX2, Cond.instantiable RX2 1, Cond.initialized RX2, Cond.fieldLink RX4 14 "LongTones$State" "sorts" "LLongTones$Row;", Cond.fieldLink RX4 20 "LongTones$State" "loudnesses" "LLongTones$Row;", Cond.fieldLink RX4 23 "LongTones$State" "marks" "LLongTones$Row;", Cond.fieldLink RX4 26 "LongTones$State" "breaths" "LLongTones$Row;", Cond.fieldLink RX4 29 "LongTones$State" "recoveries" "LLongTones$Row;", Cond.fieldLink RX4 32 "LongTones$State" "soloSingers" "LLongTones$Row;", Cond.fieldLink RX4 35 "LongTones$State" "soloStarts" "LLongTones$Row;", Cond.fieldLink RX4 38 "LongTones$State" "soloEnds" "LLongTones$Row;", Cond.fieldLink RX4 41 "LongTones$State" "reserve" "I", Cond.methodLink RX4 11 yX2_init, Cond.instanceMethod yX2_init, Cond.code yX2_init cX2_init 2 none, Cond.methodLink RX2 1 objectInit, Cond.methodLink RX2 7 Lib.Math.max.name, Cond.static Lib.Math.max.name, Cond.initialized "java/lang/Math", Cond.code Lib.Math.max.name Lib.Math.max.code 2 (some .int), Cond.arrayClass .int, Cond.fieldLink RX2 13 "LongTones$Row" "cells" "[I", Cond.methodLink RX1 25 yX4_copyFrom]
def wsX7_make_r3 : List Cond := [Cond.instanceMethod yX4_copyFrom, Cond.selects RX4 yX4_copyFrom yX4_copyFrom, Cond.code yX4_copyFrom cX4_copyFrom 2 none, Cond.fieldLink RX4 45 "LongTones$State" "beats" "I", Cond.fieldLink RX4 48 "LongTones$State" "singers" "I", Cond.fieldLink RX4 51 "LongTones$State" "present" "I", Cond.fieldLink RX4 54 "LongTones$State" "solos" "I", Cond.methodLink RX4 57 yX2_copyFrom, Cond.instanceMethod yX2_copyFrom, Cond.selects RX2 yX2_copyFrom yX2_copyFrom, Cond.code yX2_copyFrom cX2_copyFrom 3 none, Cond.methodLink RX2 19 yX2_at, Cond.instanceMethod yX2_at, Cond.selects RX2 yX2_at yX2_at, Cond.code yX2_at cX2_at 2 (some .int), Cond.methodLink RX7 160 yX5_makePlan, Cond.instanceMethod yX5_makePlan, Cond.selects RX5 yX5_makePlan yX5_makePlan, Cond.initialized RX5, Cond.code yX5_makePlan cX5_makePlan 3 none, Cond.fieldLink RX5 20 "LongTones$State" "marks" "LLongTones$Row;", Cond.fieldLink RX5 14 "LongTones$Turns" "lefts" "LLongTones$Row;", Cond.fieldLink RX5 28 "LongTones$State" "breaths" "LLongTones$Row;", Cond.fieldLink RX5 35 "LongTones$State" "beats" "I"]
def wsX7_make_r4 : List Cond := [Cond.methodLink RX5 25 yX2_clear, Cond.instanceMethod yX2_clear, Cond.selects RX2 yX2_clear yX2_clear, Cond.code yX2_clear cX2_clear 2 none, Cond.methodLink RX5 31 yX2_copyFrom, Cond.methodLink RX5 39 yX4_isRest, Cond.instanceMethod yX4_isRest, Cond.selects RX4 yX4_isRest yX4_isRest, Cond.code yX4_isRest cX4_isRest 2 (some .boolean), Cond.methodLink RX4 68 yX2_at, Cond.methodLink RX5 43 yX4_soloAt, Cond.instanceMethod yX4_soloAt, Cond.selects RX4 yX4_soloAt yX4_soloAt, Cond.code yX4_soloAt cX4_soloAt 3 (some .int), Cond.methodLink RX5 47 yX5_chooseFor, Cond.instanceMethod yX5_chooseFor, Cond.selects RX5 yX5_chooseFor yX5_chooseFor, Cond.code yX5_chooseFor cX5_chooseFor 8 (some .int), Cond.methodLink RX5 66 Lib.Math.max.name, Cond.methodLink RX5 59 yX5_neededFrom, Cond.instanceMethod yX5_neededFrom, Cond.selects RX5 yX5_neededFrom yX5_neededFrom, Cond.code yX5_neededFrom cX5_neededFrom 6 (some .int), Cond.fieldLink RX5 83 "LongTones$State" "reserve" "I"]
def wsX7_make_r5 : List Cond := [Cond.fieldLink RX5 86 "LongTones$State" "loudnesses" "LLongTones$Row;", Cond.methodLink RX5 89 yX2_at, Cond.methodLink RX5 62 yX4_countPresent, Cond.instanceMethod yX4_countPresent, Cond.selects RX4 yX4_countPresent yX4_countPresent, Cond.code yX4_countPresent cX4_countPresent 1 (some .int), Cond.methodLink RX4 92 yJ6_bitCount_0f7a4, Cond.static yJ6_bitCount_0f7a4, Cond.initialized RJ6, Cond.code yJ6_bitCount_0f7a4 cJ6_bitCount_0f7a4 1 (some .int), Cond.constant RJ6 265 (1431655765), Cond.constant RJ6 266 (858993459), Cond.constant RJ6 267 (252645135), Cond.methodLink RX5 72 yX5_shortestOfBreath, Cond.instanceMethod yX5_shortestOfBreath, Cond.selects RX5 yX5_shortestOfBreath yX5_shortestOfBreath, Cond.code yX5_shortestOfBreath cX5_shortestOfBreath 8 (some .int), Cond.fieldLink RX5 92 "LongTones$State" "singers" "I", Cond.methodLink RX5 95 yX4_isPresent, Cond.instanceMethod yX4_isPresent, Cond.selects RX4 yX4_isPresent yX4_isPresent, Cond.code yX4_isPresent cX4_isPresent 2 (some .boolean), Cond.static yX7_contains, Cond.initialized RX7]
def wsX7_make_r6 : List Cond := [Cond.code yX7_contains cX7_contains 2 (some .boolean), Cond.static yX7_bit, Cond.code yX7_bit cX7_bit 1 (some .int), Cond.methodLink RX5 79 yX5_canBeSungWithout, Cond.instanceMethod yX5_canBeSungWithout, Cond.selects RX5 yX5_canBeSungWithout yX5_canBeSungWithout, Cond.code yX5_canBeSungWithout cX5_canBeSungWithout 6 (some .boolean), Cond.methodLink RX5 51 yX2_put, Cond.instanceMethod yX2_put, Cond.selects RX2 yX2_put yX2_put, Cond.code yX2_put cX2_put 3 none, Cond.methodLink RX5 55 yX5_goThrough, Cond.instanceMethod yX5_goThrough, Cond.selects RX5 yX5_goThrough yX5_goThrough, Cond.code yX5_goThrough cX5_goThrough 6 none, Cond.fieldLink RX5 106 "LongTones$State" "recoveries" "LLongTones$Row;", Cond.methodLink RX5 109 Lib.Math.min.name, Cond.static Lib.Math.min.name, Cond.code Lib.Math.min.name Lib.Math.min.code 2 (some .int), Cond.methodLink RX5 102 yX4_doing, Cond.instanceMethod yX4_doing, Cond.selects RX4 yX4_doing yX4_doing, Cond.code yX4_doing cX4_doing 4 (some .int), Cond.methodLink RX4 109 yX4_hasToSing]
def wsX7_make_r7 : List Cond := [Cond.instanceMethod yX4_hasToSing, Cond.selects RX4 yX4_hasToSing yX4_hasToSing, Cond.code yX4_hasToSing cX4_hasToSing 4 (some .boolean), Cond.methodLink RX4 72 yX4_isRest, Cond.methodLink RX4 103 yX4_isPresent, Cond.methodLink RX4 106 yX4_soloAt, Cond.methodLink RX4 100 yX4_isMarked, Cond.instanceMethod yX4_isMarked, Cond.selects RX4 yX4_isMarked yX4_isMarked, Cond.code yX4_isMarked cX4_isMarked 3 (some .boolean), Cond.methodLink RX7 163 yX4_countMarks, Cond.instanceMethod yX4_countMarks, Cond.selects RX4 yX4_countMarks yX4_countMarks, Cond.code yX4_countMarks cX4_countMarks 3 (some .int)]
def wsX7_make : List Cond := .code yX7_make cX7_make 1 (some .int) :: ((wsX7_make_r1 ++ (wsX7_make_r2 ++ (wsX7_make_r3 ++ (wsX7_make_r4 ++ (wsX7_make_r5 ++ (wsX7_make_r6 ++ wsX7_make_r7)))))) ++ wsX70 ++ wsX40 ++ wsX10 ++ wsX20 ++ wsX50)
def wsX7_undo_r1 : List Cond := [Cond.fieldLink RX7 26 "LongTones" "past" "LLongTones$Past;", Cond.fieldLink RX7 166 "LongTones$Past" "size" "I", Cond.fieldLink RX7 10 "LongTones" "state" "LLongTones$State;", Cond.methodLink RX7 169 yX1_takeBack, Cond.instanceMethod yX1_takeBack, Cond.selects RX1 yX1_takeBack yX1_takeBack, Cond.initialized RX1, Cond.code yX1_takeBack cX1_takeBack 4 none, Cond.fieldLink RX1 17 "LongTones$Past" "size" "I", Cond.fieldLink RX1 11 "LongTones$Past" "states" "[LLongTones$State;", Cond.methodLink RX1 25 yX4_copyFrom, Cond.instanceMethod yX4_copyFrom, Cond.selects RX4 yX4_copyFrom yX4_copyFrom, Cond.initialized RX4, Cond.code yX4_copyFrom cX4_copyFrom 2 none, Cond.fieldLink RX4 45 "LongTones$State" "beats" "I", Cond.fieldLink RX4 48 "LongTones$State" "singers" "I", Cond.fieldLink RX4 51 "LongTones$State" "present" "I", Cond.fieldLink RX4 54 "LongTones$State" "solos" "I", Cond.fieldLink RX4 41 "LongTones$State" "reserve" "I", Cond.fieldLink RX4 14 "LongTones$State" "sorts" "LLongTones$Row;", Cond.fieldLink RX4 20 "LongTones$State" "loudnesses" "LLongTones$Row;", Cond.fieldLink RX4 23 "LongTones$State" "marks" "LLongTones$Row;", Cond.fieldLink RX4 26 "LongTones$State" "breaths" "LLongTones$Row;"]
def wsX7_undo_r2 : List Cond := [Cond.fieldLink RX4 29 "LongTones$State" "recoveries" "LLongTones$Row;", Cond.fieldLink RX4 32 "LongTones$State" "soloSingers" "LLongTones$Row;", Cond.fieldLink RX4 35 "LongTones$State" "soloStarts" "LLongTones$Row;", Cond.fieldLink RX4 38 "LongTones$State" "soloEnds" "LLongTones$Row;", Cond.methodLink RX4 57 yX2_copyFrom, Cond.instanceMethod yX2_copyFrom, Cond.selects RX2 yX2_copyFrom yX2_copyFrom, Cond.initialized RX2, Cond.code yX2_copyFrom cX2_copyFrom 3 none, Cond.fieldLink RX2 13 "LongTones$Row" "cells" "[I", Cond.methodLink RX2 19 yX2_at, Cond.instanceMethod yX2_at, Cond.selects RX2 yX2_at yX2_at, Cond.code yX2_at cX2_at 2 (some .int)]
def wsX7_undo : List Cond := .code yX7_undo cX7_undo 1 (some .int) :: ((wsX7_undo_r1 ++ wsX7_undo_r2) ++ wsX70 ++ wsX10 ++ wsX40 ++ wsX20)
def wsX7_keep_r1 : List Cond := [Cond.fieldLink RX7 30 "LongTones" "snapshots" "[LLongTones$State;", Cond.classLink RX7 7 RX4, Cond.instantiable RX4 13, Cond.initialized RX4, Cond.fieldLink RX7 10 "LongTones" "state" "LLongTones$State;", Cond.fieldLink RX7 77 "LongTones$State" "beats" "I", Cond.methodLink RX7 9 yX4_init, Cond.instanceMethod yX4_init, Cond.code yX4_init cX4_init 1 none, Cond.methodLink RX4 3 objectInit, Cond.instanceMethod objectInit, Cond.code objectInit ⟨#[0xb1]⟩ 1 none, Cond.classLink RX4 9 RX2, Cond.instantiable RX2 1, Cond.initialized RX2, Cond.fieldLink RX4 14 "LongTones$State" "sorts" "LLongTones$Row;", Cond.fieldLink RX4 20 "LongTones$State" "loudnesses" "LLongTones$Row;", Cond.fieldLink RX4 23 "LongTones$State" "marks" "LLongTones$Row;", Cond.fieldLink RX4 26 "LongTones$State" "breaths" "LLongTones$Row;", Cond.fieldLink RX4 29 "LongTones$State" "recoveries" "LLongTones$Row;", Cond.fieldLink RX4 32 "LongTones$State" "soloSingers" "LLongTones$Row;", Cond.fieldLink RX4 35 "LongTones$State" "soloStarts" "LLongTones$Row;", Cond.fieldLink RX4 38 "LongTones$State" "soloEnds" "LLongTones$Row;", Cond.fieldLink RX4 41 "LongTones$State" "reserve" "I"]
def wsX7_keep_r2 : List Cond := [Cond.methodLink RX4 11 yX2_init, Cond.instanceMethod yX2_init, Cond.code yX2_init cX2_init 2 none, Cond.methodLink RX2 1 objectInit, Cond.methodLink RX2 7 Lib.Math.max.name, Cond.static Lib.Math.max.name, Cond.initialized "java/lang/Math", Cond.code Lib.Math.max.name Lib.Math.max.code 2 (some .int), Cond.arrayClass .int, Cond.fieldLink RX2 13 "LongTones$Row" "cells" "[I", Cond.methodLink RX7 172 yX4_copyFrom, Cond.instanceMethod yX4_copyFrom, Cond.selects RX4 yX4_copyFrom yX4_copyFrom, Cond.code yX4_copyFrom cX4_copyFrom 2 none, Cond.fieldLink RX4 45 "LongTones$State" "beats" "I", Cond.fieldLink RX4 48 "LongTones$State" "singers" "I", Cond.fieldLink RX4 51 "LongTones$State" "present" "I", Cond.fieldLink RX4 54 "LongTones$State" "solos" "I", Cond.methodLink RX4 57 yX2_copyFrom, Cond.instanceMethod yX2_copyFrom, Cond.selects RX2 yX2_copyFrom yX2_copyFrom, Cond.code yX2_copyFrom cX2_copyFrom 3 none, Cond.methodLink RX2 19 yX2_at, Cond.instanceMethod yX2_at]
def wsX7_keep_r3 : List Cond := [Cond.selects RX2 yX2_at yX2_at, Cond.code yX2_at cX2_at 2 (some .int)]
def wsX7_keep : List Cond := .code yX7_keep cX7_keep 3 (some .int) :: ((wsX7_keep_r1 ++ (wsX7_keep_r2 ++ wsX7_keep_r3)) ++ wsX70 ++ wsX40 ++ wsX20)
def wsX7_restore_r1 : List Cond := [Cond.fieldLink RX7 30 "LongTones" "snapshots" "[LLongTones$State;", Cond.fieldLink RX7 26 "LongTones" "past" "LLongTones$Past;", Cond.fieldLink RX7 10 "LongTones" "state" "LLongTones$State;", Cond.fieldLink RX7 77 "LongTones$State" "beats" "I", Cond.methodLink RX7 67 yX1_record, Cond.instanceMethod yX1_record, Cond.selects RX1 yX1_record yX1_record, Cond.initialized RX1, Cond.code yX1_record cX1_record 3 none, Cond.fieldLink RX1 17 "LongTones$Past" "size" "I", Cond.fieldLink RX1 11 "LongTones$Past" "states" "[LLongTones$State;", Cond.classLink RX1 9 RX4, Cond.instantiable RX4 13, Cond.initialized RX4, Cond.methodLink RX1 21 yX1_forgetOldest, Cond.instanceMethod yX1_forgetOldest, Cond.selects RX1 yX1_forgetOldest yX1_forgetOldest, Cond.code yX1_forgetOldest cX1_forgetOldest 3 none, Cond.methodLink RX1 24 yX4_init, Cond.instanceMethod yX4_init, Cond.code yX4_init cX4_init 1 none, Cond.methodLink RX4 3 objectInit, Cond.instanceMethod objectInit, Cond.code objectInit ⟨#[0xb1]⟩ 1 none]
def wsX7_restore_r2 : List Cond := [Cond.classLink RX4 9 RX2, Cond.instantiable RX2 1, Cond.initialized RX2, Cond.fieldLink RX4 14 "LongTones$State" "sorts" "LLongTones$Row;", Cond.fieldLink RX4 20 "LongTones$State" "loudnesses" "LLongTones$Row;", Cond.fieldLink RX4 23 "LongTones$State" "marks" "LLongTones$Row;", Cond.fieldLink RX4 26 "LongTones$State" "breaths" "LLongTones$Row;", Cond.fieldLink RX4 29 "LongTones$State" "recoveries" "LLongTones$Row;", Cond.fieldLink RX4 32 "LongTones$State" "soloSingers" "LLongTones$Row;", Cond.fieldLink RX4 35 "LongTones$State" "soloStarts" "LLongTones$Row;", Cond.fieldLink RX4 38 "LongTones$State" "soloEnds" "LLongTones$Row;", Cond.fieldLink RX4 41 "LongTones$State" "reserve" "I", Cond.methodLink RX4 11 yX2_init, Cond.instanceMethod yX2_init, Cond.code yX2_init cX2_init 2 none, Cond.methodLink RX2 1 objectInit, Cond.methodLink RX2 7 Lib.Math.max.name, Cond.static Lib.Math.max.name, Cond.initialized "java/lang/Math", Cond.code Lib.Math.max.name Lib.Math.max.code 2 (some .int), Cond.arrayClass .int, Cond.fieldLink RX2 13 "LongTones$Row" "cells" "[I", Cond.methodLink RX1 25 yX4_copyFrom, Cond.instanceMethod yX4_copyFrom]
def wsX7_restore_r3 : List Cond := [Cond.selects RX4 yX4_copyFrom yX4_copyFrom, Cond.code yX4_copyFrom cX4_copyFrom 2 none, Cond.fieldLink RX4 45 "LongTones$State" "beats" "I", Cond.fieldLink RX4 48 "LongTones$State" "singers" "I", Cond.fieldLink RX4 51 "LongTones$State" "present" "I", Cond.fieldLink RX4 54 "LongTones$State" "solos" "I", Cond.methodLink RX4 57 yX2_copyFrom, Cond.instanceMethod yX2_copyFrom, Cond.selects RX2 yX2_copyFrom yX2_copyFrom, Cond.code yX2_copyFrom cX2_copyFrom 3 none, Cond.methodLink RX2 19 yX2_at, Cond.instanceMethod yX2_at, Cond.selects RX2 yX2_at yX2_at, Cond.code yX2_at cX2_at 2 (some .int), Cond.methodLink RX7 172 yX4_copyFrom]
def wsX7_restore : List Cond := .code yX7_restore cX7_restore 3 (some .int) :: ((wsX7_restore_r1 ++ (wsX7_restore_r2 ++ wsX7_restore_r3)) ++ wsX70 ++ wsX40 ++ wsX10 ++ wsX20)
def wsX7_performed : List Cond := .code yX7_performed cX7_performed 4 (some .int) :: ([.fieldLink RX7 44 "LongTones" "choir" "LLongTones$Choir;", .fieldLink RX7 238 "LongTones$Choir" "singing" "LLongTones$Row;", .fieldLink RX7 246 "LongTones$Choir" "breathing" "LLongTones$Row;", .fieldLink RX7 249 "LongTones$Choir" "gasping" "LLongTones$Row;", .fieldLink RX7 10 "LongTones" "state" "LLongTones$State;", .fieldLink RX7 88 "LongTones$State" "loudnesses" "LLongTones$Row;", .methodLink RX7 104 yX2_at, .instanceMethod yX2_at, .selects RX2 yX2_at yX2_at, .initialized RX2, .code yX2_at cX2_at 2 (some .int), .fieldLink RX2 13 "LongTones$Row" "cells" "[I", .methodLink RX7 241 yJ6_bitCount_0f7a4, .static yJ6_bitCount_0f7a4, .initialized RJ6, .code yJ6_bitCount_0f7a4 cJ6_bitCount_0f7a4 1 (some .int), .constant RJ6 265 (1431655765), .constant RJ6 266 (858993459), .constant RJ6 267 (252645135)] ++ wsX70 ++ wsX00 ++ wsX40 ++ wsX20)
def wsX7_beat_r1 : List Cond := [Cond.fieldLink RX7 10 "LongTones" "state" "LLongTones$State;", Cond.fieldLink RX7 101 "LongTones$State" "sorts" "LLongTones$Row;", Cond.fieldLink RX7 88 "LongTones$State" "loudnesses" "LLongTones$Row;", Cond.fieldLink RX7 44 "LongTones" "choir" "LLongTones$Choir;", Cond.fieldLink RX7 37 "LongTones" "voice" "LLongTones$Voice;", Cond.methodLink RX7 80 yX4_hasBeat, Cond.instanceMethod yX4_hasBeat, Cond.selects RX4 yX4_hasBeat yX4_hasBeat, Cond.initialized RX4, Cond.code yX4_hasBeat cX4_hasBeat 2 (some .boolean), Cond.fieldLink RX4 45 "LongTones$State" "beats" "I", Cond.methodLink RX7 104 yX2_at, Cond.instanceMethod yX2_at, Cond.selects RX2 yX2_at yX2_at, Cond.initialized RX2, Cond.code yX2_at cX2_at 2 (some .int), Cond.fieldLink RX2 13 "LongTones$Row" "cells" "[I", Cond.methodLink RX7 175 yX4_firstOfSyllable, Cond.instanceMethod yX4_firstOfSyllable, Cond.selects RX4 yX4_firstOfSyllable yX4_firstOfSyllable, Cond.code yX4_firstOfSyllable cX4_firstOfSyllable 3 (some .int), Cond.fieldLink RX4 14 "LongTones$State" "sorts" "LLongTones$Row;", Cond.methodLink RX4 72 yX4_isRest, Cond.instanceMethod yX4_isRest]
def wsX7_beat_r2 : List Cond := [Cond.selects RX4 yX4_isRest yX4_isRest, Cond.code yX4_isRest cX4_isRest 2 (some .boolean), Cond.methodLink RX4 68 yX2_at, Cond.methodLink RX7 178 yX4_soloAt, Cond.instanceMethod yX4_soloAt, Cond.selects RX4 yX4_soloAt yX4_soloAt, Cond.code yX4_soloAt cX4_soloAt 3 (some .int), Cond.fieldLink RX4 54 "LongTones$State" "solos" "I", Cond.fieldLink RX4 35 "LongTones$State" "soloStarts" "LLongTones$Row;", Cond.fieldLink RX4 38 "LongTones$State" "soloEnds" "LLongTones$Row;", Cond.methodLink RX7 181 yX0_follow, Cond.instanceMethod yX0_follow, Cond.selects RX0 yX0_follow yX0_follow, Cond.initialized RX0, Cond.code yX0_follow cX0_follow 5 none, Cond.fieldLink RX0 14 "LongTones$Choir" "singing" "LLongTones$Row;", Cond.fieldLink RX0 20 "LongTones$Choir" "breathing" "LLongTones$Row;", Cond.fieldLink RX0 23 "LongTones$Choir" "gasping" "LLongTones$Row;", Cond.fieldLink RX0 29 "LongTones$State" "singers" "I", Cond.fieldLink RX0 35 "LongTones$State" "breaths" "LLongTones$Row;", Cond.fieldLink RX0 48 "LongTones$State" "beats" "I", Cond.fieldLink RX0 51 "LongTones$Voice" "doings" "LLongTones$Row;", Cond.methodLink RX0 26 yX2_clear, Cond.instanceMethod yX2_clear]
def wsX7_beat_r3 : List Cond := [Cond.selects RX2 yX2_clear yX2_clear, Cond.code yX2_clear cX2_clear 2 none, Cond.methodLink RX0 38 yX2_at, Cond.methodLink RX0 42 yX6_follow, Cond.instanceMethod yX6_follow, Cond.selects RX6 yX6_follow yX6_follow, Cond.initialized RX6, Cond.code yX6_follow cX6_follow 8 none, Cond.fieldLink RX6 23 "LongTones$State" "beats" "I", Cond.fieldLink RX6 29 "LongTones$Voice" "beats" "I", Cond.fieldLink RX6 30 "LongTones$Voice" "wholeBreath" "I", Cond.fieldLink RX6 33 "LongTones$State" "recoveries" "LLongTones$Row;", Cond.fieldLink RX6 44 "LongTones$State" "loudnesses" "LLongTones$Row;", Cond.methodLink RX6 47 Lib.Math.min.name, Cond.static Lib.Math.min.name, Cond.initialized "java/lang/Math", Cond.code Lib.Math.min.name Lib.Math.min.code 2 (some .int), Cond.fieldLink RX6 14 "LongTones$Voice" "doings" "LLongTones$Row;", Cond.fieldLink RX6 20 "LongTones$Voice" "lefts" "LLongTones$Row;", Cond.methodLink RX6 36 yX2_at, Cond.methodLink RX6 40 yX4_doing, Cond.instanceMethod yX4_doing, Cond.selects RX4 yX4_doing yX4_doing, Cond.code yX4_doing cX4_doing 4 (some .int)]
def wsX7_beat_r4 : List Cond := [Cond.fieldLink RX4 20 "LongTones$State" "loudnesses" "LLongTones$Row;", Cond.methodLink RX4 109 yX4_hasToSing, Cond.instanceMethod yX4_hasToSing, Cond.selects RX4 yX4_hasToSing yX4_hasToSing, Cond.code yX4_hasToSing cX4_hasToSing 4 (some .boolean), Cond.fieldLink RX4 32 "LongTones$State" "soloSingers" "LLongTones$Row;", Cond.methodLink RX4 103 yX4_isPresent, Cond.instanceMethod yX4_isPresent, Cond.selects RX4 yX4_isPresent yX4_isPresent, Cond.code yX4_isPresent cX4_isPresent 2 (some .boolean), Cond.fieldLink RX4 51 "LongTones$State" "present" "I", Cond.static yX7_contains, Cond.initialized RX7, Cond.code yX7_contains cX7_contains 2 (some .boolean), Cond.methodLink RX4 106 yX4_soloAt, Cond.methodLink RX4 100 yX4_isMarked, Cond.instanceMethod yX4_isMarked, Cond.selects RX4 yX4_isMarked yX4_isMarked, Cond.code yX4_isMarked cX4_isMarked 3 (some .boolean), Cond.fieldLink RX4 23 "LongTones$State" "marks" "LLongTones$Row;", Cond.methodLink RX6 53 yX2_put, Cond.instanceMethod yX2_put, Cond.selects RX2 yX2_put yX2_put, Cond.code yX2_put cX2_put 3 none]
def wsX7_beat_r5 : List Cond := [Cond.methodLink RX0 54 yX0_collect, Cond.instanceMethod yX0_collect, Cond.selects RX0 yX0_collect yX0_collect, Cond.code yX0_collect cX0_collect 4 none, Cond.static yX7_bit, Cond.code yX7_bit cX7_bit 1 (some .int), Cond.methodLink RX0 61 yX2_put, Cond.methodLink RX7 185 yX7_performed, Cond.instanceMethod yX7_performed, Cond.selects RX7 yX7_performed yX7_performed, Cond.code yX7_performed cX7_performed 4 (some .int), Cond.fieldLink RX7 238 "LongTones$Choir" "singing" "LLongTones$Row;", Cond.fieldLink RX7 246 "LongTones$Choir" "breathing" "LLongTones$Row;", Cond.fieldLink RX7 249 "LongTones$Choir" "gasping" "LLongTones$Row;", Cond.methodLink RX7 241 yJ6_bitCount_0f7a4, Cond.static yJ6_bitCount_0f7a4, Cond.initialized RJ6, Cond.code yJ6_bitCount_0f7a4 cJ6_bitCount_0f7a4 1 (some .int), Cond.constant RJ6 265 (1431655765), Cond.constant RJ6 266 (858993459), Cond.constant RJ6 267 (252645135)]
def wsX7_beat : List Cond := .code yX7_beat cX7_beat 3 (some .int) :: ((wsX7_beat_r1 ++ (wsX7_beat_r2 ++ (wsX7_beat_r3 ++ (wsX7_beat_r4 ++ wsX7_beat_r5)))) ++ wsX70 ++ wsX40 ++ wsX20 ++ wsX00 ++ wsX60)
def wsX7_performedBy_r1 : List Cond := [Cond.fieldLink RX7 37 "LongTones" "voice" "LLongTones$Voice;", Cond.methodLink RX7 223 yX6_countDoing, Cond.instanceMethod yX6_countDoing, Cond.selects RX6 yX6_countDoing yX6_countDoing, Cond.initialized RX6, Cond.code yX6_countDoing cX6_countDoing 4 (some .int), Cond.fieldLink RX6 29 "LongTones$Voice" "beats" "I", Cond.fieldLink RX6 14 "LongTones$Voice" "doings" "LLongTones$Row;", Cond.methodLink RX6 36 yX2_at, Cond.instanceMethod yX2_at, Cond.selects RX2 yX2_at yX2_at, Cond.initialized RX2, Cond.code yX2_at cX2_at 2 (some .int), Cond.fieldLink RX2 13 "LongTones$Row" "cells" "[I", Cond.methodLink RX7 252 yX6_leastLeft, Cond.instanceMethod yX6_leastLeft, Cond.selects RX6 yX6_leastLeft yX6_leastLeft, Cond.code yX6_leastLeft cX6_leastLeft 3 (some .int), Cond.fieldLink RX6 30 "LongTones$Voice" "wholeBreath" "I", Cond.fieldLink RX6 20 "LongTones$Voice" "lefts" "LLongTones$Row;", Cond.methodLink RX6 47 Lib.Math.min.name, Cond.static Lib.Math.min.name, Cond.initialized "java/lang/Math", Cond.code Lib.Math.min.name Lib.Math.min.code 2 (some .int)]
def wsX7_performedBy_r2 : List Cond := [Cond.methodLink RX7 255 yX6_longestSung, Cond.instanceMethod yX6_longestSung, Cond.selects RX6 yX6_longestSung yX6_longestSung, Cond.code yX6_longestSung cX6_longestSung 4 (some .int), Cond.methodLink RX6 57 Lib.Math.max.name, Cond.static Lib.Math.max.name, Cond.code Lib.Math.max.name Lib.Math.max.code 2 (some .int)]
def wsX7_performedBy : List Cond := .code yX7_performedBy cX7_performedBy 2 (some .int) :: ((wsX7_performedBy_r1 ++ wsX7_performedBy_r2) ++ wsX70 ++ wsX60 ++ wsX20)
def wsX7_singer_r1 : List Cond := [Cond.fieldLink RX7 10 "LongTones" "state" "LLongTones$State;", Cond.fieldLink RX7 188 "LongTones$State" "breaths" "LLongTones$Row;", Cond.fieldLink RX7 191 "LongTones$State" "recoveries" "LLongTones$Row;", Cond.fieldLink RX7 37 "LongTones" "voice" "LLongTones$Voice;", Cond.methodLink RX7 115 yX4_hasSinger, Cond.instanceMethod yX4_hasSinger, Cond.selects RX4 yX4_hasSinger yX4_hasSinger, Cond.initialized RX4, Cond.code yX4_hasSinger cX4_hasSinger 2 (some .boolean), Cond.fieldLink RX4 48 "LongTones$State" "singers" "I", Cond.methodLink RX7 104 yX2_at, Cond.instanceMethod yX2_at, Cond.selects RX2 yX2_at yX2_at, Cond.initialized RX2, Cond.code yX2_at cX2_at 2 (some .int), Cond.fieldLink RX2 13 "LongTones$Row" "cells" "[I", Cond.methodLink RX7 118 yX4_isPresent, Cond.instanceMethod yX4_isPresent, Cond.selects RX4 yX4_isPresent yX4_isPresent, Cond.code yX4_isPresent cX4_isPresent 2 (some .boolean), Cond.fieldLink RX4 51 "LongTones$State" "present" "I", Cond.static yX7_contains, Cond.initialized RX7, Cond.code yX7_contains cX7_contains 2 (some .boolean)]
def wsX7_singer_r2 : List Cond := [Cond.methodLink RX7 154 yX4_countMarksOf, Cond.instanceMethod yX4_countMarksOf, Cond.selects RX4 yX4_countMarksOf yX4_countMarksOf, Cond.code yX4_countMarksOf cX4_countMarksOf 4 (some .int), Cond.fieldLink RX4 45 "LongTones$State" "beats" "I", Cond.methodLink RX4 100 yX4_isMarked, Cond.instanceMethod yX4_isMarked, Cond.selects RX4 yX4_isMarked yX4_isMarked, Cond.code yX4_isMarked cX4_isMarked 3 (some .boolean), Cond.fieldLink RX4 23 "LongTones$State" "marks" "LLongTones$Row;", Cond.methodLink RX4 68 yX2_at, Cond.methodLink RX7 194 yX6_follow, Cond.instanceMethod yX6_follow, Cond.selects RX6 yX6_follow yX6_follow, Cond.initialized RX6, Cond.code yX6_follow cX6_follow 8 none, Cond.fieldLink RX6 23 "LongTones$State" "beats" "I", Cond.fieldLink RX6 29 "LongTones$Voice" "beats" "I", Cond.fieldLink RX6 30 "LongTones$Voice" "wholeBreath" "I", Cond.fieldLink RX6 33 "LongTones$State" "recoveries" "LLongTones$Row;", Cond.fieldLink RX6 44 "LongTones$State" "loudnesses" "LLongTones$Row;", Cond.methodLink RX6 47 Lib.Math.min.name, Cond.static Lib.Math.min.name, Cond.initialized "java/lang/Math"]
def wsX7_singer_r3 : List Cond := [Cond.code Lib.Math.min.name Lib.Math.min.code 2 (some .int), Cond.fieldLink RX6 14 "LongTones$Voice" "doings" "LLongTones$Row;", Cond.fieldLink RX6 20 "LongTones$Voice" "lefts" "LLongTones$Row;", Cond.methodLink RX6 36 yX2_at, Cond.methodLink RX6 40 yX4_doing, Cond.instanceMethod yX4_doing, Cond.selects RX4 yX4_doing yX4_doing, Cond.code yX4_doing cX4_doing 4 (some .int), Cond.fieldLink RX4 20 "LongTones$State" "loudnesses" "LLongTones$Row;", Cond.methodLink RX4 109 yX4_hasToSing, Cond.instanceMethod yX4_hasToSing, Cond.selects RX4 yX4_hasToSing yX4_hasToSing, Cond.code yX4_hasToSing cX4_hasToSing 4 (some .boolean), Cond.fieldLink RX4 32 "LongTones$State" "soloSingers" "LLongTones$Row;", Cond.methodLink RX4 72 yX4_isRest, Cond.instanceMethod yX4_isRest, Cond.selects RX4 yX4_isRest yX4_isRest, Cond.code yX4_isRest cX4_isRest 2 (some .boolean), Cond.fieldLink RX4 14 "LongTones$State" "sorts" "LLongTones$Row;", Cond.methodLink RX4 103 yX4_isPresent, Cond.methodLink RX4 106 yX4_soloAt, Cond.instanceMethod yX4_soloAt, Cond.selects RX4 yX4_soloAt yX4_soloAt, Cond.code yX4_soloAt cX4_soloAt 3 (some .int)]
def wsX7_singer_r4 : List Cond := [Cond.fieldLink RX4 54 "LongTones$State" "solos" "I", Cond.fieldLink RX4 35 "LongTones$State" "soloStarts" "LLongTones$Row;", Cond.fieldLink RX4 38 "LongTones$State" "soloEnds" "LLongTones$Row;", Cond.methodLink RX6 53 yX2_put, Cond.instanceMethod yX2_put, Cond.selects RX2 yX2_put yX2_put, Cond.code yX2_put cX2_put 3 none, Cond.methodLink RX7 197 yX7_performedBy, Cond.instanceMethod yX7_performedBy, Cond.selects RX7 yX7_performedBy yX7_performedBy, Cond.code yX7_performedBy cX7_performedBy 2 (some .int), Cond.methodLink RX7 223 yX6_countDoing, Cond.instanceMethod yX6_countDoing, Cond.selects RX6 yX6_countDoing yX6_countDoing, Cond.code yX6_countDoing cX6_countDoing 4 (some .int), Cond.methodLink RX7 252 yX6_leastLeft, Cond.instanceMethod yX6_leastLeft, Cond.selects RX6 yX6_leastLeft yX6_leastLeft, Cond.code yX6_leastLeft cX6_leastLeft 3 (some .int), Cond.methodLink RX7 255 yX6_longestSung, Cond.instanceMethod yX6_longestSung, Cond.selects RX6 yX6_longestSung yX6_longestSung, Cond.code yX6_longestSung cX6_longestSung 4 (some .int), Cond.methodLink RX6 57 Lib.Math.max.name]
def wsX7_singer_r5 : List Cond := [Cond.static Lib.Math.max.name, Cond.code Lib.Math.max.name Lib.Math.max.code 2 (some .int)]
def wsX7_singer : List Cond := .code yX7_singer cX7_singer 3 (some .int) :: ((wsX7_singer_r1 ++ (wsX7_singer_r2 ++ (wsX7_singer_r3 ++ (wsX7_singer_r4 ++ wsX7_singer_r5)))) ++ wsX70 ++ wsX40 ++ wsX20 ++ wsX60)
def wsX7_does_r1 : List Cond := [Cond.fieldLink RX7 10 "LongTones" "state" "LLongTones$State;", Cond.fieldLink RX7 37 "LongTones" "voice" "LLongTones$Voice;", Cond.fieldLink RX7 188 "LongTones$State" "breaths" "LLongTones$Row;", Cond.fieldLink RX7 200 "LongTones$Voice" "doings" "LLongTones$Row;", Cond.methodLink RX7 115 yX4_hasSinger, Cond.instanceMethod yX4_hasSinger, Cond.selects RX4 yX4_hasSinger yX4_hasSinger, Cond.initialized RX4, Cond.code yX4_hasSinger cX4_hasSinger 2 (some .boolean), Cond.fieldLink RX4 48 "LongTones$State" "singers" "I", Cond.methodLink RX7 80 yX4_hasBeat, Cond.instanceMethod yX4_hasBeat, Cond.selects RX4 yX4_hasBeat yX4_hasBeat, Cond.code yX4_hasBeat cX4_hasBeat 2 (some .boolean), Cond.fieldLink RX4 45 "LongTones$State" "beats" "I", Cond.methodLink RX7 104 yX2_at, Cond.instanceMethod yX2_at, Cond.selects RX2 yX2_at yX2_at, Cond.initialized RX2, Cond.code yX2_at cX2_at 2 (some .int), Cond.fieldLink RX2 13 "LongTones$Row" "cells" "[I", Cond.methodLink RX7 194 yX6_follow, Cond.instanceMethod yX6_follow, Cond.selects RX6 yX6_follow yX6_follow]
def wsX7_does_r2 : List Cond := [Cond.initialized RX6, Cond.code yX6_follow cX6_follow 8 none, Cond.fieldLink RX6 23 "LongTones$State" "beats" "I", Cond.fieldLink RX6 29 "LongTones$Voice" "beats" "I", Cond.fieldLink RX6 30 "LongTones$Voice" "wholeBreath" "I", Cond.fieldLink RX6 33 "LongTones$State" "recoveries" "LLongTones$Row;", Cond.fieldLink RX6 44 "LongTones$State" "loudnesses" "LLongTones$Row;", Cond.methodLink RX6 47 Lib.Math.min.name, Cond.static Lib.Math.min.name, Cond.initialized "java/lang/Math", Cond.code Lib.Math.min.name Lib.Math.min.code 2 (some .int), Cond.fieldLink RX6 14 "LongTones$Voice" "doings" "LLongTones$Row;", Cond.fieldLink RX6 20 "LongTones$Voice" "lefts" "LLongTones$Row;", Cond.methodLink RX6 36 yX2_at, Cond.methodLink RX6 40 yX4_doing, Cond.instanceMethod yX4_doing, Cond.selects RX4 yX4_doing yX4_doing, Cond.code yX4_doing cX4_doing 4 (some .int), Cond.fieldLink RX4 20 "LongTones$State" "loudnesses" "LLongTones$Row;", Cond.methodLink RX4 109 yX4_hasToSing, Cond.instanceMethod yX4_hasToSing, Cond.selects RX4 yX4_hasToSing yX4_hasToSing, Cond.code yX4_hasToSing cX4_hasToSing 4 (some .boolean), Cond.fieldLink RX4 32 "LongTones$State" "soloSingers" "LLongTones$Row;"]
def wsX7_does_r3 : List Cond := [Cond.methodLink RX4 72 yX4_isRest, Cond.instanceMethod yX4_isRest, Cond.selects RX4 yX4_isRest yX4_isRest, Cond.code yX4_isRest cX4_isRest 2 (some .boolean), Cond.fieldLink RX4 14 "LongTones$State" "sorts" "LLongTones$Row;", Cond.methodLink RX4 68 yX2_at, Cond.methodLink RX4 103 yX4_isPresent, Cond.instanceMethod yX4_isPresent, Cond.selects RX4 yX4_isPresent yX4_isPresent, Cond.code yX4_isPresent cX4_isPresent 2 (some .boolean), Cond.fieldLink RX4 51 "LongTones$State" "present" "I", Cond.static yX7_contains, Cond.initialized RX7, Cond.code yX7_contains cX7_contains 2 (some .boolean), Cond.methodLink RX4 106 yX4_soloAt, Cond.instanceMethod yX4_soloAt, Cond.selects RX4 yX4_soloAt yX4_soloAt, Cond.code yX4_soloAt cX4_soloAt 3 (some .int), Cond.fieldLink RX4 54 "LongTones$State" "solos" "I", Cond.fieldLink RX4 35 "LongTones$State" "soloStarts" "LLongTones$Row;", Cond.fieldLink RX4 38 "LongTones$State" "soloEnds" "LLongTones$Row;", Cond.methodLink RX4 100 yX4_isMarked, Cond.instanceMethod yX4_isMarked, Cond.selects RX4 yX4_isMarked yX4_isMarked]
def wsX7_does_r4 : List Cond := [Cond.code yX4_isMarked cX4_isMarked 3 (some .boolean), Cond.fieldLink RX4 23 "LongTones$State" "marks" "LLongTones$Row;", Cond.methodLink RX6 53 yX2_put, Cond.instanceMethod yX2_put, Cond.selects RX2 yX2_put yX2_put, Cond.code yX2_put cX2_put 3 none]
def wsX7_does : List Cond := .code yX7_does cX7_does 3 (some .int) :: ((wsX7_does_r1 ++ (wsX7_does_r2 ++ (wsX7_does_r3 ++ wsX7_does_r4))) ++ wsX70 ++ wsX40 ++ wsX60 ++ wsX20)
def wsX7_left_r1 : List Cond := [Cond.fieldLink RX7 10 "LongTones" "state" "LLongTones$State;", Cond.fieldLink RX7 37 "LongTones" "voice" "LLongTones$Voice;", Cond.fieldLink RX7 188 "LongTones$State" "breaths" "LLongTones$Row;", Cond.fieldLink RX7 203 "LongTones$Voice" "lefts" "LLongTones$Row;", Cond.methodLink RX7 115 yX4_hasSinger, Cond.instanceMethod yX4_hasSinger, Cond.selects RX4 yX4_hasSinger yX4_hasSinger, Cond.initialized RX4, Cond.code yX4_hasSinger cX4_hasSinger 2 (some .boolean), Cond.fieldLink RX4 48 "LongTones$State" "singers" "I", Cond.methodLink RX7 80 yX4_hasBeat, Cond.instanceMethod yX4_hasBeat, Cond.selects RX4 yX4_hasBeat yX4_hasBeat, Cond.code yX4_hasBeat cX4_hasBeat 2 (some .boolean), Cond.fieldLink RX4 45 "LongTones$State" "beats" "I", Cond.methodLink RX7 104 yX2_at, Cond.instanceMethod yX2_at, Cond.selects RX2 yX2_at yX2_at, Cond.initialized RX2, Cond.code yX2_at cX2_at 2 (some .int), Cond.fieldLink RX2 13 "LongTones$Row" "cells" "[I", Cond.methodLink RX7 194 yX6_follow, Cond.instanceMethod yX6_follow, Cond.selects RX6 yX6_follow yX6_follow]
def wsX7_left_r2 : List Cond := [Cond.initialized RX6, Cond.code yX6_follow cX6_follow 8 none, Cond.fieldLink RX6 23 "LongTones$State" "beats" "I", Cond.fieldLink RX6 29 "LongTones$Voice" "beats" "I", Cond.fieldLink RX6 30 "LongTones$Voice" "wholeBreath" "I", Cond.fieldLink RX6 33 "LongTones$State" "recoveries" "LLongTones$Row;", Cond.fieldLink RX6 44 "LongTones$State" "loudnesses" "LLongTones$Row;", Cond.methodLink RX6 47 Lib.Math.min.name, Cond.static Lib.Math.min.name, Cond.initialized "java/lang/Math", Cond.code Lib.Math.min.name Lib.Math.min.code 2 (some .int), Cond.fieldLink RX6 14 "LongTones$Voice" "doings" "LLongTones$Row;", Cond.fieldLink RX6 20 "LongTones$Voice" "lefts" "LLongTones$Row;", Cond.methodLink RX6 36 yX2_at, Cond.methodLink RX6 40 yX4_doing, Cond.instanceMethod yX4_doing, Cond.selects RX4 yX4_doing yX4_doing, Cond.code yX4_doing cX4_doing 4 (some .int), Cond.fieldLink RX4 20 "LongTones$State" "loudnesses" "LLongTones$Row;", Cond.methodLink RX4 109 yX4_hasToSing, Cond.instanceMethod yX4_hasToSing, Cond.selects RX4 yX4_hasToSing yX4_hasToSing, Cond.code yX4_hasToSing cX4_hasToSing 4 (some .boolean), Cond.fieldLink RX4 32 "LongTones$State" "soloSingers" "LLongTones$Row;"]
def wsX7_left_r3 : List Cond := [Cond.methodLink RX4 72 yX4_isRest, Cond.instanceMethod yX4_isRest, Cond.selects RX4 yX4_isRest yX4_isRest, Cond.code yX4_isRest cX4_isRest 2 (some .boolean), Cond.fieldLink RX4 14 "LongTones$State" "sorts" "LLongTones$Row;", Cond.methodLink RX4 68 yX2_at, Cond.methodLink RX4 103 yX4_isPresent, Cond.instanceMethod yX4_isPresent, Cond.selects RX4 yX4_isPresent yX4_isPresent, Cond.code yX4_isPresent cX4_isPresent 2 (some .boolean), Cond.fieldLink RX4 51 "LongTones$State" "present" "I", Cond.static yX7_contains, Cond.initialized RX7, Cond.code yX7_contains cX7_contains 2 (some .boolean), Cond.methodLink RX4 106 yX4_soloAt, Cond.instanceMethod yX4_soloAt, Cond.selects RX4 yX4_soloAt yX4_soloAt, Cond.code yX4_soloAt cX4_soloAt 3 (some .int), Cond.fieldLink RX4 54 "LongTones$State" "solos" "I", Cond.fieldLink RX4 35 "LongTones$State" "soloStarts" "LLongTones$Row;", Cond.fieldLink RX4 38 "LongTones$State" "soloEnds" "LLongTones$Row;", Cond.methodLink RX4 100 yX4_isMarked, Cond.instanceMethod yX4_isMarked, Cond.selects RX4 yX4_isMarked yX4_isMarked]
def wsX7_left_r4 : List Cond := [Cond.code yX4_isMarked cX4_isMarked 3 (some .boolean), Cond.fieldLink RX4 23 "LongTones$State" "marks" "LLongTones$Row;", Cond.methodLink RX6 53 yX2_put, Cond.instanceMethod yX2_put, Cond.selects RX2 yX2_put yX2_put, Cond.code yX2_put cX2_put 3 none]
def wsX7_left : List Cond := .code yX7_left cX7_left 3 (some .int) :: ((wsX7_left_r1 ++ (wsX7_left_r2 ++ (wsX7_left_r3 ++ wsX7_left_r4))) ++ wsX70 ++ wsX40 ++ wsX60 ++ wsX20)
def wsX7_solo : List Cond := .code yX7_solo cX7_solo 3 (some .int) :: ([.fieldLink RX7 10 "LongTones" "state" "LLongTones$State;", .fieldLink RX7 206 "LongTones$State" "soloSingers" "LLongTones$Row;", .fieldLink RX7 209 "LongTones$State" "soloStarts" "LLongTones$Row;", .fieldLink RX7 212 "LongTones$State" "soloEnds" "LLongTones$Row;", .methodLink RX7 141 yX4_hasSolo, .instanceMethod yX4_hasSolo, .selects RX4 yX4_hasSolo yX4_hasSolo, .initialized RX4, .code yX4_hasSolo cX4_hasSolo 2 (some .boolean), .fieldLink RX4 54 "LongTones$State" "solos" "I", .methodLink RX7 104 yX2_at, .instanceMethod yX2_at, .selects RX2 yX2_at yX2_at, .initialized RX2, .code yX2_at cX2_at 2 (some .int), .fieldLink RX2 13 "LongTones$Row" "cells" "[I"] ++ wsX70 ++ wsX40 ++ wsX20)
def wsX7_fault_r1 : List Cond := [Cond.fieldLink RX7 44 "LongTones" "choir" "LLongTones$Choir;", Cond.fieldLink RX7 10 "LongTones" "state" "LLongTones$State;", Cond.fieldLink RX7 37 "LongTones" "voice" "LLongTones$Voice;", Cond.methodLink RX7 84 yX7_isWithin, Cond.static yX7_isWithin, Cond.initialized RX7, Cond.code yX7_isWithin cX7_isWithin 3 (some .boolean), Cond.methodLink RX7 181 yX0_follow, Cond.instanceMethod yX0_follow, Cond.selects RX0 yX0_follow yX0_follow, Cond.initialized RX0, Cond.code yX0_follow cX0_follow 5 none, Cond.fieldLink RX0 14 "LongTones$Choir" "singing" "LLongTones$Row;", Cond.fieldLink RX0 20 "LongTones$Choir" "breathing" "LLongTones$Row;", Cond.fieldLink RX0 23 "LongTones$Choir" "gasping" "LLongTones$Row;", Cond.fieldLink RX0 29 "LongTones$State" "singers" "I", Cond.fieldLink RX0 35 "LongTones$State" "breaths" "LLongTones$Row;", Cond.fieldLink RX0 48 "LongTones$State" "beats" "I", Cond.fieldLink RX0 51 "LongTones$Voice" "doings" "LLongTones$Row;", Cond.methodLink RX0 26 yX2_clear, Cond.instanceMethod yX2_clear, Cond.selects RX2 yX2_clear yX2_clear, Cond.initialized RX2, Cond.code yX2_clear cX2_clear 2 none]
def wsX7_fault_r2 : List Cond := [Cond.fieldLink RX2 13 "LongTones$Row" "cells" "[I", Cond.methodLink RX0 38 yX2_at, Cond.instanceMethod yX2_at, Cond.selects RX2 yX2_at yX2_at, Cond.code yX2_at cX2_at 2 (some .int), Cond.methodLink RX0 42 yX6_follow, Cond.instanceMethod yX6_follow, Cond.selects RX6 yX6_follow yX6_follow, Cond.initialized RX6, Cond.code yX6_follow cX6_follow 8 none, Cond.fieldLink RX6 23 "LongTones$State" "beats" "I", Cond.fieldLink RX6 29 "LongTones$Voice" "beats" "I", Cond.fieldLink RX6 30 "LongTones$Voice" "wholeBreath" "I", Cond.fieldLink RX6 33 "LongTones$State" "recoveries" "LLongTones$Row;", Cond.fieldLink RX6 44 "LongTones$State" "loudnesses" "LLongTones$Row;", Cond.methodLink RX6 47 Lib.Math.min.name, Cond.static Lib.Math.min.name, Cond.initialized "java/lang/Math", Cond.code Lib.Math.min.name Lib.Math.min.code 2 (some .int), Cond.fieldLink RX6 14 "LongTones$Voice" "doings" "LLongTones$Row;", Cond.fieldLink RX6 20 "LongTones$Voice" "lefts" "LLongTones$Row;", Cond.methodLink RX6 36 yX2_at, Cond.methodLink RX6 40 yX4_doing, Cond.instanceMethod yX4_doing]
def wsX7_fault_r3 : List Cond := [Cond.selects RX4 yX4_doing yX4_doing, Cond.initialized RX4, Cond.code yX4_doing cX4_doing 4 (some .int), Cond.fieldLink RX4 20 "LongTones$State" "loudnesses" "LLongTones$Row;", Cond.methodLink RX4 109 yX4_hasToSing, Cond.instanceMethod yX4_hasToSing, Cond.selects RX4 yX4_hasToSing yX4_hasToSing, Cond.code yX4_hasToSing cX4_hasToSing 4 (some .boolean), Cond.fieldLink RX4 32 "LongTones$State" "soloSingers" "LLongTones$Row;", Cond.methodLink RX4 72 yX4_isRest, Cond.instanceMethod yX4_isRest, Cond.selects RX4 yX4_isRest yX4_isRest, Cond.code yX4_isRest cX4_isRest 2 (some .boolean), Cond.fieldLink RX4 14 "LongTones$State" "sorts" "LLongTones$Row;", Cond.methodLink RX4 68 yX2_at, Cond.methodLink RX4 103 yX4_isPresent, Cond.instanceMethod yX4_isPresent, Cond.selects RX4 yX4_isPresent yX4_isPresent, Cond.code yX4_isPresent cX4_isPresent 2 (some .boolean), Cond.fieldLink RX4 51 "LongTones$State" "present" "I", Cond.static yX7_contains, Cond.code yX7_contains cX7_contains 2 (some .boolean), Cond.methodLink RX4 106 yX4_soloAt, Cond.instanceMethod yX4_soloAt]
def wsX7_fault_r4 : List Cond := [Cond.selects RX4 yX4_soloAt yX4_soloAt, Cond.code yX4_soloAt cX4_soloAt 3 (some .int), Cond.fieldLink RX4 54 "LongTones$State" "solos" "I", Cond.fieldLink RX4 35 "LongTones$State" "soloStarts" "LLongTones$Row;", Cond.fieldLink RX4 38 "LongTones$State" "soloEnds" "LLongTones$Row;", Cond.methodLink RX4 100 yX4_isMarked, Cond.instanceMethod yX4_isMarked, Cond.selects RX4 yX4_isMarked yX4_isMarked, Cond.code yX4_isMarked cX4_isMarked 3 (some .boolean), Cond.fieldLink RX4 23 "LongTones$State" "marks" "LLongTones$Row;", Cond.methodLink RX6 53 yX2_put, Cond.instanceMethod yX2_put, Cond.selects RX2 yX2_put yX2_put, Cond.code yX2_put cX2_put 3 none, Cond.methodLink RX0 54 yX0_collect, Cond.instanceMethod yX0_collect, Cond.selects RX0 yX0_collect yX0_collect, Cond.code yX0_collect cX0_collect 4 none, Cond.static yX7_bit, Cond.code yX7_bit cX7_bit 1 (some .int), Cond.methodLink RX0 61 yX2_put, Cond.methodLink RX7 215 yX0_tellFault, Cond.instanceMethod yX0_tellFault, Cond.selects RX0 yX0_tellFault yX0_tellFault]
def wsX7_fault_r5 : List Cond := [Cond.code yX0_tellFault cX0_tellFault 9 (some .int), Cond.methodLink RX0 69 yX0_faultsAt, Cond.instanceMethod yX0_faultsAt, Cond.selects RX0 yX0_faultsAt yX0_faultsAt, Cond.code yX0_faultsAt cX0_faultsAt 4 (some .int), Cond.methodLink RX0 65 yX4_isRest, Cond.methodLink RX0 86 yX0_isThinInside, Cond.instanceMethod yX0_isThinInside, Cond.selects RX0 yX0_isThinInside yX0_isThinInside, Cond.code yX0_isThinInside cX0_isThinInside 3 (some .boolean), Cond.methodLink RX0 90 yX4_soloAt, Cond.methodLink RX0 93 yX4_firstOfSyllable, Cond.instanceMethod yX4_firstOfSyllable, Cond.selects RX4 yX4_firstOfSyllable yX4_firstOfSyllable, Cond.code yX4_firstOfSyllable cX4_firstOfSyllable 3 (some .int), Cond.methodLink RX0 73 yJ6_bitCount_0f7a4, Cond.static yJ6_bitCount_0f7a4, Cond.initialized RJ6, Cond.code yJ6_bitCount_0f7a4 cJ6_bitCount_0f7a4 1 (some .int), Cond.constant RJ6 265 (1431655765), Cond.constant RJ6 266 (858993459), Cond.constant RJ6 267 (252645135), Cond.methodLink RX0 78 yX0_memberAt, Cond.static yX0_memberAt]
def wsX7_fault_r6 : List Cond := [Cond.code yX0_memberAt cX0_memberAt 4 (some .int), Cond.methodLink RX0 82 yX0_tellOne, Cond.static yX0_tellOne, Cond.code yX0_tellOne cX0_tellOne 4 (some .int)]
def wsX7_fault : List Cond := .code yX7_fault cX7_fault 3 (some .int) :: ((wsX7_fault_r1 ++ (wsX7_fault_r2 ++ (wsX7_fault_r3 ++ (wsX7_fault_r4 ++ (wsX7_fault_r5 ++ wsX7_fault_r6))))) ++ wsX70 ++ wsX00 ++ wsX40 ++ wsX60 ++ wsX20)
def wsX7_silentWithout_r1 : List Cond := [Cond.fieldLink RX7 10 "LongTones" "state" "LLongTones$State;", Cond.fieldLink RX7 44 "LongTones" "choir" "LLongTones$Choir;", Cond.fieldLink RX7 37 "LongTones" "voice" "LLongTones$Voice;", Cond.methodLink RX7 115 yX4_hasSinger, Cond.instanceMethod yX4_hasSinger, Cond.selects RX4 yX4_hasSinger yX4_hasSinger, Cond.initialized RX4, Cond.code yX4_hasSinger cX4_hasSinger 2 (some .boolean), Cond.fieldLink RX4 48 "LongTones$State" "singers" "I", Cond.methodLink RX7 181 yX0_follow, Cond.instanceMethod yX0_follow, Cond.selects RX0 yX0_follow yX0_follow, Cond.initialized RX0, Cond.code yX0_follow cX0_follow 5 none, Cond.fieldLink RX0 14 "LongTones$Choir" "singing" "LLongTones$Row;", Cond.fieldLink RX0 20 "LongTones$Choir" "breathing" "LLongTones$Row;", Cond.fieldLink RX0 23 "LongTones$Choir" "gasping" "LLongTones$Row;", Cond.fieldLink RX0 29 "LongTones$State" "singers" "I", Cond.fieldLink RX0 35 "LongTones$State" "breaths" "LLongTones$Row;", Cond.fieldLink RX0 48 "LongTones$State" "beats" "I", Cond.fieldLink RX0 51 "LongTones$Voice" "doings" "LLongTones$Row;", Cond.methodLink RX0 26 yX2_clear, Cond.instanceMethod yX2_clear, Cond.selects RX2 yX2_clear yX2_clear]
def wsX7_silentWithout_r2 : List Cond := [Cond.initialized RX2, Cond.code yX2_clear cX2_clear 2 none, Cond.fieldLink RX2 13 "LongTones$Row" "cells" "[I", Cond.methodLink RX0 38 yX2_at, Cond.instanceMethod yX2_at, Cond.selects RX2 yX2_at yX2_at, Cond.code yX2_at cX2_at 2 (some .int), Cond.methodLink RX0 42 yX6_follow, Cond.instanceMethod yX6_follow, Cond.selects RX6 yX6_follow yX6_follow, Cond.initialized RX6, Cond.code yX6_follow cX6_follow 8 none, Cond.fieldLink RX6 23 "LongTones$State" "beats" "I", Cond.fieldLink RX6 29 "LongTones$Voice" "beats" "I", Cond.fieldLink RX6 30 "LongTones$Voice" "wholeBreath" "I", Cond.fieldLink RX6 33 "LongTones$State" "recoveries" "LLongTones$Row;", Cond.fieldLink RX6 44 "LongTones$State" "loudnesses" "LLongTones$Row;", Cond.methodLink RX6 47 Lib.Math.min.name, Cond.static Lib.Math.min.name, Cond.initialized "java/lang/Math", Cond.code Lib.Math.min.name Lib.Math.min.code 2 (some .int), Cond.fieldLink RX6 14 "LongTones$Voice" "doings" "LLongTones$Row;", Cond.fieldLink RX6 20 "LongTones$Voice" "lefts" "LLongTones$Row;", Cond.methodLink RX6 36 yX2_at]
def wsX7_silentWithout_r3 : List Cond := [Cond.methodLink RX6 40 yX4_doing, Cond.instanceMethod yX4_doing, Cond.selects RX4 yX4_doing yX4_doing, Cond.code yX4_doing cX4_doing 4 (some .int), Cond.fieldLink RX4 20 "LongTones$State" "loudnesses" "LLongTones$Row;", Cond.methodLink RX4 109 yX4_hasToSing, Cond.instanceMethod yX4_hasToSing, Cond.selects RX4 yX4_hasToSing yX4_hasToSing, Cond.code yX4_hasToSing cX4_hasToSing 4 (some .boolean), Cond.fieldLink RX4 32 "LongTones$State" "soloSingers" "LLongTones$Row;", Cond.methodLink RX4 72 yX4_isRest, Cond.instanceMethod yX4_isRest, Cond.selects RX4 yX4_isRest yX4_isRest, Cond.code yX4_isRest cX4_isRest 2 (some .boolean), Cond.fieldLink RX4 14 "LongTones$State" "sorts" "LLongTones$Row;", Cond.methodLink RX4 68 yX2_at, Cond.methodLink RX4 103 yX4_isPresent, Cond.instanceMethod yX4_isPresent, Cond.selects RX4 yX4_isPresent yX4_isPresent, Cond.code yX4_isPresent cX4_isPresent 2 (some .boolean), Cond.fieldLink RX4 51 "LongTones$State" "present" "I", Cond.static yX7_contains, Cond.initialized RX7, Cond.code yX7_contains cX7_contains 2 (some .boolean)]
def wsX7_silentWithout_r4 : List Cond := [Cond.methodLink RX4 106 yX4_soloAt, Cond.instanceMethod yX4_soloAt, Cond.selects RX4 yX4_soloAt yX4_soloAt, Cond.code yX4_soloAt cX4_soloAt 3 (some .int), Cond.fieldLink RX4 54 "LongTones$State" "solos" "I", Cond.fieldLink RX4 35 "LongTones$State" "soloStarts" "LLongTones$Row;", Cond.fieldLink RX4 38 "LongTones$State" "soloEnds" "LLongTones$Row;", Cond.methodLink RX4 100 yX4_isMarked, Cond.instanceMethod yX4_isMarked, Cond.selects RX4 yX4_isMarked yX4_isMarked, Cond.code yX4_isMarked cX4_isMarked 3 (some .boolean), Cond.fieldLink RX4 23 "LongTones$State" "marks" "LLongTones$Row;", Cond.methodLink RX6 53 yX2_put, Cond.instanceMethod yX2_put, Cond.selects RX2 yX2_put yX2_put, Cond.code yX2_put cX2_put 3 none, Cond.methodLink RX0 54 yX0_collect, Cond.instanceMethod yX0_collect, Cond.selects RX0 yX0_collect yX0_collect, Cond.code yX0_collect cX0_collect 4 none, Cond.static yX7_bit, Cond.code yX7_bit cX7_bit 1 (some .int), Cond.methodLink RX0 61 yX2_put, Cond.methodLink RX7 219 yX0_countSilentWithout]
def wsX7_silentWithout_r5 : List Cond := [Cond.instanceMethod yX0_countSilentWithout, Cond.selects RX0 yX0_countSilentWithout yX0_countSilentWithout, Cond.code yX0_countSilentWithout cX0_countSilentWithout 5 (some .int), Cond.methodLink RX0 65 yX4_isRest]
def wsX7_silentWithout : List Cond := .code yX7_silentWithout cX7_silentWithout 2 (some .int) :: ((wsX7_silentWithout_r1 ++ (wsX7_silentWithout_r2 ++ (wsX7_silentWithout_r3 ++ (wsX7_silentWithout_r4 ++ wsX7_silentWithout_r5)))) ++ wsX70 ++ wsX40 ++ wsX00 ++ wsX60 ++ wsX20)
def wsX7_breathFor_r1 : List Cond := [Cond.fieldLink RX7 10 "LongTones" "state" "LLongTones$State;", Cond.fieldLink RX7 37 "LongTones" "voice" "LLongTones$Voice;", Cond.methodLink RX7 115 yX4_hasSinger, Cond.instanceMethod yX4_hasSinger, Cond.selects RX4 yX4_hasSinger yX4_hasSinger, Cond.initialized RX4, Cond.code yX4_hasSinger cX4_hasSinger 2 (some .boolean), Cond.fieldLink RX4 48 "LongTones$State" "singers" "I", Cond.methodLink RX7 194 yX6_follow, Cond.instanceMethod yX6_follow, Cond.selects RX6 yX6_follow yX6_follow, Cond.initialized RX6, Cond.code yX6_follow cX6_follow 8 none, Cond.fieldLink RX6 23 "LongTones$State" "beats" "I", Cond.fieldLink RX6 29 "LongTones$Voice" "beats" "I", Cond.fieldLink RX6 30 "LongTones$Voice" "wholeBreath" "I", Cond.fieldLink RX6 33 "LongTones$State" "recoveries" "LLongTones$Row;", Cond.fieldLink RX6 44 "LongTones$State" "loudnesses" "LLongTones$Row;", Cond.methodLink RX6 47 Lib.Math.min.name, Cond.static Lib.Math.min.name, Cond.initialized "java/lang/Math", Cond.code Lib.Math.min.name Lib.Math.min.code 2 (some .int), Cond.fieldLink RX6 14 "LongTones$Voice" "doings" "LLongTones$Row;", Cond.fieldLink RX6 20 "LongTones$Voice" "lefts" "LLongTones$Row;"]
def wsX7_breathFor_r2 : List Cond := [Cond.methodLink RX6 36 yX2_at, Cond.instanceMethod yX2_at, Cond.selects RX2 yX2_at yX2_at, Cond.initialized RX2, Cond.code yX2_at cX2_at 2 (some .int), Cond.fieldLink RX2 13 "LongTones$Row" "cells" "[I", Cond.methodLink RX6 40 yX4_doing, Cond.instanceMethod yX4_doing, Cond.selects RX4 yX4_doing yX4_doing, Cond.code yX4_doing cX4_doing 4 (some .int), Cond.fieldLink RX4 20 "LongTones$State" "loudnesses" "LLongTones$Row;", Cond.methodLink RX4 109 yX4_hasToSing, Cond.instanceMethod yX4_hasToSing, Cond.selects RX4 yX4_hasToSing yX4_hasToSing, Cond.code yX4_hasToSing cX4_hasToSing 4 (some .boolean), Cond.fieldLink RX4 32 "LongTones$State" "soloSingers" "LLongTones$Row;", Cond.methodLink RX4 72 yX4_isRest, Cond.instanceMethod yX4_isRest, Cond.selects RX4 yX4_isRest yX4_isRest, Cond.code yX4_isRest cX4_isRest 2 (some .boolean), Cond.fieldLink RX4 14 "LongTones$State" "sorts" "LLongTones$Row;", Cond.methodLink RX4 68 yX2_at, Cond.methodLink RX4 103 yX4_isPresent, Cond.instanceMethod yX4_isPresent]
def wsX7_breathFor_r3 : List Cond := [Cond.selects RX4 yX4_isPresent yX4_isPresent, Cond.code yX4_isPresent cX4_isPresent 2 (some .boolean), Cond.fieldLink RX4 51 "LongTones$State" "present" "I", Cond.static yX7_contains, Cond.initialized RX7, Cond.code yX7_contains cX7_contains 2 (some .boolean), Cond.methodLink RX4 106 yX4_soloAt, Cond.instanceMethod yX4_soloAt, Cond.selects RX4 yX4_soloAt yX4_soloAt, Cond.code yX4_soloAt cX4_soloAt 3 (some .int), Cond.fieldLink RX4 54 "LongTones$State" "solos" "I", Cond.fieldLink RX4 35 "LongTones$State" "soloStarts" "LLongTones$Row;", Cond.fieldLink RX4 38 "LongTones$State" "soloEnds" "LLongTones$Row;", Cond.methodLink RX4 100 yX4_isMarked, Cond.instanceMethod yX4_isMarked, Cond.selects RX4 yX4_isMarked yX4_isMarked, Cond.code yX4_isMarked cX4_isMarked 3 (some .boolean), Cond.fieldLink RX4 23 "LongTones$State" "marks" "LLongTones$Row;", Cond.methodLink RX6 53 yX2_put, Cond.instanceMethod yX2_put, Cond.selects RX2 yX2_put yX2_put, Cond.code yX2_put cX2_put 3 none, Cond.methodLink RX7 223 yX6_countDoing, Cond.instanceMethod yX6_countDoing]
def wsX7_breathFor_r4 : List Cond := [Cond.selects RX6 yX6_countDoing yX6_countDoing, Cond.code yX6_countDoing cX6_countDoing 4 (some .int)]
def wsX7_breathFor : List Cond := .code yX7_breathFor cX7_breathFor 3 (some .int) :: ((wsX7_breathFor_r1 ++ (wsX7_breathFor_r2 ++ (wsX7_breathFor_r3 ++ wsX7_breathFor_r4))) ++ wsX70 ++ wsX40 ++ wsX60 ++ wsX20)
def wsX7_count_r1 : List Cond := [Cond.fieldLink RX7 10 "LongTones" "state" "LLongTones$State;", Cond.fieldLink RX7 77 "LongTones$State" "beats" "I", Cond.fieldLink RX7 108 "LongTones$State" "singers" "I", Cond.fieldLink RX7 134 "LongTones$State" "solos" "I", Cond.fieldLink RX7 44 "LongTones" "choir" "LLongTones$Choir;", Cond.fieldLink RX7 37 "LongTones" "voice" "LLongTones$Voice;", Cond.fieldLink RX7 157 "LongTones$State" "reserve" "I", Cond.fieldLink RX7 26 "LongTones" "past" "LLongTones$Past;", Cond.fieldLink RX7 166 "LongTones$Past" "size" "I", Cond.fieldLink RX7 19 "LongTones" "text" "LLongTones$ScoreText;", Cond.fieldLink RX7 59 "LongTones$ScoreText" "length" "I", Cond.methodLink RX7 226 yX4_countRests, Cond.instanceMethod yX4_countRests, Cond.selects RX4 yX4_countRests yX4_countRests, Cond.initialized RX4, Cond.code yX4_countRests cX4_countRests 3 (some .int), Cond.fieldLink RX4 45 "LongTones$State" "beats" "I", Cond.methodLink RX4 72 yX4_isRest, Cond.instanceMethod yX4_isRest, Cond.selects RX4 yX4_isRest yX4_isRest, Cond.code yX4_isRest cX4_isRest 2 (some .boolean), Cond.fieldLink RX4 14 "LongTones$State" "sorts" "LLongTones$Row;", Cond.methodLink RX4 68 yX2_at, Cond.instanceMethod yX2_at]
def wsX7_count_r2 : List Cond := [Cond.selects RX2 yX2_at yX2_at, Cond.initialized RX2, Cond.code yX2_at cX2_at 2 (some .int), Cond.fieldLink RX2 13 "LongTones$Row" "cells" "[I", Cond.methodLink RX7 229 yX4_countSyllables, Cond.instanceMethod yX4_countSyllables, Cond.selects RX4 yX4_countSyllables yX4_countSyllables, Cond.code yX4_countSyllables cX4_countSyllables 3 (some .int), Cond.methodLink RX4 76 yX4_firstOfSyllable, Cond.instanceMethod yX4_firstOfSyllable, Cond.selects RX4 yX4_firstOfSyllable yX4_firstOfSyllable, Cond.code yX4_firstOfSyllable cX4_firstOfSyllable 3 (some .int), Cond.methodLink RX7 127 yX4_countPresent, Cond.instanceMethod yX4_countPresent, Cond.selects RX4 yX4_countPresent yX4_countPresent, Cond.code yX4_countPresent cX4_countPresent 1 (some .int), Cond.fieldLink RX4 51 "LongTones$State" "present" "I", Cond.methodLink RX4 92 yJ6_bitCount_0f7a4, Cond.static yJ6_bitCount_0f7a4, Cond.initialized RJ6, Cond.code yJ6_bitCount_0f7a4 cJ6_bitCount_0f7a4 1 (some .int), Cond.constant RJ6 265 (1431655765), Cond.constant RJ6 266 (858993459), Cond.constant RJ6 267 (252645135)]
def wsX7_count_r3 : List Cond := [Cond.methodLink RX7 163 yX4_countMarks, Cond.instanceMethod yX4_countMarks, Cond.selects RX4 yX4_countMarks yX4_countMarks, Cond.code yX4_countMarks cX4_countMarks 3 (some .int), Cond.fieldLink RX4 23 "LongTones$State" "marks" "LLongTones$Row;", Cond.methodLink RX7 181 yX0_follow, Cond.instanceMethod yX0_follow, Cond.selects RX0 yX0_follow yX0_follow, Cond.initialized RX0, Cond.code yX0_follow cX0_follow 5 none, Cond.fieldLink RX0 14 "LongTones$Choir" "singing" "LLongTones$Row;", Cond.fieldLink RX0 20 "LongTones$Choir" "breathing" "LLongTones$Row;", Cond.fieldLink RX0 23 "LongTones$Choir" "gasping" "LLongTones$Row;", Cond.fieldLink RX0 29 "LongTones$State" "singers" "I", Cond.fieldLink RX0 35 "LongTones$State" "breaths" "LLongTones$Row;", Cond.fieldLink RX0 48 "LongTones$State" "beats" "I", Cond.fieldLink RX0 51 "LongTones$Voice" "doings" "LLongTones$Row;", Cond.methodLink RX0 26 yX2_clear, Cond.instanceMethod yX2_clear, Cond.selects RX2 yX2_clear yX2_clear, Cond.code yX2_clear cX2_clear 2 none, Cond.methodLink RX0 38 yX2_at, Cond.methodLink RX0 42 yX6_follow, Cond.instanceMethod yX6_follow]
def wsX7_count_r4 : List Cond := [Cond.selects RX6 yX6_follow yX6_follow, Cond.initialized RX6, Cond.code yX6_follow cX6_follow 8 none, Cond.fieldLink RX6 23 "LongTones$State" "beats" "I", Cond.fieldLink RX6 29 "LongTones$Voice" "beats" "I", Cond.fieldLink RX6 30 "LongTones$Voice" "wholeBreath" "I", Cond.fieldLink RX6 33 "LongTones$State" "recoveries" "LLongTones$Row;", Cond.fieldLink RX6 44 "LongTones$State" "loudnesses" "LLongTones$Row;", Cond.methodLink RX6 47 Lib.Math.min.name, Cond.static Lib.Math.min.name, Cond.initialized "java/lang/Math", Cond.code Lib.Math.min.name Lib.Math.min.code 2 (some .int), Cond.fieldLink RX6 14 "LongTones$Voice" "doings" "LLongTones$Row;", Cond.fieldLink RX6 20 "LongTones$Voice" "lefts" "LLongTones$Row;", Cond.methodLink RX6 36 yX2_at, Cond.methodLink RX6 40 yX4_doing, Cond.instanceMethod yX4_doing, Cond.selects RX4 yX4_doing yX4_doing, Cond.code yX4_doing cX4_doing 4 (some .int), Cond.fieldLink RX4 20 "LongTones$State" "loudnesses" "LLongTones$Row;", Cond.methodLink RX4 109 yX4_hasToSing, Cond.instanceMethod yX4_hasToSing, Cond.selects RX4 yX4_hasToSing yX4_hasToSing, Cond.code yX4_hasToSing cX4_hasToSing 4 (some .boolean)]
def wsX7_count_r5 : List Cond := [Cond.fieldLink RX4 32 "LongTones$State" "soloSingers" "LLongTones$Row;", Cond.methodLink RX4 103 yX4_isPresent, Cond.instanceMethod yX4_isPresent, Cond.selects RX4 yX4_isPresent yX4_isPresent, Cond.code yX4_isPresent cX4_isPresent 2 (some .boolean), Cond.static yX7_contains, Cond.initialized RX7, Cond.code yX7_contains cX7_contains 2 (some .boolean), Cond.methodLink RX4 106 yX4_soloAt, Cond.instanceMethod yX4_soloAt, Cond.selects RX4 yX4_soloAt yX4_soloAt, Cond.code yX4_soloAt cX4_soloAt 3 (some .int), Cond.fieldLink RX4 54 "LongTones$State" "solos" "I", Cond.fieldLink RX4 35 "LongTones$State" "soloStarts" "LLongTones$Row;", Cond.fieldLink RX4 38 "LongTones$State" "soloEnds" "LLongTones$Row;", Cond.methodLink RX4 100 yX4_isMarked, Cond.instanceMethod yX4_isMarked, Cond.selects RX4 yX4_isMarked yX4_isMarked, Cond.code yX4_isMarked cX4_isMarked 3 (some .boolean), Cond.methodLink RX6 53 yX2_put, Cond.instanceMethod yX2_put, Cond.selects RX2 yX2_put yX2_put, Cond.code yX2_put cX2_put 3 none, Cond.methodLink RX0 54 yX0_collect]
def wsX7_count_r6 : List Cond := [Cond.instanceMethod yX0_collect, Cond.selects RX0 yX0_collect yX0_collect, Cond.code yX0_collect cX0_collect 4 none, Cond.static yX7_bit, Cond.code yX7_bit cX7_bit 1 (some .int), Cond.methodLink RX0 61 yX2_put, Cond.methodLink RX7 232 yX0_countFaults, Cond.instanceMethod yX0_countFaults, Cond.selects RX0 yX0_countFaults yX0_countFaults, Cond.code yX0_countFaults cX0_countFaults 7 (some .int), Cond.methodLink RX0 69 yX0_faultsAt, Cond.instanceMethod yX0_faultsAt, Cond.selects RX0 yX0_faultsAt yX0_faultsAt, Cond.code yX0_faultsAt cX0_faultsAt 4 (some .int), Cond.methodLink RX0 65 yX4_isRest, Cond.methodLink RX0 86 yX0_isThinInside, Cond.instanceMethod yX0_isThinInside, Cond.selects RX0 yX0_isThinInside yX0_isThinInside, Cond.code yX0_isThinInside cX0_isThinInside 3 (some .boolean), Cond.methodLink RX0 90 yX4_soloAt, Cond.methodLink RX0 93 yX4_firstOfSyllable, Cond.methodLink RX0 73 yJ6_bitCount_0f7a4, Cond.methodLink RX7 235 yX4_longestSyllable, Cond.instanceMethod yX4_longestSyllable]
def wsX7_count_r7 : List Cond := [Cond.selects RX4 yX4_longestSyllable yX4_longestSyllable, Cond.code yX4_longestSyllable cX4_longestSyllable 3 (some .int), Cond.methodLink RX4 79 Lib.Math.max.name, Cond.static Lib.Math.max.name, Cond.code Lib.Math.max.name Lib.Math.max.code 2 (some .int)]
def wsX7_count : List Cond := .code yX7_count cX7_count 2 (some .int) :: ((wsX7_count_r1 ++ (wsX7_count_r2 ++ (wsX7_count_r3 ++ (wsX7_count_r4 ++ (wsX7_count_r5 ++ (wsX7_count_r6 ++ wsX7_count_r7)))))) ++ wsX70 ++ wsX40 ++ wsX10 ++ wsX30 ++ wsX20 ++ wsX00 ++ wsX60)
def wsX8_init : List Cond := .code yX8_init cX8_init 1 none :: ([.methodLink RX8 1 objectInit, .instanceMethod objectInit, .code objectInit ⟨#[0xb1]⟩ 1 none, .arrayClass .int, .fieldLink RX8 7 "LongTonesModel" "row" "[I", .fieldLink RX8 13 "LongTonesModel" "scratch" "[I", .fieldLink RX8 16 "LongTonesModel" "history" "[I", .fieldLink RX8 19 "LongTonesModel" "slots" "[I", .arrayClass .boolean, .fieldLink RX8 22 "LongTonesModel" "isKept" "[Z", .arrayClass .char, .fieldLink RX8 26 "LongTonesModel" "text" "[C", .fieldLink RX8 30 "LongTonesModel" "itemSort" "[I", .fieldLink RX8 33 "LongTonesModel" "itemLoud" "[I", .fieldLink RX8 36 "LongTonesModel" "itemMany" "[I", .fieldLink RX8 39 "LongTonesModel" "doing" "[I", .fieldLink RX8 42 "LongTonesModel" "leftAt" "[I", .fieldLink RX8 45 "LongTonesModel" "marks" "[Z", .fieldLink RX8 48 "LongTonesModel" "faultSort" "[I", .fieldLink RX8 51 "LongTonesModel" "faultBeat" "[I", .fieldLink RX8 54 "LongTonesModel" "faultSinger" "[I"] ++ wsX80)
def wsX8_in : List Cond := .code yX8_in cX8_in 3 (some .boolean) :: ([])
def wsX8_lesser : List Cond := .code yX8_lesser cX8_lesser 2 (some .int) :: ([])
def wsX8_begin : List Cond := .code yX8_begin cX8_begin 2 none :: ([.fieldLink RX8 13 "LongTonesModel" "scratch" "[I", .fieldLink RX8 7 "LongTonesModel" "row" "[I"] ++ wsX80)
def wsX8_done : List Cond := .code yX8_done cX8_done 3 (some .int) :: ([.fieldLink RX8 57 "LongTonesModel" "kept" "I", .fieldLink RX8 16 "LongTonesModel" "history" "[I", .fieldLink RX8 13 "LongTonesModel" "scratch" "[I"] ++ wsX80)
def wsX8_undo : List Cond := .code yX8_undo cX8_undo 2 (some .int) :: ([.fieldLink RX8 57 "LongTonesModel" "kept" "I", .fieldLink RX8 7 "LongTonesModel" "row" "[I", .fieldLink RX8 16 "LongTonesModel" "history" "[I"] ++ wsX80)
def wsX8_beats : List Cond := .code yX8_beats cX8_beats 1 (some .int) :: ([.fieldLink RX8 7 "LongTonesModel" "row" "[I"] ++ wsX80)
def wsX8_keep : List Cond := .code yX8_keep cX8_keep 3 (some .int) :: ([.fieldLink RX8 22 "LongTonesModel" "isKept" "[Z", .fieldLink RX8 19 "LongTonesModel" "slots" "[I", .fieldLink RX8 7 "LongTonesModel" "row" "[I", .methodLink RX8 61 yX8_in, .static yX8_in, .initialized RX8, .code yX8_in cX8_in 3 (some .boolean), .methodLink RX8 65 yX8_beats, .instanceMethod yX8_beats, .selects RX8 yX8_beats yX8_beats, .code yX8_beats cX8_beats 1 (some .int)] ++ wsX80)
def wsX8_restore : List Cond := .code yX8_restore cX8_restore 3 (some .int) :: ([.fieldLink RX8 22 "LongTonesModel" "isKept" "[Z", .fieldLink RX8 7 "LongTonesModel" "row" "[I", .fieldLink RX8 19 "LongTonesModel" "slots" "[I", .methodLink RX8 61 yX8_in, .static yX8_in, .initialized RX8, .code yX8_in cX8_in 3 (some .boolean), .methodLink RX8 69 yX8_begin, .instanceMethod yX8_begin, .selects RX8 yX8_begin yX8_begin, .code yX8_begin cX8_begin 2 none, .fieldLink RX8 13 "LongTonesModel" "scratch" "[I", .methodLink RX8 65 yX8_beats, .instanceMethod yX8_beats, .selects RX8 yX8_beats yX8_beats, .code yX8_beats cX8_beats 1 (some .int), .methodLink RX8 72 yX8_done, .instanceMethod yX8_done, .selects RX8 yX8_done yX8_done, .code yX8_done cX8_done 3 (some .int), .fieldLink RX8 57 "LongTonesModel" "kept" "I", .fieldLink RX8 16 "LongTonesModel" "history" "[I"] ++ wsX80)
def wsX8_singers : List Cond := .code yX8_singers cX8_singers 1 (some .int) :: ([.fieldLink RX8 7 "LongTonesModel" "row" "[I"] ++ wsX80)
def wsX8_solos : List Cond := .code yX8_solos cX8_solos 1 (some .int) :: ([.fieldLink RX8 7 "LongTonesModel" "row" "[I"] ++ wsX80)
def wsX8_noBeat : List Cond := .code yX8_noBeat cX8_noBeat 2 (some .boolean) :: ([.methodLink RX8 65 yX8_beats, .instanceMethod yX8_beats, .selects RX8 yX8_beats yX8_beats, .initialized RX8, .code yX8_beats cX8_beats 1 (some .int), .fieldLink RX8 7 "LongTonesModel" "row" "[I", .methodLink RX8 61 yX8_in, .static yX8_in, .code yX8_in cX8_in 3 (some .boolean)] ++ wsX80)
def wsX8_noSinger : List Cond := .code yX8_noSinger cX8_noSinger 2 (some .boolean) :: ([.methodLink RX8 76 yX8_singers, .instanceMethod yX8_singers, .selects RX8 yX8_singers yX8_singers, .initialized RX8, .code yX8_singers cX8_singers 1 (some .int), .fieldLink RX8 7 "LongTonesModel" "row" "[I", .methodLink RX8 61 yX8_in, .static yX8_in, .code yX8_in cX8_in 3 (some .boolean)] ++ wsX80)
def wsX8_isRest : List Cond := .code yX8_isRest cX8_isRest 2 (some .boolean) :: ([.fieldLink RX8 7 "LongTonesModel" "row" "[I"] ++ wsX80)
def wsX8_loud : List Cond := .code yX8_loud cX8_loud 2 (some .int) :: ([.fieldLink RX8 7 "LongTonesModel" "row" "[I"] ++ wsX80)
def wsX8_of : List Cond := .code yX8_of cX8_of 3 (some .int) :: ([.fieldLink RX8 7 "LongTonesModel" "row" "[I"] ++ wsX80)
def wsX8_soloOf : List Cond := .code yX8_soloOf cX8_soloOf 3 (some .int) :: ([.fieldLink RX8 7 "LongTonesModel" "row" "[I"] ++ wsX80)
def wsX8_type : List Cond := .code yX8_type cX8_type 2 (some .int) :: ([.fieldLink RX8 79 "LongTonesModel" "typed" "I", .fieldLink RX8 26 "LongTonesModel" "text" "[C"] ++ wsX80)
def wsX8_clearText : List Cond := .code yX8_clearText cX8_clearText 2 (some .int) :: ([.fieldLink RX8 79 "LongTonesModel" "typed" "I"] ++ wsX80)
def wsX8_isAt : List Cond := .code yX8_isAt cX8_isAt 3 (some .boolean) :: ([.fieldLink RX8 82 "LongTonesModel" "place" "I", .fieldLink RX8 79 "LongTonesModel" "typed" "I", .fieldLink RX8 26 "LongTonesModel" "text" "[C"] ++ wsX80)
def wsX8_sortOf : List Cond := .code yX8_sortOf cX8_sortOf 1 (some .int) :: ([])
def wsX8_times : List Cond := .code yX8_times cX8_times 2 (some .int) :: ([.fieldLink RX8 26 "LongTonesModel" "text" "[C", .fieldLink RX8 82 "LongTonesModel" "place" "I", .methodLink RX8 85 yX8_isAt, .instanceMethod yX8_isAt, .selects RX8 yX8_isAt yX8_isAt, .initialized RX8, .code yX8_isAt cX8_isAt 3 (some .boolean), .fieldLink RX8 79 "LongTonesModel" "typed" "I"] ++ wsX80)
def wsX8_readText : List Cond := .code yX8_readText cX8_readText 5 (some .int) :: ([.fieldLink RX8 82 "LongTonesModel" "place" "I", .fieldLink RX8 79 "LongTonesModel" "typed" "I", .fieldLink RX8 26 "LongTonesModel" "text" "[C", .fieldLink RX8 30 "LongTonesModel" "itemSort" "[I", .fieldLink RX8 33 "LongTonesModel" "itemLoud" "[I", .fieldLink RX8 36 "LongTonesModel" "itemMany" "[I", .fieldLink RX8 96 "LongTonesModel" "itemCount" "I", .methodLink RX8 89 yX8_sortOf, .static yX8_sortOf, .initialized RX8, .code yX8_sortOf cX8_sortOf 1 (some .int), .methodLink RX8 85 yX8_isAt, .instanceMethod yX8_isAt, .selects RX8 yX8_isAt yX8_isAt, .code yX8_isAt cX8_isAt 3 (some .boolean), .methodLink RX8 93 yX8_times, .instanceMethod yX8_times, .selects RX8 yX8_times yX8_times, .code yX8_times cX8_times 2 (some .int)] ++ wsX80)
def wsX8_clearMarks : List Cond := .code yX8_clearMarks cX8_clearMarks 2 none :: ([.fieldLink RX8 7 "LongTonesModel" "row" "[I"] ++ wsX80)
def wsX8_read_r1 : List Cond := [Cond.fieldLink RX8 96 "LongTonesModel" "itemCount" "I", Cond.fieldLink RX8 36 "LongTonesModel" "itemMany" "[I", Cond.fieldLink RX8 7 "LongTonesModel" "row" "[I", Cond.fieldLink RX8 30 "LongTonesModel" "itemSort" "[I", Cond.fieldLink RX8 33 "LongTonesModel" "itemLoud" "[I", Cond.methodLink RX8 99 yX8_readText, Cond.instanceMethod yX8_readText, Cond.selects RX8 yX8_readText yX8_readText, Cond.initialized RX8, Cond.code yX8_readText cX8_readText 5 (some .int), Cond.fieldLink RX8 82 "LongTonesModel" "place" "I", Cond.fieldLink RX8 79 "LongTonesModel" "typed" "I", Cond.fieldLink RX8 26 "LongTonesModel" "text" "[C", Cond.methodLink RX8 89 yX8_sortOf, Cond.static yX8_sortOf, Cond.code yX8_sortOf cX8_sortOf 1 (some .int), Cond.methodLink RX8 85 yX8_isAt, Cond.instanceMethod yX8_isAt, Cond.selects RX8 yX8_isAt yX8_isAt, Cond.code yX8_isAt cX8_isAt 3 (some .boolean), Cond.methodLink RX8 93 yX8_times, Cond.instanceMethod yX8_times, Cond.selects RX8 yX8_times yX8_times, Cond.code yX8_times cX8_times 2 (some .int)]
def wsX8_read_r2 : List Cond := [Cond.methodLink RX8 69 yX8_begin, Cond.instanceMethod yX8_begin, Cond.selects RX8 yX8_begin yX8_begin, Cond.code yX8_begin cX8_begin 2 none, Cond.fieldLink RX8 13 "LongTonesModel" "scratch" "[I", Cond.methodLink RX8 102 yX8_clearMarks, Cond.instanceMethod yX8_clearMarks, Cond.selects RX8 yX8_clearMarks yX8_clearMarks, Cond.code yX8_clearMarks cX8_clearMarks 2 none, Cond.methodLink RX8 72 yX8_done, Cond.instanceMethod yX8_done, Cond.selects RX8 yX8_done yX8_done, Cond.code yX8_done cX8_done 3 (some .int), Cond.fieldLink RX8 57 "LongTonesModel" "kept" "I", Cond.fieldLink RX8 16 "LongTonesModel" "history" "[I"]
def wsX8_read : List Cond := .code yX8_read cX8_read 5 (some .int) :: ((wsX8_read_r1 ++ wsX8_read_r2) ++ wsX80)
def wsX8_setLoudness_r1 : List Cond := [Cond.fieldLink RX8 7 "LongTonesModel" "row" "[I", Cond.methodLink RX8 105 yX8_noBeat, Cond.instanceMethod yX8_noBeat, Cond.selects RX8 yX8_noBeat yX8_noBeat, Cond.initialized RX8, Cond.code yX8_noBeat cX8_noBeat 2 (some .boolean), Cond.methodLink RX8 65 yX8_beats, Cond.instanceMethod yX8_beats, Cond.selects RX8 yX8_beats yX8_beats, Cond.code yX8_beats cX8_beats 1 (some .int), Cond.methodLink RX8 61 yX8_in, Cond.static yX8_in, Cond.code yX8_in cX8_in 3 (some .boolean), Cond.methodLink RX8 69 yX8_begin, Cond.instanceMethod yX8_begin, Cond.selects RX8 yX8_begin yX8_begin, Cond.code yX8_begin cX8_begin 2 none, Cond.fieldLink RX8 13 "LongTonesModel" "scratch" "[I", Cond.methodLink RX8 109 yX8_isRest, Cond.instanceMethod yX8_isRest, Cond.selects RX8 yX8_isRest yX8_isRest, Cond.code yX8_isRest cX8_isRest 2 (some .boolean), Cond.methodLink RX8 72 yX8_done, Cond.instanceMethod yX8_done]
def wsX8_setLoudness_r2 : List Cond := [Cond.selects RX8 yX8_done yX8_done, Cond.code yX8_done cX8_done 3 (some .int), Cond.fieldLink RX8 57 "LongTonesModel" "kept" "I", Cond.fieldLink RX8 16 "LongTonesModel" "history" "[I"]
def wsX8_setLoudness : List Cond := .code yX8_setLoudness cX8_setLoudness 6 (some .int) :: ((wsX8_setLoudness_r1 ++ wsX8_setLoudness_r2) ++ wsX80)
def wsX8_setSort : List Cond := .code yX8_setSort cX8_setSort 4 (some .int) :: ([.fieldLink RX8 7 "LongTonesModel" "row" "[I", .methodLink RX8 105 yX8_noBeat, .instanceMethod yX8_noBeat, .selects RX8 yX8_noBeat yX8_noBeat, .initialized RX8, .code yX8_noBeat cX8_noBeat 2 (some .boolean), .methodLink RX8 65 yX8_beats, .instanceMethod yX8_beats, .selects RX8 yX8_beats yX8_beats, .code yX8_beats cX8_beats 1 (some .int), .methodLink RX8 61 yX8_in, .static yX8_in, .code yX8_in cX8_in 3 (some .boolean), .methodLink RX8 69 yX8_begin, .instanceMethod yX8_begin, .selects RX8 yX8_begin yX8_begin, .code yX8_begin cX8_begin 2 none, .fieldLink RX8 13 "LongTonesModel" "scratch" "[I", .methodLink RX8 72 yX8_done, .instanceMethod yX8_done, .selects RX8 yX8_done yX8_done, .code yX8_done cX8_done 3 (some .int), .fieldLink RX8 57 "LongTonesModel" "kept" "I", .fieldLink RX8 16 "LongTonesModel" "history" "[I"] ++ wsX80)
def wsX8_firstOf : List Cond := .code yX8_firstOf cX8_firstOf 3 (some .int) :: ([.fieldLink RX8 7 "LongTonesModel" "row" "[I", .methodLink RX8 109 yX8_isRest, .instanceMethod yX8_isRest, .selects RX8 yX8_isRest yX8_isRest, .initialized RX8, .code yX8_isRest cX8_isRest 2 (some .boolean)] ++ wsX80)
def wsX8_addSinger : List Cond := .code yX8_addSinger cX8_addSinger 5 (some .int) :: ([.fieldLink RX8 7 "LongTonesModel" "row" "[I", .methodLink RX8 61 yX8_in, .static yX8_in, .initialized RX8, .code yX8_in cX8_in 3 (some .boolean), .methodLink RX8 76 yX8_singers, .instanceMethod yX8_singers, .selects RX8 yX8_singers yX8_singers, .code yX8_singers cX8_singers 1 (some .int), .methodLink RX8 69 yX8_begin, .instanceMethod yX8_begin, .selects RX8 yX8_begin yX8_begin, .code yX8_begin cX8_begin 2 none, .fieldLink RX8 13 "LongTonesModel" "scratch" "[I", .methodLink RX8 72 yX8_done, .instanceMethod yX8_done, .selects RX8 yX8_done yX8_done, .code yX8_done cX8_done 3 (some .int), .fieldLink RX8 57 "LongTonesModel" "kept" "I", .fieldLink RX8 16 "LongTonesModel" "history" "[I"] ++ wsX80)
def wsX8_presentOnes : List Cond := .code yX8_presentOnes cX8_presentOnes 3 (some .int) :: ([.methodLink RX8 76 yX8_singers, .instanceMethod yX8_singers, .selects RX8 yX8_singers yX8_singers, .initialized RX8, .code yX8_singers cX8_singers 1 (some .int), .fieldLink RX8 7 "LongTonesModel" "row" "[I", .methodLink RX8 112 yX8_of, .instanceMethod yX8_of, .selects RX8 yX8_of yX8_of, .code yX8_of cX8_of 3 (some .int)] ++ wsX80)
def wsX8_setPresent_r1 : List Cond := [Cond.fieldLink RX8 7 "LongTonesModel" "row" "[I", Cond.methodLink RX8 116 yX8_noSinger, Cond.instanceMethod yX8_noSinger, Cond.selects RX8 yX8_noSinger yX8_noSinger, Cond.initialized RX8, Cond.code yX8_noSinger cX8_noSinger 2 (some .boolean), Cond.methodLink RX8 76 yX8_singers, Cond.instanceMethod yX8_singers, Cond.selects RX8 yX8_singers yX8_singers, Cond.code yX8_singers cX8_singers 1 (some .int), Cond.methodLink RX8 61 yX8_in, Cond.static yX8_in, Cond.code yX8_in cX8_in 3 (some .boolean), Cond.methodLink RX8 112 yX8_of, Cond.instanceMethod yX8_of, Cond.selects RX8 yX8_of yX8_of, Cond.code yX8_of cX8_of 3 (some .int), Cond.methodLink RX8 69 yX8_begin, Cond.instanceMethod yX8_begin, Cond.selects RX8 yX8_begin yX8_begin, Cond.code yX8_begin cX8_begin 2 none, Cond.fieldLink RX8 13 "LongTonesModel" "scratch" "[I", Cond.methodLink RX8 119 yX8_presentOnes, Cond.instanceMethod yX8_presentOnes]
def wsX8_setPresent_r2 : List Cond := [Cond.selects RX8 yX8_presentOnes yX8_presentOnes, Cond.code yX8_presentOnes cX8_presentOnes 3 (some .int), Cond.methodLink RX8 72 yX8_done, Cond.instanceMethod yX8_done, Cond.selects RX8 yX8_done yX8_done, Cond.code yX8_done cX8_done 3 (some .int), Cond.fieldLink RX8 57 "LongTonesModel" "kept" "I", Cond.fieldLink RX8 16 "LongTonesModel" "history" "[I"]
def wsX8_setPresent : List Cond := .code yX8_setPresent cX8_setPresent 4 (some .int) :: ((wsX8_setPresent_r1 ++ wsX8_setPresent_r2) ++ wsX80)
def wsX8_addSolo_r1 : List Cond := [Cond.fieldLink RX8 7 "LongTonesModel" "row" "[I", Cond.methodLink RX8 116 yX8_noSinger, Cond.instanceMethod yX8_noSinger, Cond.selects RX8 yX8_noSinger yX8_noSinger, Cond.initialized RX8, Cond.code yX8_noSinger cX8_noSinger 2 (some .boolean), Cond.methodLink RX8 76 yX8_singers, Cond.instanceMethod yX8_singers, Cond.selects RX8 yX8_singers yX8_singers, Cond.code yX8_singers cX8_singers 1 (some .int), Cond.methodLink RX8 61 yX8_in, Cond.static yX8_in, Cond.code yX8_in cX8_in 3 (some .boolean), Cond.methodLink RX8 105 yX8_noBeat, Cond.instanceMethod yX8_noBeat, Cond.selects RX8 yX8_noBeat yX8_noBeat, Cond.code yX8_noBeat cX8_noBeat 2 (some .boolean), Cond.methodLink RX8 65 yX8_beats, Cond.instanceMethod yX8_beats, Cond.selects RX8 yX8_beats yX8_beats, Cond.code yX8_beats cX8_beats 1 (some .int), Cond.methodLink RX8 122 yX8_solos, Cond.instanceMethod yX8_solos, Cond.selects RX8 yX8_solos yX8_solos]
def wsX8_addSolo_r2 : List Cond := [Cond.code yX8_solos cX8_solos 1 (some .int), Cond.methodLink RX8 125 yX8_soloOf, Cond.instanceMethod yX8_soloOf, Cond.selects RX8 yX8_soloOf yX8_soloOf, Cond.code yX8_soloOf cX8_soloOf 3 (some .int), Cond.methodLink RX8 69 yX8_begin, Cond.instanceMethod yX8_begin, Cond.selects RX8 yX8_begin yX8_begin, Cond.code yX8_begin cX8_begin 2 none, Cond.fieldLink RX8 13 "LongTonesModel" "scratch" "[I", Cond.methodLink RX8 72 yX8_done, Cond.instanceMethod yX8_done, Cond.selects RX8 yX8_done yX8_done, Cond.code yX8_done cX8_done 3 (some .int), Cond.fieldLink RX8 57 "LongTonesModel" "kept" "I", Cond.fieldLink RX8 16 "LongTonesModel" "history" "[I"]
def wsX8_addSolo : List Cond := .code yX8_addSolo cX8_addSolo 6 (some .int) :: ((wsX8_addSolo_r1 ++ wsX8_addSolo_r2) ++ wsX80)
def wsX8_removeSolo : List Cond := .code yX8_removeSolo cX8_removeSolo 3 (some .int) :: ([.fieldLink RX8 7 "LongTonesModel" "row" "[I", .methodLink RX8 122 yX8_solos, .instanceMethod yX8_solos, .selects RX8 yX8_solos yX8_solos, .initialized RX8, .code yX8_solos cX8_solos 1 (some .int), .methodLink RX8 61 yX8_in, .static yX8_in, .code yX8_in cX8_in 3 (some .boolean), .methodLink RX8 69 yX8_begin, .instanceMethod yX8_begin, .selects RX8 yX8_begin yX8_begin, .code yX8_begin cX8_begin 2 none, .fieldLink RX8 13 "LongTonesModel" "scratch" "[I", .methodLink RX8 72 yX8_done, .instanceMethod yX8_done, .selects RX8 yX8_done yX8_done, .code yX8_done cX8_done 3 (some .int), .fieldLink RX8 57 "LongTonesModel" "kept" "I", .fieldLink RX8 16 "LongTonesModel" "history" "[I"] ++ wsX80)
def wsX8_soloAt : List Cond := .code yX8_soloAt cX8_soloAt 3 (some .int) :: ([.methodLink RX8 122 yX8_solos, .instanceMethod yX8_solos, .selects RX8 yX8_solos yX8_solos, .initialized RX8, .code yX8_solos cX8_solos 1 (some .int), .fieldLink RX8 7 "LongTonesModel" "row" "[I", .methodLink RX8 125 yX8_soloOf, .instanceMethod yX8_soloOf, .selects RX8 yX8_soloOf yX8_soloOf, .code yX8_soloOf cX8_soloOf 3 (some .int), .methodLink RX8 61 yX8_in, .static yX8_in, .code yX8_in cX8_in 3 (some .boolean)] ++ wsX80)
def wsX8_isMarked : List Cond := .code yX8_isMarked cX8_isMarked 3 (some .boolean) :: ([.fieldLink RX8 7 "LongTonesModel" "row" "[I"] ++ wsX80)
def wsX8_setMark : List Cond := .code yX8_setMark cX8_setMark 3 none :: ([.fieldLink RX8 7 "LongTonesModel" "row" "[I"] ++ wsX80)
def wsX8_marksOf : List Cond := .code yX8_marksOf cX8_marksOf 4 (some .int) :: ([.methodLink RX8 65 yX8_beats, .instanceMethod yX8_beats, .selects RX8 yX8_beats yX8_beats, .initialized RX8, .code yX8_beats cX8_beats 1 (some .int), .fieldLink RX8 7 "LongTonesModel" "row" "[I", .methodLink RX8 128 yX8_isMarked, .instanceMethod yX8_isMarked, .selects RX8 yX8_isMarked yX8_isMarked, .code yX8_isMarked cX8_isMarked 3 (some .boolean)] ++ wsX80)
def wsX8_allMarks : List Cond := .code yX8_allMarks cX8_allMarks 3 (some .int) :: ([.methodLink RX8 76 yX8_singers, .instanceMethod yX8_singers, .selects RX8 yX8_singers yX8_singers, .initialized RX8, .code yX8_singers cX8_singers 1 (some .int), .fieldLink RX8 7 "LongTonesModel" "row" "[I", .methodLink RX8 132 yX8_marksOf, .instanceMethod yX8_marksOf, .selects RX8 yX8_marksOf yX8_marksOf, .code yX8_marksOf cX8_marksOf 4 (some .int), .methodLink RX8 65 yX8_beats, .instanceMethod yX8_beats, .selects RX8 yX8_beats yX8_beats, .code yX8_beats cX8_beats 1 (some .int), .methodLink RX8 128 yX8_isMarked, .instanceMethod yX8_isMarked, .selects RX8 yX8_isMarked yX8_isMarked, .code yX8_isMarked cX8_isMarked 3 (some .boolean)] ++ wsX80)
def wsX8_mark_r1 : List Cond := [Cond.methodLink RX8 116 yX8_noSinger, Cond.instanceMethod yX8_noSinger, Cond.selects RX8 yX8_noSinger yX8_noSinger, Cond.initialized RX8, Cond.code yX8_noSinger cX8_noSinger 2 (some .boolean), Cond.methodLink RX8 76 yX8_singers, Cond.instanceMethod yX8_singers, Cond.selects RX8 yX8_singers yX8_singers, Cond.code yX8_singers cX8_singers 1 (some .int), Cond.fieldLink RX8 7 "LongTonesModel" "row" "[I", Cond.methodLink RX8 61 yX8_in, Cond.static yX8_in, Cond.code yX8_in cX8_in 3 (some .boolean), Cond.methodLink RX8 105 yX8_noBeat, Cond.instanceMethod yX8_noBeat, Cond.selects RX8 yX8_noBeat yX8_noBeat, Cond.code yX8_noBeat cX8_noBeat 2 (some .boolean), Cond.methodLink RX8 65 yX8_beats, Cond.instanceMethod yX8_beats, Cond.selects RX8 yX8_beats yX8_beats, Cond.code yX8_beats cX8_beats 1 (some .int), Cond.methodLink RX8 128 yX8_isMarked, Cond.instanceMethod yX8_isMarked, Cond.selects RX8 yX8_isMarked yX8_isMarked]
def wsX8_mark_r2 : List Cond := [Cond.code yX8_isMarked cX8_isMarked 3 (some .boolean), Cond.methodLink RX8 69 yX8_begin, Cond.instanceMethod yX8_begin, Cond.selects RX8 yX8_begin yX8_begin, Cond.code yX8_begin cX8_begin 2 none, Cond.fieldLink RX8 13 "LongTonesModel" "scratch" "[I", Cond.methodLink RX8 135 yX8_setMark, Cond.instanceMethod yX8_setMark, Cond.selects RX8 yX8_setMark yX8_setMark, Cond.code yX8_setMark cX8_setMark 3 none, Cond.methodLink RX8 132 yX8_marksOf, Cond.instanceMethod yX8_marksOf, Cond.selects RX8 yX8_marksOf yX8_marksOf, Cond.code yX8_marksOf cX8_marksOf 4 (some .int), Cond.methodLink RX8 72 yX8_done, Cond.instanceMethod yX8_done, Cond.selects RX8 yX8_done yX8_done, Cond.code yX8_done cX8_done 3 (some .int), Cond.fieldLink RX8 57 "LongTonesModel" "kept" "I", Cond.fieldLink RX8 16 "LongTonesModel" "history" "[I"]
def wsX8_mark : List Cond := .code yX8_mark cX8_mark 4 (some .int) :: ((wsX8_mark_r1 ++ wsX8_mark_r2) ++ wsX80)
def wsX8_setReserve : List Cond := .code yX8_setReserve cX8_setReserve 3 (some .int) :: ([.fieldLink RX8 7 "LongTonesModel" "row" "[I", .methodLink RX8 61 yX8_in, .static yX8_in, .initialized RX8, .code yX8_in cX8_in 3 (some .boolean), .methodLink RX8 69 yX8_begin, .instanceMethod yX8_begin, .selects RX8 yX8_begin yX8_begin, .code yX8_begin cX8_begin 2 none, .fieldLink RX8 13 "LongTonesModel" "scratch" "[I", .methodLink RX8 72 yX8_done, .instanceMethod yX8_done, .selects RX8 yX8_done yX8_done, .code yX8_done cX8_done 3 (some .int), .fieldLink RX8 57 "LongTonesModel" "kept" "I", .fieldLink RX8 16 "LongTonesModel" "history" "[I"] ++ wsX80)
def wsX8_hasTo_r1 : List Cond := [Cond.methodLink RX8 139 yX8_soloAt, Cond.instanceMethod yX8_soloAt, Cond.selects RX8 yX8_soloAt yX8_soloAt, Cond.initialized RX8, Cond.code yX8_soloAt cX8_soloAt 3 (some .int), Cond.methodLink RX8 122 yX8_solos, Cond.instanceMethod yX8_solos, Cond.selects RX8 yX8_solos yX8_solos, Cond.code yX8_solos cX8_solos 1 (some .int), Cond.fieldLink RX8 7 "LongTonesModel" "row" "[I", Cond.methodLink RX8 125 yX8_soloOf, Cond.instanceMethod yX8_soloOf, Cond.selects RX8 yX8_soloOf yX8_soloOf, Cond.code yX8_soloOf cX8_soloOf 3 (some .int), Cond.methodLink RX8 61 yX8_in, Cond.static yX8_in, Cond.code yX8_in cX8_in 3 (some .boolean), Cond.methodLink RX8 109 yX8_isRest, Cond.instanceMethod yX8_isRest, Cond.selects RX8 yX8_isRest yX8_isRest, Cond.code yX8_isRest cX8_isRest 2 (some .boolean), Cond.methodLink RX8 112 yX8_of, Cond.instanceMethod yX8_of, Cond.selects RX8 yX8_of yX8_of]
def wsX8_hasTo_r2 : List Cond := [Cond.code yX8_of cX8_of 3 (some .int)]
def wsX8_hasTo : List Cond := .code yX8_hasTo cX8_hasTo 4 (some .boolean) :: ((wsX8_hasTo_r1 ++ wsX8_hasTo_r2) ++ wsX80)
def wsX8_leftAhead : List Cond := .code yX8_leftAhead cX8_leftAhead 3 (some .int) :: ([.fieldLink RX8 42 "LongTonesModel" "leftAt" "[I", .methodLink RX8 112 yX8_of, .instanceMethod yX8_of, .selects RX8 yX8_of yX8_of, .initialized RX8, .code yX8_of cX8_of 3 (some .int), .fieldLink RX8 7 "LongTonesModel" "row" "[I"] ++ wsX80)
def wsX8_live_r1 : List Cond := [Cond.fieldLink RX8 39 "LongTonesModel" "doing" "[I", Cond.fieldLink RX8 42 "LongTonesModel" "leftAt" "[I", Cond.methodLink RX8 142 yX8_leftAhead, Cond.instanceMethod yX8_leftAhead, Cond.selects RX8 yX8_leftAhead yX8_leftAhead, Cond.initialized RX8, Cond.code yX8_leftAhead cX8_leftAhead 3 (some .int), Cond.methodLink RX8 112 yX8_of, Cond.instanceMethod yX8_of, Cond.selects RX8 yX8_of yX8_of, Cond.code yX8_of cX8_of 3 (some .int), Cond.fieldLink RX8 7 "LongTonesModel" "row" "[I", Cond.methodLink RX8 145 yX8_hasTo, Cond.instanceMethod yX8_hasTo, Cond.selects RX8 yX8_hasTo yX8_hasTo, Cond.code yX8_hasTo cX8_hasTo 4 (some .boolean), Cond.methodLink RX8 139 yX8_soloAt, Cond.instanceMethod yX8_soloAt, Cond.selects RX8 yX8_soloAt yX8_soloAt, Cond.code yX8_soloAt cX8_soloAt 3 (some .int), Cond.methodLink RX8 122 yX8_solos, Cond.instanceMethod yX8_solos, Cond.selects RX8 yX8_solos yX8_solos, Cond.code yX8_solos cX8_solos 1 (some .int)]
def wsX8_live_r2 : List Cond := [Cond.methodLink RX8 125 yX8_soloOf, Cond.instanceMethod yX8_soloOf, Cond.selects RX8 yX8_soloOf yX8_soloOf, Cond.code yX8_soloOf cX8_soloOf 3 (some .int), Cond.methodLink RX8 61 yX8_in, Cond.static yX8_in, Cond.code yX8_in cX8_in 3 (some .boolean), Cond.methodLink RX8 109 yX8_isRest, Cond.instanceMethod yX8_isRest, Cond.selects RX8 yX8_isRest yX8_isRest, Cond.code yX8_isRest cX8_isRest 2 (some .boolean), Cond.methodLink RX8 128 yX8_isMarked, Cond.instanceMethod yX8_isMarked, Cond.selects RX8 yX8_isMarked yX8_isMarked, Cond.code yX8_isMarked cX8_isMarked 3 (some .boolean), Cond.methodLink RX8 148 yX8_loud, Cond.instanceMethod yX8_loud, Cond.selects RX8 yX8_loud yX8_loud, Cond.code yX8_loud cX8_loud 2 (some .int), Cond.methodLink RX8 151 yX8_lesser, Cond.static yX8_lesser, Cond.code yX8_lesser cX8_lesser 2 (some .int)]
def wsX8_live : List Cond := .code yX8_live cX8_live 5 none :: ((wsX8_live_r1 ++ wsX8_live_r2) ++ wsX80)
def wsX8_liveAll_r1 : List Cond := [Cond.methodLink RX8 76 yX8_singers, Cond.instanceMethod yX8_singers, Cond.selects RX8 yX8_singers yX8_singers, Cond.initialized RX8, Cond.code yX8_singers cX8_singers 1 (some .int), Cond.fieldLink RX8 7 "LongTonesModel" "row" "[I", Cond.methodLink RX8 65 yX8_beats, Cond.instanceMethod yX8_beats, Cond.selects RX8 yX8_beats yX8_beats, Cond.code yX8_beats cX8_beats 1 (some .int), Cond.methodLink RX8 154 yX8_live, Cond.instanceMethod yX8_live, Cond.selects RX8 yX8_live yX8_live, Cond.code yX8_live cX8_live 5 none, Cond.fieldLink RX8 39 "LongTonesModel" "doing" "[I", Cond.fieldLink RX8 42 "LongTonesModel" "leftAt" "[I", Cond.methodLink RX8 142 yX8_leftAhead, Cond.instanceMethod yX8_leftAhead, Cond.selects RX8 yX8_leftAhead yX8_leftAhead, Cond.code yX8_leftAhead cX8_leftAhead 3 (some .int), Cond.methodLink RX8 112 yX8_of, Cond.instanceMethod yX8_of, Cond.selects RX8 yX8_of yX8_of, Cond.code yX8_of cX8_of 3 (some .int)]
def wsX8_liveAll_r2 : List Cond := [Cond.methodLink RX8 145 yX8_hasTo, Cond.instanceMethod yX8_hasTo, Cond.selects RX8 yX8_hasTo yX8_hasTo, Cond.code yX8_hasTo cX8_hasTo 4 (some .boolean), Cond.methodLink RX8 139 yX8_soloAt, Cond.instanceMethod yX8_soloAt, Cond.selects RX8 yX8_soloAt yX8_soloAt, Cond.code yX8_soloAt cX8_soloAt 3 (some .int), Cond.methodLink RX8 122 yX8_solos, Cond.instanceMethod yX8_solos, Cond.selects RX8 yX8_solos yX8_solos, Cond.code yX8_solos cX8_solos 1 (some .int), Cond.methodLink RX8 125 yX8_soloOf, Cond.instanceMethod yX8_soloOf, Cond.selects RX8 yX8_soloOf yX8_soloOf, Cond.code yX8_soloOf cX8_soloOf 3 (some .int), Cond.methodLink RX8 61 yX8_in, Cond.static yX8_in, Cond.code yX8_in cX8_in 3 (some .boolean), Cond.methodLink RX8 109 yX8_isRest, Cond.instanceMethod yX8_isRest, Cond.selects RX8 yX8_isRest yX8_isRest, Cond.code yX8_isRest cX8_isRest 2 (some .boolean), Cond.methodLink RX8 128 yX8_isMarked]
def wsX8_liveAll_r3 : List Cond := [Cond.instanceMethod yX8_isMarked, Cond.selects RX8 yX8_isMarked yX8_isMarked, Cond.code yX8_isMarked cX8_isMarked 3 (some .boolean), Cond.methodLink RX8 148 yX8_loud, Cond.instanceMethod yX8_loud, Cond.selects RX8 yX8_loud yX8_loud, Cond.code yX8_loud cX8_loud 2 (some .int), Cond.methodLink RX8 151 yX8_lesser, Cond.static yX8_lesser, Cond.code yX8_lesser cX8_lesser 2 (some .int)]
def wsX8_liveAll : List Cond := .code yX8_liveAll cX8_liveAll 3 none :: ((wsX8_liveAll_r1 ++ (wsX8_liveAll_r2 ++ wsX8_liveAll_r3)) ++ wsX80)
def wsX8_doesAt : List Cond := .code yX8_doesAt cX8_doesAt 3 (some .int) :: ([.fieldLink RX8 39 "LongTonesModel" "doing" "[I"] ++ wsX80)
def wsX8_many : List Cond := .code yX8_many cX8_many 5 (some .int) :: ([.methodLink RX8 76 yX8_singers, .instanceMethod yX8_singers, .selects RX8 yX8_singers yX8_singers, .initialized RX8, .code yX8_singers cX8_singers 1 (some .int), .fieldLink RX8 7 "LongTonesModel" "row" "[I", .methodLink RX8 157 yX8_doesAt, .instanceMethod yX8_doesAt, .selects RX8 yX8_doesAt yX8_doesAt, .code yX8_doesAt cX8_doesAt 3 (some .int), .fieldLink RX8 39 "LongTonesModel" "doing" "[I"] ++ wsX80)
def wsX8_reserveAt : List Cond := .code yX8_reserveAt cX8_reserveAt 5 (some .int) :: ([.fieldLink RX8 7 "LongTonesModel" "row" "[I", .methodLink RX8 65 yX8_beats, .instanceMethod yX8_beats, .selects RX8 yX8_beats yX8_beats, .initialized RX8, .code yX8_beats cX8_beats 1 (some .int), .methodLink RX8 109 yX8_isRest, .instanceMethod yX8_isRest, .selects RX8 yX8_isRest yX8_isRest, .code yX8_isRest cX8_isRest 2 (some .boolean), .methodLink RX8 148 yX8_loud, .instanceMethod yX8_loud, .selects RX8 yX8_loud yX8_loud, .code yX8_loud cX8_loud 2 (some .int)] ++ wsX80)
def wsX8_someoneSings : List Cond := .code yX8_someoneSings cX8_someoneSings 4 (some .boolean) :: ([.fieldLink RX8 45 "LongTonesModel" "marks" "[Z", .methodLink RX8 76 yX8_singers, .instanceMethod yX8_singers, .selects RX8 yX8_singers yX8_singers, .initialized RX8, .code yX8_singers cX8_singers 1 (some .int), .fieldLink RX8 7 "LongTonesModel" "row" "[I", .methodLink RX8 112 yX8_of, .instanceMethod yX8_of, .selects RX8 yX8_of yX8_of, .code yX8_of cX8_of 3 (some .int), .methodLink RX8 142 yX8_leftAhead, .instanceMethod yX8_leftAhead, .selects RX8 yX8_leftAhead yX8_leftAhead, .code yX8_leftAhead cX8_leftAhead 3 (some .int), .fieldLink RX8 42 "LongTonesModel" "leftAt" "[I", .methodLink RX8 148 yX8_loud, .instanceMethod yX8_loud, .selects RX8 yX8_loud yX8_loud, .code yX8_loud cX8_loud 2 (some .int)] ++ wsX80)
def wsX8_nextToBreathe_r1 : List Cond := [Cond.fieldLink RX8 45 "LongTonesModel" "marks" "[Z", Cond.methodLink RX8 76 yX8_singers, Cond.instanceMethod yX8_singers, Cond.selects RX8 yX8_singers yX8_singers, Cond.initialized RX8, Cond.code yX8_singers cX8_singers 1 (some .int), Cond.fieldLink RX8 7 "LongTonesModel" "row" "[I", Cond.methodLink RX8 112 yX8_of, Cond.instanceMethod yX8_of, Cond.selects RX8 yX8_of yX8_of, Cond.code yX8_of cX8_of 3 (some .int), Cond.methodLink RX8 142 yX8_leftAhead, Cond.instanceMethod yX8_leftAhead, Cond.selects RX8 yX8_leftAhead yX8_leftAhead, Cond.code yX8_leftAhead cX8_leftAhead 3 (some .int), Cond.fieldLink RX8 42 "LongTonesModel" "leftAt" "[I", Cond.methodLink RX8 160 yX8_reserveAt, Cond.instanceMethod yX8_reserveAt, Cond.selects RX8 yX8_reserveAt yX8_reserveAt, Cond.code yX8_reserveAt cX8_reserveAt 5 (some .int), Cond.methodLink RX8 65 yX8_beats, Cond.instanceMethod yX8_beats, Cond.selects RX8 yX8_beats yX8_beats, Cond.code yX8_beats cX8_beats 1 (some .int)]
def wsX8_nextToBreathe_r2 : List Cond := [Cond.methodLink RX8 109 yX8_isRest, Cond.instanceMethod yX8_isRest, Cond.selects RX8 yX8_isRest yX8_isRest, Cond.code yX8_isRest cX8_isRest 2 (some .boolean), Cond.methodLink RX8 148 yX8_loud, Cond.instanceMethod yX8_loud, Cond.selects RX8 yX8_loud yX8_loud, Cond.code yX8_loud cX8_loud 2 (some .int)]
def wsX8_nextToBreathe : List Cond := .code yX8_nextToBreathe cX8_nextToBreathe 5 (some .int) :: ((wsX8_nextToBreathe_r1 ++ wsX8_nextToBreathe_r2) ++ wsX80)
def wsX8_giveMarks_r1 : List Cond := [Cond.fieldLink RX8 45 "LongTonesModel" "marks" "[Z", Cond.methodLink RX8 119 yX8_presentOnes, Cond.instanceMethod yX8_presentOnes, Cond.selects RX8 yX8_presentOnes yX8_presentOnes, Cond.initialized RX8, Cond.code yX8_presentOnes cX8_presentOnes 3 (some .int), Cond.methodLink RX8 76 yX8_singers, Cond.instanceMethod yX8_singers, Cond.selects RX8 yX8_singers yX8_singers, Cond.code yX8_singers cX8_singers 1 (some .int), Cond.fieldLink RX8 7 "LongTonesModel" "row" "[I", Cond.methodLink RX8 112 yX8_of, Cond.instanceMethod yX8_of, Cond.selects RX8 yX8_of yX8_of, Cond.code yX8_of cX8_of 3 (some .int), Cond.methodLink RX8 163 yX8_nextToBreathe, Cond.instanceMethod yX8_nextToBreathe, Cond.selects RX8 yX8_nextToBreathe yX8_nextToBreathe, Cond.code yX8_nextToBreathe cX8_nextToBreathe 5 (some .int), Cond.methodLink RX8 142 yX8_leftAhead, Cond.instanceMethod yX8_leftAhead, Cond.selects RX8 yX8_leftAhead yX8_leftAhead, Cond.code yX8_leftAhead cX8_leftAhead 3 (some .int), Cond.fieldLink RX8 42 "LongTonesModel" "leftAt" "[I"]
def wsX8_giveMarks_r2 : List Cond := [Cond.methodLink RX8 160 yX8_reserveAt, Cond.instanceMethod yX8_reserveAt, Cond.selects RX8 yX8_reserveAt yX8_reserveAt, Cond.code yX8_reserveAt cX8_reserveAt 5 (some .int), Cond.methodLink RX8 65 yX8_beats, Cond.instanceMethod yX8_beats, Cond.selects RX8 yX8_beats yX8_beats, Cond.code yX8_beats cX8_beats 1 (some .int), Cond.methodLink RX8 109 yX8_isRest, Cond.instanceMethod yX8_isRest, Cond.selects RX8 yX8_isRest yX8_isRest, Cond.code yX8_isRest cX8_isRest 2 (some .boolean), Cond.methodLink RX8 148 yX8_loud, Cond.instanceMethod yX8_loud, Cond.selects RX8 yX8_loud yX8_loud, Cond.code yX8_loud cX8_loud 2 (some .int), Cond.methodLink RX8 166 yX8_someoneSings, Cond.instanceMethod yX8_someoneSings, Cond.selects RX8 yX8_someoneSings yX8_someoneSings, Cond.code yX8_someoneSings cX8_someoneSings 4 (some .boolean), Cond.methodLink RX8 135 yX8_setMark, Cond.instanceMethod yX8_setMark, Cond.selects RX8 yX8_setMark yX8_setMark, Cond.code yX8_setMark cX8_setMark 3 none]
def wsX8_giveMarks : List Cond := .code yX8_giveMarks cX8_giveMarks 5 none :: ((wsX8_giveMarks_r1 ++ wsX8_giveMarks_r2) ++ wsX80)
def wsX8_make_r1 : List Cond := [Cond.methodLink RX8 119 yX8_presentOnes, Cond.instanceMethod yX8_presentOnes, Cond.selects RX8 yX8_presentOnes yX8_presentOnes, Cond.initialized RX8, Cond.code yX8_presentOnes cX8_presentOnes 3 (some .int), Cond.methodLink RX8 76 yX8_singers, Cond.instanceMethod yX8_singers, Cond.selects RX8 yX8_singers yX8_singers, Cond.code yX8_singers cX8_singers 1 (some .int), Cond.fieldLink RX8 7 "LongTonesModel" "row" "[I", Cond.methodLink RX8 112 yX8_of, Cond.instanceMethod yX8_of, Cond.selects RX8 yX8_of yX8_of, Cond.code yX8_of cX8_of 3 (some .int), Cond.methodLink RX8 65 yX8_beats, Cond.instanceMethod yX8_beats, Cond.selects RX8 yX8_beats yX8_beats, Cond.code yX8_beats cX8_beats 1 (some .int), Cond.methodLink RX8 69 yX8_begin, Cond.instanceMethod yX8_begin, Cond.selects RX8 yX8_begin yX8_begin, Cond.code yX8_begin cX8_begin 2 none, Cond.fieldLink RX8 13 "LongTonesModel" "scratch" "[I", Cond.methodLink RX8 102 yX8_clearMarks]
def wsX8_make_r2 : List Cond := [Cond.instanceMethod yX8_clearMarks, Cond.selects RX8 yX8_clearMarks yX8_clearMarks, Cond.code yX8_clearMarks cX8_clearMarks 2 none, Cond.methodLink RX8 109 yX8_isRest, Cond.instanceMethod yX8_isRest, Cond.selects RX8 yX8_isRest yX8_isRest, Cond.code yX8_isRest cX8_isRest 2 (some .boolean), Cond.methodLink RX8 139 yX8_soloAt, Cond.instanceMethod yX8_soloAt, Cond.selects RX8 yX8_soloAt yX8_soloAt, Cond.code yX8_soloAt cX8_soloAt 3 (some .int), Cond.methodLink RX8 122 yX8_solos, Cond.instanceMethod yX8_solos, Cond.selects RX8 yX8_solos yX8_solos, Cond.code yX8_solos cX8_solos 1 (some .int), Cond.methodLink RX8 125 yX8_soloOf, Cond.instanceMethod yX8_soloOf, Cond.selects RX8 yX8_soloOf yX8_soloOf, Cond.code yX8_soloOf cX8_soloOf 3 (some .int), Cond.methodLink RX8 61 yX8_in, Cond.static yX8_in, Cond.code yX8_in cX8_in 3 (some .boolean), Cond.methodLink RX8 169 yX8_giveMarks, Cond.instanceMethod yX8_giveMarks]
def wsX8_make_r3 : List Cond := [Cond.selects RX8 yX8_giveMarks yX8_giveMarks, Cond.code yX8_giveMarks cX8_giveMarks 5 none, Cond.fieldLink RX8 45 "LongTonesModel" "marks" "[Z", Cond.methodLink RX8 163 yX8_nextToBreathe, Cond.instanceMethod yX8_nextToBreathe, Cond.selects RX8 yX8_nextToBreathe yX8_nextToBreathe, Cond.code yX8_nextToBreathe cX8_nextToBreathe 5 (some .int), Cond.methodLink RX8 142 yX8_leftAhead, Cond.instanceMethod yX8_leftAhead, Cond.selects RX8 yX8_leftAhead yX8_leftAhead, Cond.code yX8_leftAhead cX8_leftAhead 3 (some .int), Cond.fieldLink RX8 42 "LongTonesModel" "leftAt" "[I", Cond.methodLink RX8 160 yX8_reserveAt, Cond.instanceMethod yX8_reserveAt, Cond.selects RX8 yX8_reserveAt yX8_reserveAt, Cond.code yX8_reserveAt cX8_reserveAt 5 (some .int), Cond.methodLink RX8 148 yX8_loud, Cond.instanceMethod yX8_loud, Cond.selects RX8 yX8_loud yX8_loud, Cond.code yX8_loud cX8_loud 2 (some .int), Cond.methodLink RX8 166 yX8_someoneSings, Cond.instanceMethod yX8_someoneSings, Cond.selects RX8 yX8_someoneSings yX8_someoneSings, Cond.code yX8_someoneSings cX8_someoneSings 4 (some .boolean)]
def wsX8_make_r4 : List Cond := [Cond.methodLink RX8 135 yX8_setMark, Cond.instanceMethod yX8_setMark, Cond.selects RX8 yX8_setMark yX8_setMark, Cond.code yX8_setMark cX8_setMark 3 none, Cond.methodLink RX8 154 yX8_live, Cond.instanceMethod yX8_live, Cond.selects RX8 yX8_live yX8_live, Cond.code yX8_live cX8_live 5 none, Cond.fieldLink RX8 39 "LongTonesModel" "doing" "[I", Cond.methodLink RX8 145 yX8_hasTo, Cond.instanceMethod yX8_hasTo, Cond.selects RX8 yX8_hasTo yX8_hasTo, Cond.code yX8_hasTo cX8_hasTo 4 (some .boolean), Cond.methodLink RX8 128 yX8_isMarked, Cond.instanceMethod yX8_isMarked, Cond.selects RX8 yX8_isMarked yX8_isMarked, Cond.code yX8_isMarked cX8_isMarked 3 (some .boolean), Cond.methodLink RX8 151 yX8_lesser, Cond.static yX8_lesser, Cond.code yX8_lesser cX8_lesser 2 (some .int), Cond.methodLink RX8 173 yX8_allMarks, Cond.instanceMethod yX8_allMarks, Cond.selects RX8 yX8_allMarks yX8_allMarks, Cond.code yX8_allMarks cX8_allMarks 3 (some .int)]
def wsX8_make_r5 : List Cond := [Cond.methodLink RX8 132 yX8_marksOf, Cond.instanceMethod yX8_marksOf, Cond.selects RX8 yX8_marksOf yX8_marksOf, Cond.code yX8_marksOf cX8_marksOf 4 (some .int), Cond.methodLink RX8 72 yX8_done, Cond.instanceMethod yX8_done, Cond.selects RX8 yX8_done yX8_done, Cond.code yX8_done cX8_done 3 (some .int), Cond.fieldLink RX8 57 "LongTonesModel" "kept" "I", Cond.fieldLink RX8 16 "LongTonesModel" "history" "[I"]
def wsX8_make : List Cond := .code yX8_make cX8_make 3 (some .int) :: ((wsX8_make_r1 ++ (wsX8_make_r2 ++ (wsX8_make_r3 ++ (wsX8_make_r4 ++ wsX8_make_r5)))) ++ wsX80)
def wsX8_addFault : List Cond := .code yX8_addFault cX8_addFault 4 none :: ([.fieldLink RX8 48 "LongTonesModel" "faultSort" "[I", .fieldLink RX8 176 "LongTonesModel" "faults" "I", .fieldLink RX8 51 "LongTonesModel" "faultBeat" "[I", .fieldLink RX8 54 "LongTonesModel" "faultSinger" "[I"] ++ wsX80)
def wsX8_sortOfMark_r1 : List Cond := [Cond.methodLink RX8 157 yX8_doesAt, Cond.instanceMethod yX8_doesAt, Cond.selects RX8 yX8_doesAt yX8_doesAt, Cond.initialized RX8, Cond.code yX8_doesAt cX8_doesAt 3 (some .int), Cond.fieldLink RX8 39 "LongTonesModel" "doing" "[I", Cond.methodLink RX8 139 yX8_soloAt, Cond.instanceMethod yX8_soloAt, Cond.selects RX8 yX8_soloAt yX8_soloAt, Cond.code yX8_soloAt cX8_soloAt 3 (some .int), Cond.methodLink RX8 122 yX8_solos, Cond.instanceMethod yX8_solos, Cond.selects RX8 yX8_solos yX8_solos, Cond.code yX8_solos cX8_solos 1 (some .int), Cond.fieldLink RX8 7 "LongTonesModel" "row" "[I", Cond.methodLink RX8 125 yX8_soloOf, Cond.instanceMethod yX8_soloOf, Cond.selects RX8 yX8_soloOf yX8_soloOf, Cond.code yX8_soloOf cX8_soloOf 3 (some .int), Cond.methodLink RX8 61 yX8_in, Cond.static yX8_in, Cond.code yX8_in cX8_in 3 (some .boolean), Cond.methodLink RX8 179 yX8_firstOf, Cond.instanceMethod yX8_firstOf]
def wsX8_sortOfMark_r2 : List Cond := [Cond.selects RX8 yX8_firstOf yX8_firstOf, Cond.code yX8_firstOf cX8_firstOf 3 (some .int), Cond.methodLink RX8 109 yX8_isRest, Cond.instanceMethod yX8_isRest, Cond.selects RX8 yX8_isRest yX8_isRest, Cond.code yX8_isRest cX8_isRest 2 (some .boolean), Cond.methodLink RX8 182 yX8_many, Cond.instanceMethod yX8_many, Cond.selects RX8 yX8_many yX8_many, Cond.code yX8_many cX8_many 5 (some .int), Cond.methodLink RX8 76 yX8_singers, Cond.instanceMethod yX8_singers, Cond.selects RX8 yX8_singers yX8_singers, Cond.code yX8_singers cX8_singers 1 (some .int)]
def wsX8_sortOfMark : List Cond := .code yX8_sortOfMark cX8_sortOfMark 3 (some .int) :: ((wsX8_sortOfMark_r1 ++ wsX8_sortOfMark_r2) ++ wsX80)
def wsX8_findFaults_r1 : List Cond := [Cond.fieldLink RX8 176 "LongTonesModel" "faults" "I", Cond.methodLink RX8 185 yX8_liveAll, Cond.instanceMethod yX8_liveAll, Cond.selects RX8 yX8_liveAll yX8_liveAll, Cond.initialized RX8, Cond.code yX8_liveAll cX8_liveAll 3 none, Cond.methodLink RX8 76 yX8_singers, Cond.instanceMethod yX8_singers, Cond.selects RX8 yX8_singers yX8_singers, Cond.code yX8_singers cX8_singers 1 (some .int), Cond.fieldLink RX8 7 "LongTonesModel" "row" "[I", Cond.methodLink RX8 65 yX8_beats, Cond.instanceMethod yX8_beats, Cond.selects RX8 yX8_beats yX8_beats, Cond.code yX8_beats cX8_beats 1 (some .int), Cond.methodLink RX8 154 yX8_live, Cond.instanceMethod yX8_live, Cond.selects RX8 yX8_live yX8_live, Cond.code yX8_live cX8_live 5 none, Cond.fieldLink RX8 39 "LongTonesModel" "doing" "[I", Cond.fieldLink RX8 42 "LongTonesModel" "leftAt" "[I", Cond.methodLink RX8 142 yX8_leftAhead, Cond.instanceMethod yX8_leftAhead, Cond.selects RX8 yX8_leftAhead yX8_leftAhead]
def wsX8_findFaults_r2 : List Cond := [Cond.code yX8_leftAhead cX8_leftAhead 3 (some .int), Cond.methodLink RX8 112 yX8_of, Cond.instanceMethod yX8_of, Cond.selects RX8 yX8_of yX8_of, Cond.code yX8_of cX8_of 3 (some .int), Cond.methodLink RX8 145 yX8_hasTo, Cond.instanceMethod yX8_hasTo, Cond.selects RX8 yX8_hasTo yX8_hasTo, Cond.code yX8_hasTo cX8_hasTo 4 (some .boolean), Cond.methodLink RX8 139 yX8_soloAt, Cond.instanceMethod yX8_soloAt, Cond.selects RX8 yX8_soloAt yX8_soloAt, Cond.code yX8_soloAt cX8_soloAt 3 (some .int), Cond.methodLink RX8 122 yX8_solos, Cond.instanceMethod yX8_solos, Cond.selects RX8 yX8_solos yX8_solos, Cond.code yX8_solos cX8_solos 1 (some .int), Cond.methodLink RX8 125 yX8_soloOf, Cond.instanceMethod yX8_soloOf, Cond.selects RX8 yX8_soloOf yX8_soloOf, Cond.code yX8_soloOf cX8_soloOf 3 (some .int), Cond.methodLink RX8 61 yX8_in, Cond.static yX8_in, Cond.code yX8_in cX8_in 3 (some .boolean)]
def wsX8_findFaults_r3 : List Cond := [Cond.methodLink RX8 109 yX8_isRest, Cond.instanceMethod yX8_isRest, Cond.selects RX8 yX8_isRest yX8_isRest, Cond.code yX8_isRest cX8_isRest 2 (some .boolean), Cond.methodLink RX8 128 yX8_isMarked, Cond.instanceMethod yX8_isMarked, Cond.selects RX8 yX8_isMarked yX8_isMarked, Cond.code yX8_isMarked cX8_isMarked 3 (some .boolean), Cond.methodLink RX8 148 yX8_loud, Cond.instanceMethod yX8_loud, Cond.selects RX8 yX8_loud yX8_loud, Cond.code yX8_loud cX8_loud 2 (some .int), Cond.methodLink RX8 151 yX8_lesser, Cond.static yX8_lesser, Cond.code yX8_lesser cX8_lesser 2 (some .int), Cond.methodLink RX8 182 yX8_many, Cond.instanceMethod yX8_many, Cond.selects RX8 yX8_many yX8_many, Cond.code yX8_many cX8_many 5 (some .int), Cond.methodLink RX8 157 yX8_doesAt, Cond.instanceMethod yX8_doesAt, Cond.selects RX8 yX8_doesAt yX8_doesAt, Cond.code yX8_doesAt cX8_doesAt 3 (some .int), Cond.methodLink RX8 188 yX8_addFault]
def wsX8_findFaults_r4 : List Cond := [Cond.instanceMethod yX8_addFault, Cond.selects RX8 yX8_addFault yX8_addFault, Cond.code yX8_addFault cX8_addFault 4 none, Cond.fieldLink RX8 48 "LongTonesModel" "faultSort" "[I", Cond.fieldLink RX8 51 "LongTonesModel" "faultBeat" "[I", Cond.fieldLink RX8 54 "LongTonesModel" "faultSinger" "[I", Cond.methodLink RX8 192 yX8_sortOfMark, Cond.instanceMethod yX8_sortOfMark, Cond.selects RX8 yX8_sortOfMark yX8_sortOfMark, Cond.code yX8_sortOfMark cX8_sortOfMark 3 (some .int), Cond.methodLink RX8 179 yX8_firstOf, Cond.instanceMethod yX8_firstOf, Cond.selects RX8 yX8_firstOf yX8_firstOf, Cond.code yX8_firstOf cX8_firstOf 3 (some .int)]
def wsX8_findFaults : List Cond := .code yX8_findFaults cX8_findFaults 4 none :: ((wsX8_findFaults_r1 ++ (wsX8_findFaults_r2 ++ (wsX8_findFaults_r3 ++ wsX8_findFaults_r4))) ++ wsX80)
def wsX8_faultsOf : List Cond := .code yX8_faultsOf cX8_faultsOf 4 (some .int) :: ([.fieldLink RX8 176 "LongTonesModel" "faults" "I", .fieldLink RX8 48 "LongTonesModel" "faultSort" "[I"] ++ wsX80)
def wsX8_fault_r1 : List Cond := [Cond.fieldLink RX8 176 "LongTonesModel" "faults" "I", Cond.fieldLink RX8 48 "LongTonesModel" "faultSort" "[I", Cond.fieldLink RX8 51 "LongTonesModel" "faultBeat" "[I", Cond.fieldLink RX8 54 "LongTonesModel" "faultSinger" "[I", Cond.methodLink RX8 61 yX8_in, Cond.static yX8_in, Cond.initialized RX8, Cond.code yX8_in cX8_in 3 (some .boolean), Cond.methodLink RX8 195 yX8_findFaults, Cond.instanceMethod yX8_findFaults, Cond.selects RX8 yX8_findFaults yX8_findFaults, Cond.code yX8_findFaults cX8_findFaults 4 none, Cond.methodLink RX8 185 yX8_liveAll, Cond.instanceMethod yX8_liveAll, Cond.selects RX8 yX8_liveAll yX8_liveAll, Cond.code yX8_liveAll cX8_liveAll 3 none, Cond.methodLink RX8 76 yX8_singers, Cond.instanceMethod yX8_singers, Cond.selects RX8 yX8_singers yX8_singers, Cond.code yX8_singers cX8_singers 1 (some .int), Cond.fieldLink RX8 7 "LongTonesModel" "row" "[I", Cond.methodLink RX8 65 yX8_beats, Cond.instanceMethod yX8_beats, Cond.selects RX8 yX8_beats yX8_beats]
def wsX8_fault_r2 : List Cond := [Cond.code yX8_beats cX8_beats 1 (some .int), Cond.methodLink RX8 154 yX8_live, Cond.instanceMethod yX8_live, Cond.selects RX8 yX8_live yX8_live, Cond.code yX8_live cX8_live 5 none, Cond.fieldLink RX8 39 "LongTonesModel" "doing" "[I", Cond.fieldLink RX8 42 "LongTonesModel" "leftAt" "[I", Cond.methodLink RX8 142 yX8_leftAhead, Cond.instanceMethod yX8_leftAhead, Cond.selects RX8 yX8_leftAhead yX8_leftAhead, Cond.code yX8_leftAhead cX8_leftAhead 3 (some .int), Cond.methodLink RX8 112 yX8_of, Cond.instanceMethod yX8_of, Cond.selects RX8 yX8_of yX8_of, Cond.code yX8_of cX8_of 3 (some .int), Cond.methodLink RX8 145 yX8_hasTo, Cond.instanceMethod yX8_hasTo, Cond.selects RX8 yX8_hasTo yX8_hasTo, Cond.code yX8_hasTo cX8_hasTo 4 (some .boolean), Cond.methodLink RX8 139 yX8_soloAt, Cond.instanceMethod yX8_soloAt, Cond.selects RX8 yX8_soloAt yX8_soloAt, Cond.code yX8_soloAt cX8_soloAt 3 (some .int), Cond.methodLink RX8 122 yX8_solos]
def wsX8_fault_r3 : List Cond := [Cond.instanceMethod yX8_solos, Cond.selects RX8 yX8_solos yX8_solos, Cond.code yX8_solos cX8_solos 1 (some .int), Cond.methodLink RX8 125 yX8_soloOf, Cond.instanceMethod yX8_soloOf, Cond.selects RX8 yX8_soloOf yX8_soloOf, Cond.code yX8_soloOf cX8_soloOf 3 (some .int), Cond.methodLink RX8 109 yX8_isRest, Cond.instanceMethod yX8_isRest, Cond.selects RX8 yX8_isRest yX8_isRest, Cond.code yX8_isRest cX8_isRest 2 (some .boolean), Cond.methodLink RX8 128 yX8_isMarked, Cond.instanceMethod yX8_isMarked, Cond.selects RX8 yX8_isMarked yX8_isMarked, Cond.code yX8_isMarked cX8_isMarked 3 (some .boolean), Cond.methodLink RX8 148 yX8_loud, Cond.instanceMethod yX8_loud, Cond.selects RX8 yX8_loud yX8_loud, Cond.code yX8_loud cX8_loud 2 (some .int), Cond.methodLink RX8 151 yX8_lesser, Cond.static yX8_lesser, Cond.code yX8_lesser cX8_lesser 2 (some .int), Cond.methodLink RX8 182 yX8_many, Cond.instanceMethod yX8_many]
def wsX8_fault_r4 : List Cond := [Cond.selects RX8 yX8_many yX8_many, Cond.code yX8_many cX8_many 5 (some .int), Cond.methodLink RX8 157 yX8_doesAt, Cond.instanceMethod yX8_doesAt, Cond.selects RX8 yX8_doesAt yX8_doesAt, Cond.code yX8_doesAt cX8_doesAt 3 (some .int), Cond.methodLink RX8 188 yX8_addFault, Cond.instanceMethod yX8_addFault, Cond.selects RX8 yX8_addFault yX8_addFault, Cond.code yX8_addFault cX8_addFault 4 none, Cond.methodLink RX8 192 yX8_sortOfMark, Cond.instanceMethod yX8_sortOfMark, Cond.selects RX8 yX8_sortOfMark yX8_sortOfMark, Cond.code yX8_sortOfMark cX8_sortOfMark 3 (some .int), Cond.methodLink RX8 179 yX8_firstOf, Cond.instanceMethod yX8_firstOf, Cond.selects RX8 yX8_firstOf yX8_firstOf, Cond.code yX8_firstOf cX8_firstOf 3 (some .int)]
def wsX8_fault : List Cond := .code yX8_fault cX8_fault 3 (some .int) :: ((wsX8_fault_r1 ++ (wsX8_fault_r2 ++ (wsX8_fault_r3 ++ wsX8_fault_r4))) ++ wsX80)
def wsX8_beat_r1 : List Cond := [Cond.fieldLink RX8 7 "LongTonesModel" "row" "[I", Cond.methodLink RX8 105 yX8_noBeat, Cond.instanceMethod yX8_noBeat, Cond.selects RX8 yX8_noBeat yX8_noBeat, Cond.initialized RX8, Cond.code yX8_noBeat cX8_noBeat 2 (some .boolean), Cond.methodLink RX8 65 yX8_beats, Cond.instanceMethod yX8_beats, Cond.selects RX8 yX8_beats yX8_beats, Cond.code yX8_beats cX8_beats 1 (some .int), Cond.methodLink RX8 61 yX8_in, Cond.static yX8_in, Cond.code yX8_in cX8_in 3 (some .boolean), Cond.methodLink RX8 185 yX8_liveAll, Cond.instanceMethod yX8_liveAll, Cond.selects RX8 yX8_liveAll yX8_liveAll, Cond.code yX8_liveAll cX8_liveAll 3 none, Cond.methodLink RX8 76 yX8_singers, Cond.instanceMethod yX8_singers, Cond.selects RX8 yX8_singers yX8_singers, Cond.code yX8_singers cX8_singers 1 (some .int), Cond.methodLink RX8 154 yX8_live, Cond.instanceMethod yX8_live, Cond.selects RX8 yX8_live yX8_live]
def wsX8_beat_r2 : List Cond := [Cond.code yX8_live cX8_live 5 none, Cond.fieldLink RX8 39 "LongTonesModel" "doing" "[I", Cond.fieldLink RX8 42 "LongTonesModel" "leftAt" "[I", Cond.methodLink RX8 142 yX8_leftAhead, Cond.instanceMethod yX8_leftAhead, Cond.selects RX8 yX8_leftAhead yX8_leftAhead, Cond.code yX8_leftAhead cX8_leftAhead 3 (some .int), Cond.methodLink RX8 112 yX8_of, Cond.instanceMethod yX8_of, Cond.selects RX8 yX8_of yX8_of, Cond.code yX8_of cX8_of 3 (some .int), Cond.methodLink RX8 145 yX8_hasTo, Cond.instanceMethod yX8_hasTo, Cond.selects RX8 yX8_hasTo yX8_hasTo, Cond.code yX8_hasTo cX8_hasTo 4 (some .boolean), Cond.methodLink RX8 139 yX8_soloAt, Cond.instanceMethod yX8_soloAt, Cond.selects RX8 yX8_soloAt yX8_soloAt, Cond.code yX8_soloAt cX8_soloAt 3 (some .int), Cond.methodLink RX8 122 yX8_solos, Cond.instanceMethod yX8_solos, Cond.selects RX8 yX8_solos yX8_solos, Cond.code yX8_solos cX8_solos 1 (some .int), Cond.methodLink RX8 125 yX8_soloOf]
def wsX8_beat_r3 : List Cond := [Cond.instanceMethod yX8_soloOf, Cond.selects RX8 yX8_soloOf yX8_soloOf, Cond.code yX8_soloOf cX8_soloOf 3 (some .int), Cond.methodLink RX8 109 yX8_isRest, Cond.instanceMethod yX8_isRest, Cond.selects RX8 yX8_isRest yX8_isRest, Cond.code yX8_isRest cX8_isRest 2 (some .boolean), Cond.methodLink RX8 128 yX8_isMarked, Cond.instanceMethod yX8_isMarked, Cond.selects RX8 yX8_isMarked yX8_isMarked, Cond.code yX8_isMarked cX8_isMarked 3 (some .boolean), Cond.methodLink RX8 148 yX8_loud, Cond.instanceMethod yX8_loud, Cond.selects RX8 yX8_loud yX8_loud, Cond.code yX8_loud cX8_loud 2 (some .int), Cond.methodLink RX8 151 yX8_lesser, Cond.static yX8_lesser, Cond.code yX8_lesser cX8_lesser 2 (some .int), Cond.methodLink RX8 179 yX8_firstOf, Cond.instanceMethod yX8_firstOf, Cond.selects RX8 yX8_firstOf yX8_firstOf, Cond.code yX8_firstOf cX8_firstOf 3 (some .int), Cond.methodLink RX8 182 yX8_many, Cond.instanceMethod yX8_many]
def wsX8_beat_r4 : List Cond := [Cond.selects RX8 yX8_many yX8_many, Cond.code yX8_many cX8_many 5 (some .int), Cond.methodLink RX8 157 yX8_doesAt, Cond.instanceMethod yX8_doesAt, Cond.selects RX8 yX8_doesAt yX8_doesAt, Cond.code yX8_doesAt cX8_doesAt 3 (some .int)]
def wsX8_beat : List Cond := .code yX8_beat cX8_beat 3 (some .int) :: ((wsX8_beat_r1 ++ (wsX8_beat_r2 ++ (wsX8_beat_r3 ++ wsX8_beat_r4))) ++ wsX80)
def wsX8_beatsOf : List Cond := .code yX8_beatsOf cX8_beatsOf 5 (some .int) :: ([.methodLink RX8 65 yX8_beats, .instanceMethod yX8_beats, .selects RX8 yX8_beats yX8_beats, .initialized RX8, .code yX8_beats cX8_beats 1 (some .int), .fieldLink RX8 7 "LongTonesModel" "row" "[I", .methodLink RX8 157 yX8_doesAt, .instanceMethod yX8_doesAt, .selects RX8 yX8_doesAt yX8_doesAt, .code yX8_doesAt cX8_doesAt 3 (some .int), .fieldLink RX8 39 "LongTonesModel" "doing" "[I"] ++ wsX80)
def wsX8_singer_r1 : List Cond := [Cond.fieldLink RX8 42 "LongTonesModel" "leftAt" "[I", Cond.methodLink RX8 116 yX8_noSinger, Cond.instanceMethod yX8_noSinger, Cond.selects RX8 yX8_noSinger yX8_noSinger, Cond.initialized RX8, Cond.code yX8_noSinger cX8_noSinger 2 (some .boolean), Cond.methodLink RX8 76 yX8_singers, Cond.instanceMethod yX8_singers, Cond.selects RX8 yX8_singers yX8_singers, Cond.code yX8_singers cX8_singers 1 (some .int), Cond.fieldLink RX8 7 "LongTonesModel" "row" "[I", Cond.methodLink RX8 61 yX8_in, Cond.static yX8_in, Cond.code yX8_in cX8_in 3 (some .boolean), Cond.methodLink RX8 185 yX8_liveAll, Cond.instanceMethod yX8_liveAll, Cond.selects RX8 yX8_liveAll yX8_liveAll, Cond.code yX8_liveAll cX8_liveAll 3 none, Cond.methodLink RX8 65 yX8_beats, Cond.instanceMethod yX8_beats, Cond.selects RX8 yX8_beats yX8_beats, Cond.code yX8_beats cX8_beats 1 (some .int), Cond.methodLink RX8 154 yX8_live, Cond.instanceMethod yX8_live]
def wsX8_singer_r2 : List Cond := [Cond.selects RX8 yX8_live yX8_live, Cond.code yX8_live cX8_live 5 none, Cond.fieldLink RX8 39 "LongTonesModel" "doing" "[I", Cond.methodLink RX8 142 yX8_leftAhead, Cond.instanceMethod yX8_leftAhead, Cond.selects RX8 yX8_leftAhead yX8_leftAhead, Cond.code yX8_leftAhead cX8_leftAhead 3 (some .int), Cond.methodLink RX8 112 yX8_of, Cond.instanceMethod yX8_of, Cond.selects RX8 yX8_of yX8_of, Cond.code yX8_of cX8_of 3 (some .int), Cond.methodLink RX8 145 yX8_hasTo, Cond.instanceMethod yX8_hasTo, Cond.selects RX8 yX8_hasTo yX8_hasTo, Cond.code yX8_hasTo cX8_hasTo 4 (some .boolean), Cond.methodLink RX8 139 yX8_soloAt, Cond.instanceMethod yX8_soloAt, Cond.selects RX8 yX8_soloAt yX8_soloAt, Cond.code yX8_soloAt cX8_soloAt 3 (some .int), Cond.methodLink RX8 122 yX8_solos, Cond.instanceMethod yX8_solos, Cond.selects RX8 yX8_solos yX8_solos, Cond.code yX8_solos cX8_solos 1 (some .int), Cond.methodLink RX8 125 yX8_soloOf]
def wsX8_singer_r3 : List Cond := [Cond.instanceMethod yX8_soloOf, Cond.selects RX8 yX8_soloOf yX8_soloOf, Cond.code yX8_soloOf cX8_soloOf 3 (some .int), Cond.methodLink RX8 109 yX8_isRest, Cond.instanceMethod yX8_isRest, Cond.selects RX8 yX8_isRest yX8_isRest, Cond.code yX8_isRest cX8_isRest 2 (some .boolean), Cond.methodLink RX8 128 yX8_isMarked, Cond.instanceMethod yX8_isMarked, Cond.selects RX8 yX8_isMarked yX8_isMarked, Cond.code yX8_isMarked cX8_isMarked 3 (some .boolean), Cond.methodLink RX8 148 yX8_loud, Cond.instanceMethod yX8_loud, Cond.selects RX8 yX8_loud yX8_loud, Cond.code yX8_loud cX8_loud 2 (some .int), Cond.methodLink RX8 151 yX8_lesser, Cond.static yX8_lesser, Cond.code yX8_lesser cX8_lesser 2 (some .int), Cond.methodLink RX8 157 yX8_doesAt, Cond.instanceMethod yX8_doesAt, Cond.selects RX8 yX8_doesAt yX8_doesAt, Cond.code yX8_doesAt cX8_doesAt 3 (some .int), Cond.methodLink RX8 132 yX8_marksOf, Cond.instanceMethod yX8_marksOf]
def wsX8_singer_r4 : List Cond := [Cond.selects RX8 yX8_marksOf yX8_marksOf, Cond.code yX8_marksOf cX8_marksOf 4 (some .int), Cond.methodLink RX8 198 yX8_beatsOf, Cond.instanceMethod yX8_beatsOf, Cond.selects RX8 yX8_beatsOf yX8_beatsOf, Cond.code yX8_beatsOf cX8_beatsOf 5 (some .int)]
def wsX8_singer : List Cond := .code yX8_singer cX8_singer 7 (some .int) :: ((wsX8_singer_r1 ++ (wsX8_singer_r2 ++ (wsX8_singer_r3 ++ wsX8_singer_r4))) ++ wsX80)
def wsX8_does_r1 : List Cond := [Cond.methodLink RX8 116 yX8_noSinger, Cond.instanceMethod yX8_noSinger, Cond.selects RX8 yX8_noSinger yX8_noSinger, Cond.initialized RX8, Cond.code yX8_noSinger cX8_noSinger 2 (some .boolean), Cond.methodLink RX8 76 yX8_singers, Cond.instanceMethod yX8_singers, Cond.selects RX8 yX8_singers yX8_singers, Cond.code yX8_singers cX8_singers 1 (some .int), Cond.fieldLink RX8 7 "LongTonesModel" "row" "[I", Cond.methodLink RX8 61 yX8_in, Cond.static yX8_in, Cond.code yX8_in cX8_in 3 (some .boolean), Cond.methodLink RX8 105 yX8_noBeat, Cond.instanceMethod yX8_noBeat, Cond.selects RX8 yX8_noBeat yX8_noBeat, Cond.code yX8_noBeat cX8_noBeat 2 (some .boolean), Cond.methodLink RX8 65 yX8_beats, Cond.instanceMethod yX8_beats, Cond.selects RX8 yX8_beats yX8_beats, Cond.code yX8_beats cX8_beats 1 (some .int), Cond.methodLink RX8 185 yX8_liveAll, Cond.instanceMethod yX8_liveAll, Cond.selects RX8 yX8_liveAll yX8_liveAll]
def wsX8_does_r2 : List Cond := [Cond.code yX8_liveAll cX8_liveAll 3 none, Cond.methodLink RX8 154 yX8_live, Cond.instanceMethod yX8_live, Cond.selects RX8 yX8_live yX8_live, Cond.code yX8_live cX8_live 5 none, Cond.fieldLink RX8 39 "LongTonesModel" "doing" "[I", Cond.fieldLink RX8 42 "LongTonesModel" "leftAt" "[I", Cond.methodLink RX8 142 yX8_leftAhead, Cond.instanceMethod yX8_leftAhead, Cond.selects RX8 yX8_leftAhead yX8_leftAhead, Cond.code yX8_leftAhead cX8_leftAhead 3 (some .int), Cond.methodLink RX8 112 yX8_of, Cond.instanceMethod yX8_of, Cond.selects RX8 yX8_of yX8_of, Cond.code yX8_of cX8_of 3 (some .int), Cond.methodLink RX8 145 yX8_hasTo, Cond.instanceMethod yX8_hasTo, Cond.selects RX8 yX8_hasTo yX8_hasTo, Cond.code yX8_hasTo cX8_hasTo 4 (some .boolean), Cond.methodLink RX8 139 yX8_soloAt, Cond.instanceMethod yX8_soloAt, Cond.selects RX8 yX8_soloAt yX8_soloAt, Cond.code yX8_soloAt cX8_soloAt 3 (some .int), Cond.methodLink RX8 122 yX8_solos]
def wsX8_does_r3 : List Cond := [Cond.instanceMethod yX8_solos, Cond.selects RX8 yX8_solos yX8_solos, Cond.code yX8_solos cX8_solos 1 (some .int), Cond.methodLink RX8 125 yX8_soloOf, Cond.instanceMethod yX8_soloOf, Cond.selects RX8 yX8_soloOf yX8_soloOf, Cond.code yX8_soloOf cX8_soloOf 3 (some .int), Cond.methodLink RX8 109 yX8_isRest, Cond.instanceMethod yX8_isRest, Cond.selects RX8 yX8_isRest yX8_isRest, Cond.code yX8_isRest cX8_isRest 2 (some .boolean), Cond.methodLink RX8 128 yX8_isMarked, Cond.instanceMethod yX8_isMarked, Cond.selects RX8 yX8_isMarked yX8_isMarked, Cond.code yX8_isMarked cX8_isMarked 3 (some .boolean), Cond.methodLink RX8 148 yX8_loud, Cond.instanceMethod yX8_loud, Cond.selects RX8 yX8_loud yX8_loud, Cond.code yX8_loud cX8_loud 2 (some .int), Cond.methodLink RX8 151 yX8_lesser, Cond.static yX8_lesser, Cond.code yX8_lesser cX8_lesser 2 (some .int), Cond.methodLink RX8 157 yX8_doesAt, Cond.instanceMethod yX8_doesAt]
def wsX8_does_r4 : List Cond := [Cond.selects RX8 yX8_doesAt yX8_doesAt, Cond.code yX8_doesAt cX8_doesAt 3 (some .int)]
def wsX8_does : List Cond := .code yX8_does cX8_does 3 (some .int) :: ((wsX8_does_r1 ++ (wsX8_does_r2 ++ (wsX8_does_r3 ++ wsX8_does_r4))) ++ wsX80)
def wsX8_left_r1 : List Cond := [Cond.fieldLink RX8 42 "LongTonesModel" "leftAt" "[I", Cond.methodLink RX8 116 yX8_noSinger, Cond.instanceMethod yX8_noSinger, Cond.selects RX8 yX8_noSinger yX8_noSinger, Cond.initialized RX8, Cond.code yX8_noSinger cX8_noSinger 2 (some .boolean), Cond.methodLink RX8 76 yX8_singers, Cond.instanceMethod yX8_singers, Cond.selects RX8 yX8_singers yX8_singers, Cond.code yX8_singers cX8_singers 1 (some .int), Cond.fieldLink RX8 7 "LongTonesModel" "row" "[I", Cond.methodLink RX8 61 yX8_in, Cond.static yX8_in, Cond.code yX8_in cX8_in 3 (some .boolean), Cond.methodLink RX8 105 yX8_noBeat, Cond.instanceMethod yX8_noBeat, Cond.selects RX8 yX8_noBeat yX8_noBeat, Cond.code yX8_noBeat cX8_noBeat 2 (some .boolean), Cond.methodLink RX8 65 yX8_beats, Cond.instanceMethod yX8_beats, Cond.selects RX8 yX8_beats yX8_beats, Cond.code yX8_beats cX8_beats 1 (some .int), Cond.methodLink RX8 185 yX8_liveAll, Cond.instanceMethod yX8_liveAll]
def wsX8_left_r2 : List Cond := [Cond.selects RX8 yX8_liveAll yX8_liveAll, Cond.code yX8_liveAll cX8_liveAll 3 none, Cond.methodLink RX8 154 yX8_live, Cond.instanceMethod yX8_live, Cond.selects RX8 yX8_live yX8_live, Cond.code yX8_live cX8_live 5 none, Cond.fieldLink RX8 39 "LongTonesModel" "doing" "[I", Cond.methodLink RX8 142 yX8_leftAhead, Cond.instanceMethod yX8_leftAhead, Cond.selects RX8 yX8_leftAhead yX8_leftAhead, Cond.code yX8_leftAhead cX8_leftAhead 3 (some .int), Cond.methodLink RX8 112 yX8_of, Cond.instanceMethod yX8_of, Cond.selects RX8 yX8_of yX8_of, Cond.code yX8_of cX8_of 3 (some .int), Cond.methodLink RX8 145 yX8_hasTo, Cond.instanceMethod yX8_hasTo, Cond.selects RX8 yX8_hasTo yX8_hasTo, Cond.code yX8_hasTo cX8_hasTo 4 (some .boolean), Cond.methodLink RX8 139 yX8_soloAt, Cond.instanceMethod yX8_soloAt, Cond.selects RX8 yX8_soloAt yX8_soloAt, Cond.code yX8_soloAt cX8_soloAt 3 (some .int), Cond.methodLink RX8 122 yX8_solos]
def wsX8_left_r3 : List Cond := [Cond.instanceMethod yX8_solos, Cond.selects RX8 yX8_solos yX8_solos, Cond.code yX8_solos cX8_solos 1 (some .int), Cond.methodLink RX8 125 yX8_soloOf, Cond.instanceMethod yX8_soloOf, Cond.selects RX8 yX8_soloOf yX8_soloOf, Cond.code yX8_soloOf cX8_soloOf 3 (some .int), Cond.methodLink RX8 109 yX8_isRest, Cond.instanceMethod yX8_isRest, Cond.selects RX8 yX8_isRest yX8_isRest, Cond.code yX8_isRest cX8_isRest 2 (some .boolean), Cond.methodLink RX8 128 yX8_isMarked, Cond.instanceMethod yX8_isMarked, Cond.selects RX8 yX8_isMarked yX8_isMarked, Cond.code yX8_isMarked cX8_isMarked 3 (some .boolean), Cond.methodLink RX8 148 yX8_loud, Cond.instanceMethod yX8_loud, Cond.selects RX8 yX8_loud yX8_loud, Cond.code yX8_loud cX8_loud 2 (some .int), Cond.methodLink RX8 151 yX8_lesser, Cond.static yX8_lesser, Cond.code yX8_lesser cX8_lesser 2 (some .int)]
def wsX8_left : List Cond := .code yX8_left cX8_left 3 (some .int) :: ((wsX8_left_r1 ++ (wsX8_left_r2 ++ wsX8_left_r3)) ++ wsX80)
def wsX8_solo : List Cond := .code yX8_solo cX8_solo 3 (some .int) :: ([.methodLink RX8 122 yX8_solos, .instanceMethod yX8_solos, .selects RX8 yX8_solos yX8_solos, .initialized RX8, .code yX8_solos cX8_solos 1 (some .int), .fieldLink RX8 7 "LongTonesModel" "row" "[I", .methodLink RX8 61 yX8_in, .static yX8_in, .code yX8_in cX8_in 3 (some .boolean), .methodLink RX8 125 yX8_soloOf, .instanceMethod yX8_soloOf, .selects RX8 yX8_soloOf yX8_soloOf, .code yX8_soloOf cX8_soloOf 3 (some .int)] ++ wsX80)
def wsX8_silentWithout_r1 : List Cond := [Cond.methodLink RX8 116 yX8_noSinger, Cond.instanceMethod yX8_noSinger, Cond.selects RX8 yX8_noSinger yX8_noSinger, Cond.initialized RX8, Cond.code yX8_noSinger cX8_noSinger 2 (some .boolean), Cond.methodLink RX8 76 yX8_singers, Cond.instanceMethod yX8_singers, Cond.selects RX8 yX8_singers yX8_singers, Cond.code yX8_singers cX8_singers 1 (some .int), Cond.fieldLink RX8 7 "LongTonesModel" "row" "[I", Cond.methodLink RX8 61 yX8_in, Cond.static yX8_in, Cond.code yX8_in cX8_in 3 (some .boolean), Cond.methodLink RX8 185 yX8_liveAll, Cond.instanceMethod yX8_liveAll, Cond.selects RX8 yX8_liveAll yX8_liveAll, Cond.code yX8_liveAll cX8_liveAll 3 none, Cond.methodLink RX8 65 yX8_beats, Cond.instanceMethod yX8_beats, Cond.selects RX8 yX8_beats yX8_beats, Cond.code yX8_beats cX8_beats 1 (some .int), Cond.methodLink RX8 154 yX8_live, Cond.instanceMethod yX8_live, Cond.selects RX8 yX8_live yX8_live]
def wsX8_silentWithout_r2 : List Cond := [Cond.code yX8_live cX8_live 5 none, Cond.fieldLink RX8 39 "LongTonesModel" "doing" "[I", Cond.fieldLink RX8 42 "LongTonesModel" "leftAt" "[I", Cond.methodLink RX8 142 yX8_leftAhead, Cond.instanceMethod yX8_leftAhead, Cond.selects RX8 yX8_leftAhead yX8_leftAhead, Cond.code yX8_leftAhead cX8_leftAhead 3 (some .int), Cond.methodLink RX8 112 yX8_of, Cond.instanceMethod yX8_of, Cond.selects RX8 yX8_of yX8_of, Cond.code yX8_of cX8_of 3 (some .int), Cond.methodLink RX8 145 yX8_hasTo, Cond.instanceMethod yX8_hasTo, Cond.selects RX8 yX8_hasTo yX8_hasTo, Cond.code yX8_hasTo cX8_hasTo 4 (some .boolean), Cond.methodLink RX8 139 yX8_soloAt, Cond.instanceMethod yX8_soloAt, Cond.selects RX8 yX8_soloAt yX8_soloAt, Cond.code yX8_soloAt cX8_soloAt 3 (some .int), Cond.methodLink RX8 122 yX8_solos, Cond.instanceMethod yX8_solos, Cond.selects RX8 yX8_solos yX8_solos, Cond.code yX8_solos cX8_solos 1 (some .int), Cond.methodLink RX8 125 yX8_soloOf]
def wsX8_silentWithout_r3 : List Cond := [Cond.instanceMethod yX8_soloOf, Cond.selects RX8 yX8_soloOf yX8_soloOf, Cond.code yX8_soloOf cX8_soloOf 3 (some .int), Cond.methodLink RX8 109 yX8_isRest, Cond.instanceMethod yX8_isRest, Cond.selects RX8 yX8_isRest yX8_isRest, Cond.code yX8_isRest cX8_isRest 2 (some .boolean), Cond.methodLink RX8 128 yX8_isMarked, Cond.instanceMethod yX8_isMarked, Cond.selects RX8 yX8_isMarked yX8_isMarked, Cond.code yX8_isMarked cX8_isMarked 3 (some .boolean), Cond.methodLink RX8 148 yX8_loud, Cond.instanceMethod yX8_loud, Cond.selects RX8 yX8_loud yX8_loud, Cond.code yX8_loud cX8_loud 2 (some .int), Cond.methodLink RX8 151 yX8_lesser, Cond.static yX8_lesser, Cond.code yX8_lesser cX8_lesser 2 (some .int), Cond.methodLink RX8 182 yX8_many, Cond.instanceMethod yX8_many, Cond.selects RX8 yX8_many yX8_many, Cond.code yX8_many cX8_many 5 (some .int), Cond.methodLink RX8 157 yX8_doesAt, Cond.instanceMethod yX8_doesAt]
def wsX8_silentWithout_r4 : List Cond := [Cond.selects RX8 yX8_doesAt yX8_doesAt, Cond.code yX8_doesAt cX8_doesAt 3 (some .int)]
def wsX8_silentWithout : List Cond := .code yX8_silentWithout cX8_silentWithout 5 (some .int) :: ((wsX8_silentWithout_r1 ++ (wsX8_silentWithout_r2 ++ (wsX8_silentWithout_r3 ++ wsX8_silentWithout_r4))) ++ wsX80)
def wsX8_breathFor_r1 : List Cond := [Cond.fieldLink RX8 7 "LongTonesModel" "row" "[I", Cond.methodLink RX8 116 yX8_noSinger, Cond.instanceMethod yX8_noSinger, Cond.selects RX8 yX8_noSinger yX8_noSinger, Cond.initialized RX8, Cond.code yX8_noSinger cX8_noSinger 2 (some .boolean), Cond.methodLink RX8 76 yX8_singers, Cond.instanceMethod yX8_singers, Cond.selects RX8 yX8_singers yX8_singers, Cond.code yX8_singers cX8_singers 1 (some .int), Cond.methodLink RX8 61 yX8_in, Cond.static yX8_in, Cond.code yX8_in cX8_in 3 (some .boolean), Cond.methodLink RX8 112 yX8_of, Cond.instanceMethod yX8_of, Cond.selects RX8 yX8_of yX8_of, Cond.code yX8_of cX8_of 3 (some .int), Cond.methodLink RX8 65 yX8_beats, Cond.instanceMethod yX8_beats, Cond.selects RX8 yX8_beats yX8_beats, Cond.code yX8_beats cX8_beats 1 (some .int), Cond.methodLink RX8 154 yX8_live, Cond.instanceMethod yX8_live, Cond.selects RX8 yX8_live yX8_live]
def wsX8_breathFor_r2 : List Cond := [Cond.code yX8_live cX8_live 5 none, Cond.fieldLink RX8 39 "LongTonesModel" "doing" "[I", Cond.fieldLink RX8 42 "LongTonesModel" "leftAt" "[I", Cond.methodLink RX8 142 yX8_leftAhead, Cond.instanceMethod yX8_leftAhead, Cond.selects RX8 yX8_leftAhead yX8_leftAhead, Cond.code yX8_leftAhead cX8_leftAhead 3 (some .int), Cond.methodLink RX8 145 yX8_hasTo, Cond.instanceMethod yX8_hasTo, Cond.selects RX8 yX8_hasTo yX8_hasTo, Cond.code yX8_hasTo cX8_hasTo 4 (some .boolean), Cond.methodLink RX8 139 yX8_soloAt, Cond.instanceMethod yX8_soloAt, Cond.selects RX8 yX8_soloAt yX8_soloAt, Cond.code yX8_soloAt cX8_soloAt 3 (some .int), Cond.methodLink RX8 122 yX8_solos, Cond.instanceMethod yX8_solos, Cond.selects RX8 yX8_solos yX8_solos, Cond.code yX8_solos cX8_solos 1 (some .int), Cond.methodLink RX8 125 yX8_soloOf, Cond.instanceMethod yX8_soloOf, Cond.selects RX8 yX8_soloOf yX8_soloOf, Cond.code yX8_soloOf cX8_soloOf 3 (some .int), Cond.methodLink RX8 109 yX8_isRest]
def wsX8_breathFor_r3 : List Cond := [Cond.instanceMethod yX8_isRest, Cond.selects RX8 yX8_isRest yX8_isRest, Cond.code yX8_isRest cX8_isRest 2 (some .boolean), Cond.methodLink RX8 128 yX8_isMarked, Cond.instanceMethod yX8_isMarked, Cond.selects RX8 yX8_isMarked yX8_isMarked, Cond.code yX8_isMarked cX8_isMarked 3 (some .boolean), Cond.methodLink RX8 148 yX8_loud, Cond.instanceMethod yX8_loud, Cond.selects RX8 yX8_loud yX8_loud, Cond.code yX8_loud cX8_loud 2 (some .int), Cond.methodLink RX8 151 yX8_lesser, Cond.static yX8_lesser, Cond.code yX8_lesser cX8_lesser 2 (some .int), Cond.methodLink RX8 198 yX8_beatsOf, Cond.instanceMethod yX8_beatsOf, Cond.selects RX8 yX8_beatsOf yX8_beatsOf, Cond.code yX8_beatsOf cX8_beatsOf 5 (some .int), Cond.methodLink RX8 157 yX8_doesAt, Cond.instanceMethod yX8_doesAt, Cond.selects RX8 yX8_doesAt yX8_doesAt, Cond.code yX8_doesAt cX8_doesAt 3 (some .int)]
def wsX8_breathFor : List Cond := .code yX8_breathFor cX8_breathFor 6 (some .int) :: ((wsX8_breathFor_r1 ++ (wsX8_breathFor_r2 ++ wsX8_breathFor_r3)) ++ wsX80)
def wsX8_count_r1 : List Cond := [Cond.fieldLink RX8 176 "LongTonesModel" "faults" "I", Cond.fieldLink RX8 7 "LongTonesModel" "row" "[I", Cond.fieldLink RX8 57 "LongTonesModel" "kept" "I", Cond.fieldLink RX8 79 "LongTonesModel" "typed" "I", Cond.methodLink RX8 195 yX8_findFaults, Cond.instanceMethod yX8_findFaults, Cond.selects RX8 yX8_findFaults yX8_findFaults, Cond.initialized RX8, Cond.code yX8_findFaults cX8_findFaults 4 none, Cond.methodLink RX8 185 yX8_liveAll, Cond.instanceMethod yX8_liveAll, Cond.selects RX8 yX8_liveAll yX8_liveAll, Cond.code yX8_liveAll cX8_liveAll 3 none, Cond.methodLink RX8 76 yX8_singers, Cond.instanceMethod yX8_singers, Cond.selects RX8 yX8_singers yX8_singers, Cond.code yX8_singers cX8_singers 1 (some .int), Cond.methodLink RX8 65 yX8_beats, Cond.instanceMethod yX8_beats, Cond.selects RX8 yX8_beats yX8_beats, Cond.code yX8_beats cX8_beats 1 (some .int), Cond.methodLink RX8 154 yX8_live, Cond.instanceMethod yX8_live, Cond.selects RX8 yX8_live yX8_live]
def wsX8_count_r2 : List Cond := [Cond.code yX8_live cX8_live 5 none, Cond.fieldLink RX8 39 "LongTonesModel" "doing" "[I", Cond.fieldLink RX8 42 "LongTonesModel" "leftAt" "[I", Cond.methodLink RX8 142 yX8_leftAhead, Cond.instanceMethod yX8_leftAhead, Cond.selects RX8 yX8_leftAhead yX8_leftAhead, Cond.code yX8_leftAhead cX8_leftAhead 3 (some .int), Cond.methodLink RX8 112 yX8_of, Cond.instanceMethod yX8_of, Cond.selects RX8 yX8_of yX8_of, Cond.code yX8_of cX8_of 3 (some .int), Cond.methodLink RX8 145 yX8_hasTo, Cond.instanceMethod yX8_hasTo, Cond.selects RX8 yX8_hasTo yX8_hasTo, Cond.code yX8_hasTo cX8_hasTo 4 (some .boolean), Cond.methodLink RX8 139 yX8_soloAt, Cond.instanceMethod yX8_soloAt, Cond.selects RX8 yX8_soloAt yX8_soloAt, Cond.code yX8_soloAt cX8_soloAt 3 (some .int), Cond.methodLink RX8 122 yX8_solos, Cond.instanceMethod yX8_solos, Cond.selects RX8 yX8_solos yX8_solos, Cond.code yX8_solos cX8_solos 1 (some .int), Cond.methodLink RX8 125 yX8_soloOf]
def wsX8_count_r3 : List Cond := [Cond.instanceMethod yX8_soloOf, Cond.selects RX8 yX8_soloOf yX8_soloOf, Cond.code yX8_soloOf cX8_soloOf 3 (some .int), Cond.methodLink RX8 61 yX8_in, Cond.static yX8_in, Cond.code yX8_in cX8_in 3 (some .boolean), Cond.methodLink RX8 109 yX8_isRest, Cond.instanceMethod yX8_isRest, Cond.selects RX8 yX8_isRest yX8_isRest, Cond.code yX8_isRest cX8_isRest 2 (some .boolean), Cond.methodLink RX8 128 yX8_isMarked, Cond.instanceMethod yX8_isMarked, Cond.selects RX8 yX8_isMarked yX8_isMarked, Cond.code yX8_isMarked cX8_isMarked 3 (some .boolean), Cond.methodLink RX8 148 yX8_loud, Cond.instanceMethod yX8_loud, Cond.selects RX8 yX8_loud yX8_loud, Cond.code yX8_loud cX8_loud 2 (some .int), Cond.methodLink RX8 151 yX8_lesser, Cond.static yX8_lesser, Cond.code yX8_lesser cX8_lesser 2 (some .int), Cond.methodLink RX8 182 yX8_many, Cond.instanceMethod yX8_many, Cond.selects RX8 yX8_many yX8_many]
def wsX8_count_r4 : List Cond := [Cond.code yX8_many cX8_many 5 (some .int), Cond.methodLink RX8 157 yX8_doesAt, Cond.instanceMethod yX8_doesAt, Cond.selects RX8 yX8_doesAt yX8_doesAt, Cond.code yX8_doesAt cX8_doesAt 3 (some .int), Cond.methodLink RX8 188 yX8_addFault, Cond.instanceMethod yX8_addFault, Cond.selects RX8 yX8_addFault yX8_addFault, Cond.code yX8_addFault cX8_addFault 4 none, Cond.fieldLink RX8 48 "LongTonesModel" "faultSort" "[I", Cond.fieldLink RX8 51 "LongTonesModel" "faultBeat" "[I", Cond.fieldLink RX8 54 "LongTonesModel" "faultSinger" "[I", Cond.methodLink RX8 192 yX8_sortOfMark, Cond.instanceMethod yX8_sortOfMark, Cond.selects RX8 yX8_sortOfMark yX8_sortOfMark, Cond.code yX8_sortOfMark cX8_sortOfMark 3 (some .int), Cond.methodLink RX8 179 yX8_firstOf, Cond.instanceMethod yX8_firstOf, Cond.selects RX8 yX8_firstOf yX8_firstOf, Cond.code yX8_firstOf cX8_firstOf 3 (some .int), Cond.methodLink RX8 119 yX8_presentOnes, Cond.instanceMethod yX8_presentOnes, Cond.selects RX8 yX8_presentOnes yX8_presentOnes, Cond.code yX8_presentOnes cX8_presentOnes 3 (some .int)]
def wsX8_count_r5 : List Cond := [Cond.methodLink RX8 173 yX8_allMarks, Cond.instanceMethod yX8_allMarks, Cond.selects RX8 yX8_allMarks yX8_allMarks, Cond.code yX8_allMarks cX8_allMarks 3 (some .int), Cond.methodLink RX8 132 yX8_marksOf, Cond.instanceMethod yX8_marksOf, Cond.selects RX8 yX8_marksOf yX8_marksOf, Cond.code yX8_marksOf cX8_marksOf 4 (some .int), Cond.methodLink RX8 201 yX8_faultsOf, Cond.instanceMethod yX8_faultsOf, Cond.selects RX8 yX8_faultsOf yX8_faultsOf, Cond.code yX8_faultsOf cX8_faultsOf 4 (some .int)]
def wsX8_count : List Cond := .code yX8_count cX8_count 7 (some .int) :: ((wsX8_count_r1 ++ (wsX8_count_r2 ++ (wsX8_count_r3 ++ (wsX8_count_r4 ++ wsX8_count_r5)))) ++ wsX80)
def wsJ9_max_7cf53 : List Cond := .code yJ9_max_7cf53 cJ9_max_7cf53 2 (some .int) :: ([])
def wsJ9_min_7cf53 : List Cond := .code yJ9_min_7cf53 cJ9_min_7cf53 2 (some .int) :: ([])
def wsL_law_r1 : List Cond := [Cond.classLink RL 7 RX7, Cond.instantiable RX7 7, Cond.initialized RX7, Cond.classLink RL 10 RX8, Cond.instantiable RX8 20, Cond.initialized RX8, Cond.methodLink RL 9 yX7_init, Cond.instanceMethod yX7_init, Cond.code yX7_init cX7_init 1 none, Cond.methodLink RX7 1 objectInit, Cond.instanceMethod objectInit, Cond.code objectInit ⟨#[0xb1]⟩ 1 none, Cond.classLink RX7 7 RX4, Cond.instantiable RX4 13, Cond.initialized RX4, Cond.fieldLink RX7 10 "LongTones" "state" "LLongTones$State;", Cond.classLink RX7 16 RX3, Cond.instantiable RX3 6, Cond.initialized RX3, Cond.fieldLink RX7 19 "LongTones" "text" "LLongTones$ScoreText;", Cond.classLink RX7 23 RX1, Cond.instantiable RX1 2, Cond.initialized RX1, Cond.fieldLink RX7 26 "LongTones" "past" "LLongTones$Past;"]
def wsL_law_r2 : List Cond := [Cond.fieldLink RX7 30 "LongTones" "snapshots" "[LLongTones$State;", Cond.classLink RX7 34 RX6, Cond.instantiable RX6 4, Cond.initialized RX6, Cond.fieldLink RX7 37 "LongTones" "voice" "LLongTones$Voice;", Cond.classLink RX7 41 RX0, Cond.instantiable RX0 3, Cond.initialized RX0, Cond.fieldLink RX7 44 "LongTones" "choir" "LLongTones$Choir;", Cond.classLink RX7 48 RX5, Cond.instantiable RX5 1, Cond.initialized RX5, Cond.fieldLink RX7 51 "LongTones" "turns" "LLongTones$Turns;", Cond.methodLink RX7 9 yX4_init, Cond.instanceMethod yX4_init, Cond.code yX4_init cX4_init 1 none, Cond.methodLink RX4 3 objectInit, Cond.classLink RX4 9 RX2, Cond.instantiable RX2 1, Cond.initialized RX2, Cond.fieldLink RX4 14 "LongTones$State" "sorts" "LLongTones$Row;", Cond.fieldLink RX4 20 "LongTones$State" "loudnesses" "LLongTones$Row;", Cond.fieldLink RX4 23 "LongTones$State" "marks" "LLongTones$Row;", Cond.fieldLink RX4 26 "LongTones$State" "breaths" "LLongTones$Row;"]
def wsL_law_r3 : List Cond := [Cond.fieldLink RX4 29 "LongTones$State" "recoveries" "LLongTones$Row;", Cond.fieldLink RX4 32 "LongTones$State" "soloSingers" "LLongTones$Row;", Cond.fieldLink RX4 35 "LongTones$State" "soloStarts" "LLongTones$Row;", Cond.fieldLink RX4 38 "LongTones$State" "soloEnds" "LLongTones$Row;", Cond.fieldLink RX4 41 "LongTones$State" "reserve" "I", Cond.methodLink RX4 11 yX2_init, Cond.instanceMethod yX2_init, Cond.code yX2_init cX2_init 2 none, Cond.methodLink RX2 1 objectInit, Cond.methodLink RX2 7 Lib.Math.max.name, Cond.static Lib.Math.max.name, Cond.initialized "java/lang/Math", Cond.code Lib.Math.max.name Lib.Math.max.code 2 (some .int), Cond.arrayClass .int, Cond.fieldLink RX2 13 "LongTones$Row" "cells" "[I", Cond.instanceMethod yX3_init, Cond.code yX3_init cX3_init 1 none, Cond.methodLink RX3 3 objectInit, Cond.classLink RX3 9 RX2, Cond.fieldLink RX3 14 "LongTones$ScoreText" "signs" "LLongTones$Row;", Cond.methodLink RX3 11 yX2_init, Cond.instanceMethod yX1_init, Cond.code yX1_init cX1_init 1 none, Cond.methodLink RX1 3 objectInit]
def wsL_law_r4 : List Cond := [Cond.classLink RX1 9 RX4, Cond.fieldLink RX1 11 "LongTones$Past" "states" "[LLongTones$State;", Cond.instanceMethod yX6_init, Cond.code yX6_init cX6_init 1 none, Cond.methodLink RX6 3 objectInit, Cond.classLink RX6 9 RX2, Cond.fieldLink RX6 14 "LongTones$Voice" "doings" "LLongTones$Row;", Cond.fieldLink RX6 20 "LongTones$Voice" "lefts" "LLongTones$Row;", Cond.methodLink RX6 11 yX2_init, Cond.instanceMethod yX0_init, Cond.code yX0_init cX0_init 1 none, Cond.methodLink RX0 3 objectInit, Cond.classLink RX0 9 RX2, Cond.fieldLink RX0 14 "LongTones$Choir" "singing" "LLongTones$Row;", Cond.fieldLink RX0 20 "LongTones$Choir" "breathing" "LLongTones$Row;", Cond.fieldLink RX0 23 "LongTones$Choir" "gasping" "LLongTones$Row;", Cond.methodLink RX0 11 yX2_init, Cond.instanceMethod yX5_init, Cond.code yX5_init cX5_init 1 none, Cond.methodLink RX5 3 objectInit, Cond.classLink RX5 9 RX2, Cond.fieldLink RX5 14 "LongTones$Turns" "lefts" "LLongTones$Row;", Cond.methodLink RX5 11 yX2_init, Cond.methodLink RL 12 yX8_init]
def wsL_law_r5 : List Cond := [Cond.instanceMethod yX8_init, Cond.code yX8_init cX8_init 1 none, Cond.methodLink RX8 1 objectInit, Cond.fieldLink RX8 7 "LongTonesModel" "row" "[I", Cond.fieldLink RX8 13 "LongTonesModel" "scratch" "[I", Cond.fieldLink RX8 16 "LongTonesModel" "history" "[I", Cond.fieldLink RX8 19 "LongTonesModel" "slots" "[I", Cond.arrayClass .boolean, Cond.fieldLink RX8 22 "LongTonesModel" "isKept" "[Z", Cond.arrayClass .char, Cond.fieldLink RX8 26 "LongTonesModel" "text" "[C", Cond.fieldLink RX8 30 "LongTonesModel" "itemSort" "[I", Cond.fieldLink RX8 33 "LongTonesModel" "itemLoud" "[I", Cond.fieldLink RX8 36 "LongTonesModel" "itemMany" "[I", Cond.fieldLink RX8 39 "LongTonesModel" "doing" "[I", Cond.fieldLink RX8 42 "LongTonesModel" "leftAt" "[I", Cond.fieldLink RX8 45 "LongTonesModel" "marks" "[Z", Cond.fieldLink RX8 48 "LongTonesModel" "faultSort" "[I", Cond.fieldLink RX8 51 "LongTonesModel" "faultBeat" "[I", Cond.fieldLink RX8 54 "LongTonesModel" "faultSinger" "[I", Cond.methodLink RL 13 yX7_type, Cond.instanceMethod yX7_type, Cond.selects RX7 yX7_type yX7_type, Cond.code yX7_type cX7_type 2 (some .int)]
def wsL_law_r6 : List Cond := [Cond.fieldLink RX7 59 "LongTones$ScoreText" "length" "I", Cond.methodLink RX7 55 yX3_append, Cond.instanceMethod yX3_append, Cond.selects RX3 yX3_append yX3_append, Cond.code yX3_append cX3_append 2 (some .boolean), Cond.fieldLink RX3 20 "LongTones$ScoreText" "length" "I", Cond.methodLink RX3 24 yX2_put, Cond.instanceMethod yX2_put, Cond.selects RX2 yX2_put yX2_put, Cond.code yX2_put cX2_put 3 none, Cond.methodLink RL 17 yX8_type, Cond.instanceMethod yX8_type, Cond.selects RX8 yX8_type yX8_type, Cond.code yX8_type cX8_type 2 (some .int), Cond.fieldLink RX8 79 "LongTonesModel" "typed" "I", Cond.methodLink RL 18 yX7_clearText, Cond.instanceMethod yX7_clearText, Cond.selects RX7 yX7_clearText yX7_clearText, Cond.code yX7_clearText cX7_clearText 2 (some .int), Cond.methodLink RL 22 yX8_clearText, Cond.instanceMethod yX8_clearText, Cond.selects RX8 yX8_clearText yX8_clearText, Cond.code yX8_clearText cX8_clearText 2 (some .int), Cond.methodLink RL 23 yX7_read]
def wsL_law_r7 : List Cond := [Cond.instanceMethod yX7_read, Cond.selects RX7 yX7_read yX7_read, Cond.code yX7_read cX7_read 2 (some .int), Cond.fieldLink RX7 77 "LongTones$State" "beats" "I", Cond.methodLink RX7 63 yX3_findFault, Cond.instanceMethod yX3_findFault, Cond.selects RX3 yX3_findFault yX3_findFault, Cond.code yX3_findFault cX3_findFault 5 (some .int), Cond.fieldLink RX3 28 "LongTones$ScoreText" "at" "I", Cond.fieldLink RX3 35 "LongTones$ScoreText" "times" "I", Cond.methodLink RX3 31 yX3_readItem, Cond.instanceMethod yX3_readItem, Cond.selects RX3 yX3_readItem yX3_readItem, Cond.code yX3_readItem cX3_readItem 2 (some .boolean), Cond.fieldLink RX3 38 "LongTones$ScoreText" "sort" "I", Cond.fieldLink RX3 41 "LongTones$ScoreText" "loudness" "I", Cond.methodLink RX3 50 yX3_signAt, Cond.instanceMethod yX3_signAt, Cond.selects RX3 yX3_signAt yX3_signAt, Cond.code yX3_signAt cX3_signAt 2 (some .int), Cond.methodLink RX3 67 yX2_at, Cond.instanceMethod yX2_at, Cond.selects RX2 yX2_at yX2_at, Cond.code yX2_at cX2_at 2 (some .int)]
def wsL_law_r8 : List Cond := [Cond.methodLink RX3 54 yX3_sortOf, Cond.static yX3_sortOf, Cond.code yX3_sortOf cX3_sortOf 1 (some .int), Cond.methodLink RX3 57 yX3_digitAt, Cond.instanceMethod yX3_digitAt, Cond.selects RX3 yX3_digitAt yX3_digitAt, Cond.code yX3_digitAt cX3_digitAt 3 (some .int), Cond.static yX7_isWithin, Cond.code yX7_isWithin cX7_isWithin 3 (some .boolean), Cond.methodLink RX3 64 yX3_readTimes, Cond.instanceMethod yX3_readTimes, Cond.selects RX3 yX3_readTimes yX3_readTimes, Cond.code yX3_readTimes cX3_readTimes 3 (some .boolean), Cond.methodLink RX7 67 yX1_record, Cond.instanceMethod yX1_record, Cond.selects RX1 yX1_record yX1_record, Cond.code yX1_record cX1_record 3 none, Cond.fieldLink RX1 17 "LongTones$Past" "size" "I", Cond.methodLink RX1 21 yX1_forgetOldest, Cond.instanceMethod yX1_forgetOldest, Cond.selects RX1 yX1_forgetOldest yX1_forgetOldest, Cond.code yX1_forgetOldest cX1_forgetOldest 3 none, Cond.methodLink RX1 24 yX4_init, Cond.methodLink RX1 25 yX4_copyFrom]
def wsL_law_r9 : List Cond := [Cond.instanceMethod yX4_copyFrom, Cond.selects RX4 yX4_copyFrom yX4_copyFrom, Cond.code yX4_copyFrom cX4_copyFrom 2 none, Cond.fieldLink RX4 45 "LongTones$State" "beats" "I", Cond.fieldLink RX4 48 "LongTones$State" "singers" "I", Cond.fieldLink RX4 51 "LongTones$State" "present" "I", Cond.fieldLink RX4 54 "LongTones$State" "solos" "I", Cond.methodLink RX4 57 yX2_copyFrom, Cond.instanceMethod yX2_copyFrom, Cond.selects RX2 yX2_copyFrom yX2_copyFrom, Cond.code yX2_copyFrom cX2_copyFrom 3 none, Cond.methodLink RX2 19 yX2_at, Cond.methodLink RX7 71 yX4_clearScore, Cond.instanceMethod yX4_clearScore, Cond.selects RX4 yX4_clearScore yX4_clearScore, Cond.code yX4_clearScore cX4_clearScore 1 none, Cond.methodLink RX4 61 yX2_clear, Cond.instanceMethod yX2_clear, Cond.selects RX2 yX2_clear yX2_clear, Cond.code yX2_clear cX2_clear 2 none, Cond.methodLink RX7 74 yX3_writeTo, Cond.instanceMethod yX3_writeTo, Cond.selects RX3 yX3_writeTo yX3_writeTo, Cond.code yX3_writeTo cX3_writeTo 3 none]
def wsL_law_r10 : List Cond := [Cond.methodLink RX3 44 yX4_appendBeats, Cond.instanceMethod yX4_appendBeats, Cond.selects RX4 yX4_appendBeats yX4_appendBeats, Cond.code yX4_appendBeats cX4_appendBeats 5 none, Cond.methodLink RX4 64 yX2_put, Cond.methodLink RL 26 yX8_read, Cond.instanceMethod yX8_read, Cond.selects RX8 yX8_read yX8_read, Cond.code yX8_read cX8_read 5 (some .int), Cond.fieldLink RX8 96 "LongTonesModel" "itemCount" "I", Cond.methodLink RX8 99 yX8_readText, Cond.instanceMethod yX8_readText, Cond.selects RX8 yX8_readText yX8_readText, Cond.code yX8_readText cX8_readText 5 (some .int), Cond.fieldLink RX8 82 "LongTonesModel" "place" "I", Cond.methodLink RX8 89 yX8_sortOf, Cond.static yX8_sortOf, Cond.code yX8_sortOf cX8_sortOf 1 (some .int), Cond.methodLink RX8 85 yX8_isAt, Cond.instanceMethod yX8_isAt, Cond.selects RX8 yX8_isAt yX8_isAt, Cond.code yX8_isAt cX8_isAt 3 (some .boolean), Cond.methodLink RX8 93 yX8_times, Cond.instanceMethod yX8_times]
def wsL_law_r11 : List Cond := [Cond.selects RX8 yX8_times yX8_times, Cond.code yX8_times cX8_times 2 (some .int), Cond.methodLink RX8 69 yX8_begin, Cond.instanceMethod yX8_begin, Cond.selects RX8 yX8_begin yX8_begin, Cond.code yX8_begin cX8_begin 2 none, Cond.methodLink RX8 102 yX8_clearMarks, Cond.instanceMethod yX8_clearMarks, Cond.selects RX8 yX8_clearMarks yX8_clearMarks, Cond.code yX8_clearMarks cX8_clearMarks 2 none, Cond.methodLink RX8 72 yX8_done, Cond.instanceMethod yX8_done, Cond.selects RX8 yX8_done yX8_done, Cond.code yX8_done cX8_done 3 (some .int), Cond.fieldLink RX8 57 "LongTonesModel" "kept" "I", Cond.methodLink RL 27 yX7_setLoudness, Cond.instanceMethod yX7_setLoudness, Cond.selects RX7 yX7_setLoudness yX7_setLoudness, Cond.code yX7_setLoudness cX7_setLoudness 6 (some .int), Cond.fieldLink RX7 88 "LongTones$State" "loudnesses" "LLongTones$Row;", Cond.methodLink RX7 80 yX4_hasBeat, Cond.instanceMethod yX4_hasBeat, Cond.selects RX4 yX4_hasBeat yX4_hasBeat, Cond.code yX4_hasBeat cX4_hasBeat 2 (some .boolean)]
def wsL_law_r12 : List Cond := [Cond.methodLink RX7 84 yX7_isWithin, Cond.methodLink RX7 92 yX2_put, Cond.methodLink RX7 98 yX4_isRest, Cond.instanceMethod yX4_isRest, Cond.selects RX4 yX4_isRest yX4_isRest, Cond.code yX4_isRest cX4_isRest 2 (some .boolean), Cond.methodLink RX4 68 yX2_at, Cond.methodLink RL 31 yX8_setLoudness, Cond.instanceMethod yX8_setLoudness, Cond.selects RX8 yX8_setLoudness yX8_setLoudness, Cond.code yX8_setLoudness cX8_setLoudness 6 (some .int), Cond.methodLink RX8 105 yX8_noBeat, Cond.instanceMethod yX8_noBeat, Cond.selects RX8 yX8_noBeat yX8_noBeat, Cond.code yX8_noBeat cX8_noBeat 2 (some .boolean), Cond.methodLink RX8 65 yX8_beats, Cond.instanceMethod yX8_beats, Cond.selects RX8 yX8_beats yX8_beats, Cond.code yX8_beats cX8_beats 1 (some .int), Cond.methodLink RX8 61 yX8_in, Cond.static yX8_in, Cond.code yX8_in cX8_in 3 (some .boolean), Cond.methodLink RX8 109 yX8_isRest, Cond.instanceMethod yX8_isRest]
def wsL_law_r13 : List Cond := [Cond.selects RX8 yX8_isRest yX8_isRest, Cond.code yX8_isRest cX8_isRest 2 (some .boolean), Cond.methodLink RL 32 yX7_setSort, Cond.instanceMethod yX7_setSort, Cond.selects RX7 yX7_setSort yX7_setSort, Cond.code yX7_setSort cX7_setSort 4 (some .int), Cond.fieldLink RX7 101 "LongTones$State" "sorts" "LLongTones$Row;", Cond.methodLink RX7 104 yX2_at, Cond.methodLink RL 36 yX8_setSort, Cond.instanceMethod yX8_setSort, Cond.selects RX8 yX8_setSort yX8_setSort, Cond.code yX8_setSort cX8_setSort 4 (some .int), Cond.methodLink RL 37 yX7_addSinger, Cond.instanceMethod yX7_addSinger, Cond.selects RX7 yX7_addSinger yX7_addSinger, Cond.code yX7_addSinger cX7_addSinger 3 (some .int), Cond.fieldLink RX7 108 "LongTones$State" "singers" "I", Cond.methodLink RX7 111 yX4_appendSinger, Cond.instanceMethod yX4_appendSinger, Cond.selects RX4 yX4_appendSinger yX4_appendSinger, Cond.code yX4_appendSinger cX4_appendSinger 4 (some .int), Cond.static yX7_bit, Cond.code yX7_bit cX7_bit 1 (some .int), Cond.methodLink RL 40 yX8_addSinger]
def wsL_law_r14 : List Cond := [Cond.instanceMethod yX8_addSinger, Cond.selects RX8 yX8_addSinger yX8_addSinger, Cond.code yX8_addSinger cX8_addSinger 5 (some .int), Cond.methodLink RX8 76 yX8_singers, Cond.instanceMethod yX8_singers, Cond.selects RX8 yX8_singers yX8_singers, Cond.code yX8_singers cX8_singers 1 (some .int), Cond.methodLink RL 41 yX7_setPresent, Cond.instanceMethod yX7_setPresent, Cond.selects RX7 yX7_setPresent yX7_setPresent, Cond.code yX7_setPresent cX7_setPresent 3 (some .int), Cond.fieldLink RX7 121 "LongTones$State" "present" "I", Cond.methodLink RX7 115 yX4_hasSinger, Cond.instanceMethod yX4_hasSinger, Cond.selects RX4 yX4_hasSinger yX4_hasSinger, Cond.code yX4_hasSinger cX4_hasSinger 2 (some .boolean), Cond.methodLink RX7 118 yX4_isPresent, Cond.instanceMethod yX4_isPresent, Cond.selects RX4 yX4_isPresent yX4_isPresent, Cond.code yX4_isPresent cX4_isPresent 2 (some .boolean), Cond.static yX7_contains, Cond.code yX7_contains cX7_contains 2 (some .boolean), Cond.methodLink RX7 124 yX7_bit, Cond.methodLink RX7 127 yX4_countPresent]
def wsL_law_r15 : List Cond := [Cond.instanceMethod yX4_countPresent, Cond.selects RX4 yX4_countPresent yX4_countPresent, Cond.code yX4_countPresent cX4_countPresent 1 (some .int), Cond.methodLink RX4 92 yJ6_bitCount_0f7a4, Cond.static yJ6_bitCount_0f7a4, Cond.initialized RJ6, Cond.code yJ6_bitCount_0f7a4 cJ6_bitCount_0f7a4 1 (some .int), Cond.constant RJ6 265 (1431655765), Cond.constant RJ6 266 (858993459), Cond.constant RJ6 267 (252645135), Cond.methodLink RL 45 yX8_setPresent, Cond.instanceMethod yX8_setPresent, Cond.selects RX8 yX8_setPresent yX8_setPresent, Cond.code yX8_setPresent cX8_setPresent 4 (some .int), Cond.methodLink RX8 116 yX8_noSinger, Cond.instanceMethod yX8_noSinger, Cond.selects RX8 yX8_noSinger yX8_noSinger, Cond.code yX8_noSinger cX8_noSinger 2 (some .boolean), Cond.methodLink RX8 112 yX8_of, Cond.instanceMethod yX8_of, Cond.selects RX8 yX8_of yX8_of, Cond.code yX8_of cX8_of 3 (some .int), Cond.methodLink RX8 119 yX8_presentOnes, Cond.instanceMethod yX8_presentOnes]
def wsL_law_r16 : List Cond := [Cond.selects RX8 yX8_presentOnes yX8_presentOnes, Cond.code yX8_presentOnes cX8_presentOnes 3 (some .int), Cond.methodLink RL 46 yX7_addSolo, Cond.instanceMethod yX7_addSolo, Cond.selects RX7 yX7_addSolo yX7_addSolo, Cond.code yX7_addSolo cX7_addSolo 4 (some .int), Cond.fieldLink RX7 134 "LongTones$State" "solos" "I", Cond.methodLink RX7 130 yX4_overlapsSolo, Cond.instanceMethod yX4_overlapsSolo, Cond.selects RX4 yX4_overlapsSolo yX4_overlapsSolo, Cond.code yX4_overlapsSolo cX4_overlapsSolo 4 (some .boolean), Cond.methodLink RX7 137 yX4_insertSolo, Cond.instanceMethod yX4_insertSolo, Cond.selects RX4 yX4_insertSolo yX4_insertSolo, Cond.code yX4_insertSolo cX4_insertSolo 5 (some .int), Cond.methodLink RX4 97 yX4_moveSolo, Cond.instanceMethod yX4_moveSolo, Cond.selects RX4 yX4_moveSolo yX4_moveSolo, Cond.code yX4_moveSolo cX4_moveSolo 3 none, Cond.methodLink RL 49 yX8_addSolo, Cond.instanceMethod yX8_addSolo, Cond.selects RX8 yX8_addSolo yX8_addSolo, Cond.code yX8_addSolo cX8_addSolo 6 (some .int), Cond.methodLink RX8 122 yX8_solos]
def wsL_law_r17 : List Cond := [Cond.instanceMethod yX8_solos, Cond.selects RX8 yX8_solos yX8_solos, Cond.code yX8_solos cX8_solos 1 (some .int), Cond.methodLink RX8 125 yX8_soloOf, Cond.instanceMethod yX8_soloOf, Cond.selects RX8 yX8_soloOf yX8_soloOf, Cond.code yX8_soloOf cX8_soloOf 3 (some .int), Cond.methodLink RL 50 yX7_removeSolo, Cond.instanceMethod yX7_removeSolo, Cond.selects RX7 yX7_removeSolo yX7_removeSolo, Cond.code yX7_removeSolo cX7_removeSolo 2 (some .int), Cond.methodLink RX7 141 yX4_hasSolo, Cond.instanceMethod yX4_hasSolo, Cond.selects RX4 yX4_hasSolo yX4_hasSolo, Cond.code yX4_hasSolo cX4_hasSolo 2 (some .boolean), Cond.methodLink RX7 144 yX4_dropSolo, Cond.instanceMethod yX4_dropSolo, Cond.selects RX4 yX4_dropSolo yX4_dropSolo, Cond.code yX4_dropSolo cX4_dropSolo 3 none, Cond.methodLink RL 54 yX8_removeSolo, Cond.instanceMethod yX8_removeSolo, Cond.selects RX8 yX8_removeSolo yX8_removeSolo, Cond.code yX8_removeSolo cX8_removeSolo 3 (some .int), Cond.methodLink RL 55 yX7_mark]
def wsL_law_r18 : List Cond := [Cond.instanceMethod yX7_mark, Cond.selects RX7 yX7_mark yX7_mark, Cond.code yX7_mark cX7_mark 4 (some .int), Cond.fieldLink RX7 151 "LongTones$State" "marks" "LLongTones$Row;", Cond.methodLink RX7 148 yX4_isMarked, Cond.instanceMethod yX4_isMarked, Cond.selects RX4 yX4_isMarked yX4_isMarked, Cond.code yX4_isMarked cX4_isMarked 3 (some .boolean), Cond.methodLink RX7 154 yX4_countMarksOf, Cond.instanceMethod yX4_countMarksOf, Cond.selects RX4 yX4_countMarksOf yX4_countMarksOf, Cond.code yX4_countMarksOf cX4_countMarksOf 4 (some .int), Cond.methodLink RX4 100 yX4_isMarked, Cond.methodLink RL 59 yX8_mark, Cond.instanceMethod yX8_mark, Cond.selects RX8 yX8_mark yX8_mark, Cond.code yX8_mark cX8_mark 4 (some .int), Cond.methodLink RX8 128 yX8_isMarked, Cond.instanceMethod yX8_isMarked, Cond.selects RX8 yX8_isMarked yX8_isMarked, Cond.code yX8_isMarked cX8_isMarked 3 (some .boolean), Cond.methodLink RX8 135 yX8_setMark, Cond.instanceMethod yX8_setMark, Cond.selects RX8 yX8_setMark yX8_setMark]
def wsL_law_r19 : List Cond := [Cond.code yX8_setMark cX8_setMark 3 none, Cond.methodLink RX8 132 yX8_marksOf, Cond.instanceMethod yX8_marksOf, Cond.selects RX8 yX8_marksOf yX8_marksOf, Cond.code yX8_marksOf cX8_marksOf 4 (some .int), Cond.methodLink RL 60 yX7_setReserve, Cond.instanceMethod yX7_setReserve, Cond.selects RX7 yX7_setReserve yX7_setReserve, Cond.code yX7_setReserve cX7_setReserve 3 (some .int), Cond.fieldLink RX7 157 "LongTones$State" "reserve" "I", Cond.methodLink RL 63 yX8_setReserve, Cond.instanceMethod yX8_setReserve, Cond.selects RX8 yX8_setReserve yX8_setReserve, Cond.code yX8_setReserve cX8_setReserve 3 (some .int), Cond.methodLink RL 64 yX7_make, Cond.instanceMethod yX7_make, Cond.selects RX7 yX7_make yX7_make, Cond.code yX7_make cX7_make 1 (some .int), Cond.methodLink RX7 160 yX5_makePlan, Cond.instanceMethod yX5_makePlan, Cond.selects RX5 yX5_makePlan yX5_makePlan, Cond.code yX5_makePlan cX5_makePlan 3 none, Cond.fieldLink RX5 20 "LongTones$State" "marks" "LLongTones$Row;", Cond.fieldLink RX5 28 "LongTones$State" "breaths" "LLongTones$Row;"]
def wsL_law_r20 : List Cond := [Cond.fieldLink RX5 35 "LongTones$State" "beats" "I", Cond.methodLink RX5 25 yX2_clear, Cond.methodLink RX5 31 yX2_copyFrom, Cond.methodLink RX5 39 yX4_isRest, Cond.methodLink RX5 43 yX4_soloAt, Cond.instanceMethod yX4_soloAt, Cond.selects RX4 yX4_soloAt yX4_soloAt, Cond.code yX4_soloAt cX4_soloAt 3 (some .int), Cond.methodLink RX5 47 yX5_chooseFor, Cond.instanceMethod yX5_chooseFor, Cond.selects RX5 yX5_chooseFor yX5_chooseFor, Cond.code yX5_chooseFor cX5_chooseFor 8 (some .int), Cond.methodLink RX5 66 Lib.Math.max.name, Cond.methodLink RX5 59 yX5_neededFrom, Cond.instanceMethod yX5_neededFrom, Cond.selects RX5 yX5_neededFrom yX5_neededFrom, Cond.code yX5_neededFrom cX5_neededFrom 6 (some .int), Cond.fieldLink RX5 83 "LongTones$State" "reserve" "I", Cond.fieldLink RX5 86 "LongTones$State" "loudnesses" "LLongTones$Row;", Cond.methodLink RX5 89 yX2_at, Cond.methodLink RX5 62 yX4_countPresent, Cond.methodLink RX5 72 yX5_shortestOfBreath, Cond.instanceMethod yX5_shortestOfBreath, Cond.selects RX5 yX5_shortestOfBreath yX5_shortestOfBreath]
def wsL_law_r21 : List Cond := [Cond.code yX5_shortestOfBreath cX5_shortestOfBreath 8 (some .int), Cond.fieldLink RX5 92 "LongTones$State" "singers" "I", Cond.methodLink RX5 95 yX4_isPresent, Cond.methodLink RX5 79 yX5_canBeSungWithout, Cond.instanceMethod yX5_canBeSungWithout, Cond.selects RX5 yX5_canBeSungWithout yX5_canBeSungWithout, Cond.code yX5_canBeSungWithout cX5_canBeSungWithout 6 (some .boolean), Cond.methodLink RX5 51 yX2_put, Cond.methodLink RX5 55 yX5_goThrough, Cond.instanceMethod yX5_goThrough, Cond.selects RX5 yX5_goThrough yX5_goThrough, Cond.code yX5_goThrough cX5_goThrough 6 none, Cond.fieldLink RX5 106 "LongTones$State" "recoveries" "LLongTones$Row;", Cond.methodLink RX5 109 Lib.Math.min.name, Cond.static Lib.Math.min.name, Cond.code Lib.Math.min.name Lib.Math.min.code 2 (some .int), Cond.methodLink RX5 102 yX4_doing, Cond.instanceMethod yX4_doing, Cond.selects RX4 yX4_doing yX4_doing, Cond.code yX4_doing cX4_doing 4 (some .int), Cond.methodLink RX4 109 yX4_hasToSing, Cond.instanceMethod yX4_hasToSing, Cond.selects RX4 yX4_hasToSing yX4_hasToSing, Cond.code yX4_hasToSing cX4_hasToSing 4 (some .boolean)]
def wsL_law_r22 : List Cond := [Cond.methodLink RX4 72 yX4_isRest, Cond.methodLink RX4 103 yX4_isPresent, Cond.methodLink RX4 106 yX4_soloAt, Cond.methodLink RX7 163 yX4_countMarks, Cond.instanceMethod yX4_countMarks, Cond.selects RX4 yX4_countMarks yX4_countMarks, Cond.code yX4_countMarks cX4_countMarks 3 (some .int), Cond.methodLink RL 67 yX8_make, Cond.instanceMethod yX8_make, Cond.selects RX8 yX8_make yX8_make, Cond.code yX8_make cX8_make 3 (some .int), Cond.methodLink RX8 139 yX8_soloAt, Cond.instanceMethod yX8_soloAt, Cond.selects RX8 yX8_soloAt yX8_soloAt, Cond.code yX8_soloAt cX8_soloAt 3 (some .int), Cond.methodLink RX8 169 yX8_giveMarks, Cond.instanceMethod yX8_giveMarks, Cond.selects RX8 yX8_giveMarks yX8_giveMarks, Cond.code yX8_giveMarks cX8_giveMarks 5 none, Cond.methodLink RX8 163 yX8_nextToBreathe, Cond.instanceMethod yX8_nextToBreathe, Cond.selects RX8 yX8_nextToBreathe yX8_nextToBreathe, Cond.code yX8_nextToBreathe cX8_nextToBreathe 5 (some .int), Cond.methodLink RX8 142 yX8_leftAhead]
def wsL_law_r23 : List Cond := [Cond.instanceMethod yX8_leftAhead, Cond.selects RX8 yX8_leftAhead yX8_leftAhead, Cond.code yX8_leftAhead cX8_leftAhead 3 (some .int), Cond.methodLink RX8 160 yX8_reserveAt, Cond.instanceMethod yX8_reserveAt, Cond.selects RX8 yX8_reserveAt yX8_reserveAt, Cond.code yX8_reserveAt cX8_reserveAt 5 (some .int), Cond.methodLink RX8 148 yX8_loud, Cond.instanceMethod yX8_loud, Cond.selects RX8 yX8_loud yX8_loud, Cond.code yX8_loud cX8_loud 2 (some .int), Cond.methodLink RX8 166 yX8_someoneSings, Cond.instanceMethod yX8_someoneSings, Cond.selects RX8 yX8_someoneSings yX8_someoneSings, Cond.code yX8_someoneSings cX8_someoneSings 4 (some .boolean), Cond.methodLink RX8 154 yX8_live, Cond.instanceMethod yX8_live, Cond.selects RX8 yX8_live yX8_live, Cond.code yX8_live cX8_live 5 none, Cond.methodLink RX8 145 yX8_hasTo, Cond.instanceMethod yX8_hasTo, Cond.selects RX8 yX8_hasTo yX8_hasTo, Cond.code yX8_hasTo cX8_hasTo 4 (some .boolean), Cond.methodLink RX8 151 yX8_lesser]
def wsL_law_r24 : List Cond := [Cond.static yX8_lesser, Cond.code yX8_lesser cX8_lesser 2 (some .int), Cond.methodLink RX8 173 yX8_allMarks, Cond.instanceMethod yX8_allMarks, Cond.selects RX8 yX8_allMarks yX8_allMarks, Cond.code yX8_allMarks cX8_allMarks 3 (some .int), Cond.methodLink RL 68 yX7_undo, Cond.instanceMethod yX7_undo, Cond.selects RX7 yX7_undo yX7_undo, Cond.code yX7_undo cX7_undo 1 (some .int), Cond.fieldLink RX7 166 "LongTones$Past" "size" "I", Cond.methodLink RX7 169 yX1_takeBack, Cond.instanceMethod yX1_takeBack, Cond.selects RX1 yX1_takeBack yX1_takeBack, Cond.code yX1_takeBack cX1_takeBack 4 none, Cond.methodLink RL 71 yX8_undo, Cond.instanceMethod yX8_undo, Cond.selects RX8 yX8_undo yX8_undo, Cond.code yX8_undo cX8_undo 2 (some .int), Cond.methodLink RL 72 yX7_keep, Cond.instanceMethod yX7_keep, Cond.selects RX7 yX7_keep yX7_keep, Cond.code yX7_keep cX7_keep 3 (some .int), Cond.methodLink RX7 172 yX4_copyFrom]
def wsL_law_r25 : List Cond := [Cond.methodLink RL 75 yX8_keep, Cond.instanceMethod yX8_keep, Cond.selects RX8 yX8_keep yX8_keep, Cond.code yX8_keep cX8_keep 3 (some .int), Cond.methodLink RL 76 yX7_restore, Cond.instanceMethod yX7_restore, Cond.selects RX7 yX7_restore yX7_restore, Cond.code yX7_restore cX7_restore 3 (some .int), Cond.methodLink RL 79 yX8_restore, Cond.instanceMethod yX8_restore, Cond.selects RX8 yX8_restore yX8_restore, Cond.code yX8_restore cX8_restore 3 (some .int), Cond.methodLink RL 80 yX7_beat, Cond.instanceMethod yX7_beat, Cond.selects RX7 yX7_beat yX7_beat, Cond.code yX7_beat cX7_beat 3 (some .int), Cond.methodLink RX7 175 yX4_firstOfSyllable, Cond.instanceMethod yX4_firstOfSyllable, Cond.selects RX4 yX4_firstOfSyllable yX4_firstOfSyllable, Cond.code yX4_firstOfSyllable cX4_firstOfSyllable 3 (some .int), Cond.methodLink RX7 178 yX4_soloAt, Cond.methodLink RX7 181 yX0_follow, Cond.instanceMethod yX0_follow, Cond.selects RX0 yX0_follow yX0_follow]
def wsL_law_r26 : List Cond := [Cond.code yX0_follow cX0_follow 5 none, Cond.fieldLink RX0 29 "LongTones$State" "singers" "I", Cond.fieldLink RX0 35 "LongTones$State" "breaths" "LLongTones$Row;", Cond.fieldLink RX0 48 "LongTones$State" "beats" "I", Cond.fieldLink RX0 51 "LongTones$Voice" "doings" "LLongTones$Row;", Cond.methodLink RX0 26 yX2_clear, Cond.methodLink RX0 38 yX2_at, Cond.methodLink RX0 42 yX6_follow, Cond.instanceMethod yX6_follow, Cond.selects RX6 yX6_follow yX6_follow, Cond.code yX6_follow cX6_follow 8 none, Cond.fieldLink RX6 23 "LongTones$State" "beats" "I", Cond.fieldLink RX6 29 "LongTones$Voice" "beats" "I", Cond.fieldLink RX6 30 "LongTones$Voice" "wholeBreath" "I", Cond.fieldLink RX6 33 "LongTones$State" "recoveries" "LLongTones$Row;", Cond.fieldLink RX6 44 "LongTones$State" "loudnesses" "LLongTones$Row;", Cond.methodLink RX6 47 Lib.Math.min.name, Cond.methodLink RX6 36 yX2_at, Cond.methodLink RX6 40 yX4_doing, Cond.methodLink RX6 53 yX2_put, Cond.methodLink RX0 54 yX0_collect, Cond.instanceMethod yX0_collect, Cond.selects RX0 yX0_collect yX0_collect, Cond.code yX0_collect cX0_collect 4 none]
def wsL_law_r27 : List Cond := [Cond.methodLink RX0 61 yX2_put, Cond.methodLink RX7 185 yX7_performed, Cond.instanceMethod yX7_performed, Cond.selects RX7 yX7_performed yX7_performed, Cond.code yX7_performed cX7_performed 4 (some .int), Cond.fieldLink RX7 238 "LongTones$Choir" "singing" "LLongTones$Row;", Cond.fieldLink RX7 246 "LongTones$Choir" "breathing" "LLongTones$Row;", Cond.fieldLink RX7 249 "LongTones$Choir" "gasping" "LLongTones$Row;", Cond.methodLink RX7 241 yJ6_bitCount_0f7a4, Cond.methodLink RL 83 yX8_beat, Cond.instanceMethod yX8_beat, Cond.selects RX8 yX8_beat yX8_beat, Cond.code yX8_beat cX8_beat 3 (some .int), Cond.methodLink RX8 185 yX8_liveAll, Cond.instanceMethod yX8_liveAll, Cond.selects RX8 yX8_liveAll yX8_liveAll, Cond.code yX8_liveAll cX8_liveAll 3 none, Cond.methodLink RX8 179 yX8_firstOf, Cond.instanceMethod yX8_firstOf, Cond.selects RX8 yX8_firstOf yX8_firstOf, Cond.code yX8_firstOf cX8_firstOf 3 (some .int), Cond.methodLink RX8 182 yX8_many, Cond.instanceMethod yX8_many, Cond.selects RX8 yX8_many yX8_many]
def wsL_law_r28 : List Cond := [Cond.code yX8_many cX8_many 5 (some .int), Cond.methodLink RX8 157 yX8_doesAt, Cond.instanceMethod yX8_doesAt, Cond.selects RX8 yX8_doesAt yX8_doesAt, Cond.code yX8_doesAt cX8_doesAt 3 (some .int), Cond.methodLink RL 84 yX7_singer, Cond.instanceMethod yX7_singer, Cond.selects RX7 yX7_singer yX7_singer, Cond.code yX7_singer cX7_singer 3 (some .int), Cond.fieldLink RX7 188 "LongTones$State" "breaths" "LLongTones$Row;", Cond.fieldLink RX7 191 "LongTones$State" "recoveries" "LLongTones$Row;", Cond.methodLink RX7 194 yX6_follow, Cond.methodLink RX7 197 yX7_performedBy, Cond.instanceMethod yX7_performedBy, Cond.selects RX7 yX7_performedBy yX7_performedBy, Cond.code yX7_performedBy cX7_performedBy 2 (some .int), Cond.methodLink RX7 223 yX6_countDoing, Cond.instanceMethod yX6_countDoing, Cond.selects RX6 yX6_countDoing yX6_countDoing, Cond.code yX6_countDoing cX6_countDoing 4 (some .int), Cond.methodLink RX7 252 yX6_leastLeft, Cond.instanceMethod yX6_leastLeft, Cond.selects RX6 yX6_leastLeft yX6_leastLeft, Cond.code yX6_leastLeft cX6_leastLeft 3 (some .int)]
def wsL_law_r29 : List Cond := [Cond.methodLink RX7 255 yX6_longestSung, Cond.instanceMethod yX6_longestSung, Cond.selects RX6 yX6_longestSung yX6_longestSung, Cond.code yX6_longestSung cX6_longestSung 4 (some .int), Cond.methodLink RX6 57 Lib.Math.max.name, Cond.methodLink RL 87 yX8_singer, Cond.instanceMethod yX8_singer, Cond.selects RX8 yX8_singer yX8_singer, Cond.code yX8_singer cX8_singer 7 (some .int), Cond.methodLink RX8 198 yX8_beatsOf, Cond.instanceMethod yX8_beatsOf, Cond.selects RX8 yX8_beatsOf yX8_beatsOf, Cond.code yX8_beatsOf cX8_beatsOf 5 (some .int), Cond.methodLink RL 88 yX7_does, Cond.instanceMethod yX7_does, Cond.selects RX7 yX7_does yX7_does, Cond.code yX7_does cX7_does 3 (some .int), Cond.fieldLink RX7 200 "LongTones$Voice" "doings" "LLongTones$Row;", Cond.methodLink RL 91 yX8_does, Cond.instanceMethod yX8_does, Cond.selects RX8 yX8_does yX8_does, Cond.code yX8_does cX8_does 3 (some .int), Cond.methodLink RL 92 yX7_left, Cond.instanceMethod yX7_left]
def wsL_law_r30 : List Cond := [Cond.selects RX7 yX7_left yX7_left, Cond.code yX7_left cX7_left 3 (some .int), Cond.fieldLink RX7 203 "LongTones$Voice" "lefts" "LLongTones$Row;", Cond.methodLink RL 95 yX8_left, Cond.instanceMethod yX8_left, Cond.selects RX8 yX8_left yX8_left, Cond.code yX8_left cX8_left 3 (some .int), Cond.methodLink RL 96 yX7_solo, Cond.instanceMethod yX7_solo, Cond.selects RX7 yX7_solo yX7_solo, Cond.code yX7_solo cX7_solo 3 (some .int), Cond.fieldLink RX7 206 "LongTones$State" "soloSingers" "LLongTones$Row;", Cond.fieldLink RX7 209 "LongTones$State" "soloStarts" "LLongTones$Row;", Cond.fieldLink RX7 212 "LongTones$State" "soloEnds" "LLongTones$Row;", Cond.methodLink RL 99 yX8_solo, Cond.instanceMethod yX8_solo, Cond.selects RX8 yX8_solo yX8_solo, Cond.code yX8_solo cX8_solo 3 (some .int), Cond.methodLink RL 100 yX7_fault, Cond.instanceMethod yX7_fault, Cond.selects RX7 yX7_fault yX7_fault, Cond.code yX7_fault cX7_fault 3 (some .int), Cond.methodLink RX7 215 yX0_tellFault, Cond.instanceMethod yX0_tellFault]
def wsL_law_r31 : List Cond := [Cond.selects RX0 yX0_tellFault yX0_tellFault, Cond.code yX0_tellFault cX0_tellFault 9 (some .int), Cond.methodLink RX0 69 yX0_faultsAt, Cond.instanceMethod yX0_faultsAt, Cond.selects RX0 yX0_faultsAt yX0_faultsAt, Cond.code yX0_faultsAt cX0_faultsAt 4 (some .int), Cond.methodLink RX0 65 yX4_isRest, Cond.methodLink RX0 86 yX0_isThinInside, Cond.instanceMethod yX0_isThinInside, Cond.selects RX0 yX0_isThinInside yX0_isThinInside, Cond.code yX0_isThinInside cX0_isThinInside 3 (some .boolean), Cond.methodLink RX0 90 yX4_soloAt, Cond.methodLink RX0 93 yX4_firstOfSyllable, Cond.methodLink RX0 73 yJ6_bitCount_0f7a4, Cond.methodLink RX0 78 yX0_memberAt, Cond.static yX0_memberAt, Cond.code yX0_memberAt cX0_memberAt 4 (some .int), Cond.methodLink RX0 82 yX0_tellOne, Cond.static yX0_tellOne, Cond.code yX0_tellOne cX0_tellOne 4 (some .int), Cond.methodLink RL 103 yX8_fault, Cond.instanceMethod yX8_fault, Cond.selects RX8 yX8_fault yX8_fault, Cond.code yX8_fault cX8_fault 3 (some .int)]
def wsL_law_r32 : List Cond := [Cond.fieldLink RX8 176 "LongTonesModel" "faults" "I", Cond.methodLink RX8 195 yX8_findFaults, Cond.instanceMethod yX8_findFaults, Cond.selects RX8 yX8_findFaults yX8_findFaults, Cond.code yX8_findFaults cX8_findFaults 4 none, Cond.methodLink RX8 188 yX8_addFault, Cond.instanceMethod yX8_addFault, Cond.selects RX8 yX8_addFault yX8_addFault, Cond.code yX8_addFault cX8_addFault 4 none, Cond.methodLink RX8 192 yX8_sortOfMark, Cond.instanceMethod yX8_sortOfMark, Cond.selects RX8 yX8_sortOfMark yX8_sortOfMark, Cond.code yX8_sortOfMark cX8_sortOfMark 3 (some .int), Cond.methodLink RL 104 yX7_silentWithout, Cond.instanceMethod yX7_silentWithout, Cond.selects RX7 yX7_silentWithout yX7_silentWithout, Cond.code yX7_silentWithout cX7_silentWithout 2 (some .int), Cond.methodLink RX7 219 yX0_countSilentWithout, Cond.instanceMethod yX0_countSilentWithout, Cond.selects RX0 yX0_countSilentWithout yX0_countSilentWithout, Cond.code yX0_countSilentWithout cX0_countSilentWithout 5 (some .int), Cond.methodLink RL 107 yX8_silentWithout, Cond.instanceMethod yX8_silentWithout, Cond.selects RX8 yX8_silentWithout yX8_silentWithout]
def wsL_law_r33 : List Cond := [Cond.code yX8_silentWithout cX8_silentWithout 5 (some .int), Cond.methodLink RL 108 yX7_breathFor, Cond.instanceMethod yX7_breathFor, Cond.selects RX7 yX7_breathFor yX7_breathFor, Cond.code yX7_breathFor cX7_breathFor 3 (some .int), Cond.methodLink RL 111 yX8_breathFor, Cond.instanceMethod yX8_breathFor, Cond.selects RX8 yX8_breathFor yX8_breathFor, Cond.code yX8_breathFor cX8_breathFor 6 (some .int), Cond.methodLink RL 112 yX7_count, Cond.instanceMethod yX7_count, Cond.selects RX7 yX7_count yX7_count, Cond.code yX7_count cX7_count 2 (some .int), Cond.methodLink RX7 226 yX4_countRests, Cond.instanceMethod yX4_countRests, Cond.selects RX4 yX4_countRests yX4_countRests, Cond.code yX4_countRests cX4_countRests 3 (some .int), Cond.methodLink RX7 229 yX4_countSyllables, Cond.instanceMethod yX4_countSyllables, Cond.selects RX4 yX4_countSyllables yX4_countSyllables, Cond.code yX4_countSyllables cX4_countSyllables 3 (some .int), Cond.methodLink RX4 76 yX4_firstOfSyllable, Cond.methodLink RX7 232 yX0_countFaults, Cond.instanceMethod yX0_countFaults]
def wsL_law_r34 : List Cond := [Cond.selects RX0 yX0_countFaults yX0_countFaults, Cond.code yX0_countFaults cX0_countFaults 7 (some .int), Cond.methodLink RX7 235 yX4_longestSyllable, Cond.instanceMethod yX4_longestSyllable, Cond.selects RX4 yX4_longestSyllable yX4_longestSyllable, Cond.code yX4_longestSyllable cX4_longestSyllable 3 (some .int), Cond.methodLink RX4 79 Lib.Math.max.name, Cond.methodLink RL 115 yX8_count, Cond.instanceMethod yX8_count, Cond.selects RX8 yX8_count yX8_count, Cond.code yX8_count cX8_count 7 (some .int), Cond.methodLink RX8 201 yX8_faultsOf, Cond.instanceMethod yX8_faultsOf, Cond.selects RX8 yX8_faultsOf yX8_faultsOf, Cond.code yX8_faultsOf cX8_faultsOf 4 (some .int)]
def wsL_law : List Cond := (wsL_law_r1 ++ (wsL_law_r2 ++ (wsL_law_r3 ++ (wsL_law_r4 ++ (wsL_law_r5 ++ (wsL_law_r6 ++ (wsL_law_r7 ++ (wsL_law_r8 ++ (wsL_law_r9 ++ (wsL_law_r10 ++ (wsL_law_r11 ++ (wsL_law_r12 ++ (wsL_law_r13 ++ (wsL_law_r14 ++ (wsL_law_r15 ++ (wsL_law_r16 ++ (wsL_law_r17 ++ (wsL_law_r18 ++ (wsL_law_r19 ++ (wsL_law_r20 ++ (wsL_law_r21 ++ (wsL_law_r22 ++ (wsL_law_r23 ++ (wsL_law_r24 ++ (wsL_law_r25 ++ (wsL_law_r26 ++ (wsL_law_r27 ++ (wsL_law_r28 ++ (wsL_law_r29 ++ (wsL_law_r30 ++ (wsL_law_r31 ++ (wsL_law_r32 ++ (wsL_law_r33 ++ wsL_law_r34))))))))))))))))))))))))))))))))) ++ wsX70 ++ wsX80 ++ wsX40 ++ wsX30 ++ wsX10 ++ wsX60 ++ wsX00 ++ wsX50 ++ wsX20 ++ ([] : List Cond)
abbrev vwCl : List vw_C := [(RX0, TX0, 3), (RX1, TX1, 2), (RX2, TX2, 1), (RX3, TX3, 6), (RX4, TX4, 13), (RX5, TX5, 1), (RX6, TX6, 4), (RX7, TX7, 7), (RX8, TX8, 20)]
end
section
set_option maxRecDepth 20000 in
theorem ggX0_init_X2_init : GoodIn wsX0_init wsX2_init := goodIn_r _ [12, 13, 2, 3, 14, 15, 16, 17, 18, 19, 20] (by decide +kernel) (by decide +kernel)
set_option maxRecDepth 20000 in
theorem gX0_init_X2_init : GoodIn wsX0_init (wsX2_init) := ggX0_init_X2_init
theorem dX0_init_0 : decode cX0_init 0 = .ok (.aload_n 0, 1) := by decide +kernel
theorem dX0_init_1 : decode cX0_init 1 = .ok (.invokespecial 3, 3) := by decide +kernel
theorem dX0_init_4 : decode cX0_init 4 = .ok (.aload_n 0, 1) := by decide +kernel
theorem dX0_init_5 : decode cX0_init 5 = .ok (.new 9, 3) := by decide +kernel
theorem dX0_init_8 : decode cX0_init 8 = .ok (.dup, 1) := by decide +kernel
theorem dX0_init_9 : decode cX0_init 9 = .ok (.bipush 96, 2) := by decide +kernel
theorem dX0_init_11 : decode cX0_init 11 = .ok (.invokespecial 11, 3) := by decide +kernel
theorem dX0_init_14 : decode cX0_init 14 = .ok (.putfield 14, 3) := by decide +kernel
theorem dX0_init_17 : decode cX0_init 17 = .ok (.aload_n 0, 1) := by decide +kernel
theorem dX0_init_18 : decode cX0_init 18 = .ok (.new 9, 3) := by decide +kernel
theorem dX0_init_21 : decode cX0_init 21 = .ok (.dup, 1) := by decide +kernel
theorem dX0_init_22 : decode cX0_init 22 = .ok (.bipush 96, 2) := by decide +kernel
theorem dX0_init_24 : decode cX0_init 24 = .ok (.invokespecial 11, 3) := by decide +kernel
theorem dX0_init_27 : decode cX0_init 27 = .ok (.putfield 20, 3) := by decide +kernel
theorem dX0_init_30 : decode cX0_init 30 = .ok (.aload_n 0, 1) := by decide +kernel
theorem dX0_init_31 : decode cX0_init 31 = .ok (.new 9, 3) := by decide +kernel
theorem dX0_init_34 : decode cX0_init 34 = .ok (.dup, 1) := by decide +kernel
theorem dX0_init_35 : decode cX0_init 35 = .ok (.bipush 96, 2) := by decide +kernel
theorem dX0_init_37 : decode cX0_init 37 = .ok (.invokespecial 11, 3) := by decide +kernel
theorem dX0_init_40 : decode cX0_init 40 = .ok (.putfield 23, 3) := by decide +kernel
theorem dX0_init_43 : decode cX0_init 43 = .ok (.return_, 1) := by decide +kernel
set_option maxRecDepth 20000 in
theorem ggX0_follow_X2_clear : GoodIn wsX0_follow wsX2_clear := goodIn_r _ [12, 13, 104] (by decide +kernel) (by decide +kernel)
set_option maxRecDepth 20000 in
theorem gX0_follow_X2_clear : GoodIn wsX0_follow (wsV RX0 26 RX2 yX2_clear wsX2_clear) := goodIn_app (goodIn_of _ (by decide +kernel)) ggX0_follow_X2_clear
set_option maxRecDepth 20000 in
theorem ggX0_follow_X2_at : GoodIn wsX0_follow wsX2_at := goodIn_r _ [17, 13, 104] (by decide +kernel) (by decide +kernel)
set_option maxRecDepth 20000 in
theorem gX0_follow_X2_at : GoodIn wsX0_follow (wsV RX0 38 RX2 yX2_at wsX2_at) := goodIn_app (goodIn_of _ (by decide +kernel)) ggX0_follow_X2_at
set_option maxRecDepth 20000 in
theorem ggX0_follow_X6_follow : GoodIn wsX0_follow wsX6_follow := goodIn_r _ [22, 23, 24, 25, 26, 27, 28, 29, 30, 31, 32, 33, 34, 15, 16, 11, 17, 13, 35, 36, 37, 38, 39, 40, 41, 42, 43, 44, 45, 46, 47, 48, 49, 50, 51, 52, 53, 54, 55, 56, 57, 58, 59, 60, 61, 62, 63, 64, 65, 66, 67, 68, 69, 70, 71, 72, 73, 74, 75, 87, 88, 89, 90, 91, 92, 93, 94, 95, 96, 97, 98, 99, 100, 101, 102, 103, 104] (by decide +kernel) (by decide +kernel)
set_option maxRecDepth 20000 in
theorem gX0_follow_X6_follow : GoodIn wsX0_follow (wsV RX0 42 RX6 yX6_follow wsX6_follow) := goodIn_app (goodIn_of _ (by decide +kernel)) ggX0_follow_X6_follow
set_option maxRecDepth 20000 in
theorem ggX0_follow_X0_collect : GoodIn wsX0_follow wsX0_collect := goodIn_r _ [80, 1, 2, 3, 14, 15, 16, 11, 17, 13, 81, 58, 82, 83, 73, 74, 75, 84, 85, 86, 104] (by decide +kernel) (by decide +kernel)
set_option maxRecDepth 20000 in
theorem gX0_follow_X0_collect : GoodIn wsX0_follow (wsV RX0 54 RX0 yX0_collect wsX0_collect) := goodIn_app (goodIn_of _ (by decide +kernel)) ggX0_follow_X0_collect
theorem dX0_follow_0 : decode cX0_follow 0 = .ok (.aload_n 0, 1) := by decide +kernel
theorem dX0_follow_1 : decode cX0_follow 1 = .ok (.getfield 14, 3) := by decide +kernel
theorem dX0_follow_4 : decode cX0_follow 4 = .ok (.invokevirtual 26, 3) := by decide +kernel
theorem dX0_follow_7 : decode cX0_follow 7 = .ok (.aload_n 0, 1) := by decide +kernel
theorem dX0_follow_8 : decode cX0_follow 8 = .ok (.getfield 20, 3) := by decide +kernel
theorem dX0_follow_11 : decode cX0_follow 11 = .ok (.invokevirtual 26, 3) := by decide +kernel
theorem dX0_follow_14 : decode cX0_follow 14 = .ok (.aload_n 0, 1) := by decide +kernel
theorem dX0_follow_15 : decode cX0_follow 15 = .ok (.getfield 23, 3) := by decide +kernel
theorem dX0_follow_18 : decode cX0_follow 18 = .ok (.invokevirtual 26, 3) := by decide +kernel
theorem dX0_follow_21 : decode cX0_follow 21 = .ok (.iconst 0, 1) := by decide +kernel
theorem dX0_follow_22 : decode cX0_follow 22 = .ok (.istore_n 3, 1) := by decide +kernel
theorem dX0_follow_23 : decode cX0_follow 23 = .ok (.iload_n 3, 1) := by decide +kernel
theorem dX0_follow_24 : decode cX0_follow 24 = .ok (.aload_n 1, 1) := by decide +kernel
theorem dX0_follow_25 : decode cX0_follow 25 = .ok (.getfield 29, 3) := by decide +kernel
theorem dX0_follow_28 : decode cX0_follow 28 = .ok (.if_icmp .ge 57, 3) := by decide +kernel
theorem dX0_follow_31 : decode cX0_follow 31 = .ok (.aload_n 2, 1) := by decide +kernel
theorem dX0_follow_32 : decode cX0_follow 32 = .ok (.aload_n 1, 1) := by decide +kernel
theorem dX0_follow_33 : decode cX0_follow 33 = .ok (.iload_n 3, 1) := by decide +kernel
theorem dX0_follow_34 : decode cX0_follow 34 = .ok (.aload_n 1, 1) := by decide +kernel
theorem dX0_follow_35 : decode cX0_follow 35 = .ok (.getfield 35, 3) := by decide +kernel
theorem dX0_follow_38 : decode cX0_follow 38 = .ok (.iload_n 3, 1) := by decide +kernel
theorem dX0_follow_39 : decode cX0_follow 39 = .ok (.invokevirtual 38, 3) := by decide +kernel
theorem dX0_follow_42 : decode cX0_follow 42 = .ok (.invokevirtual 42, 3) := by decide +kernel
theorem dX0_follow_45 : decode cX0_follow 45 = .ok (.iconst 0, 1) := by decide +kernel
theorem dX0_follow_46 : decode cX0_follow 46 = .ok (.istore 4, 2) := by decide +kernel
theorem dX0_follow_48 : decode cX0_follow 48 = .ok (.iload 4, 2) := by decide +kernel
theorem dX0_follow_50 : decode cX0_follow 50 = .ok (.aload_n 1, 1) := by decide +kernel
theorem dX0_follow_51 : decode cX0_follow 51 = .ok (.getfield 48, 3) := by decide +kernel
theorem dX0_follow_54 : decode cX0_follow 54 = .ok (.if_icmp .ge 25, 3) := by decide +kernel
theorem dX0_follow_57 : decode cX0_follow 57 = .ok (.aload_n 0, 1) := by decide +kernel
theorem dX0_follow_58 : decode cX0_follow 58 = .ok (.iload_n 3, 1) := by decide +kernel
theorem dX0_follow_59 : decode cX0_follow 59 = .ok (.iload 4, 2) := by decide +kernel
theorem dX0_follow_61 : decode cX0_follow 61 = .ok (.aload_n 2, 1) := by decide +kernel
theorem dX0_follow_62 : decode cX0_follow 62 = .ok (.getfield 51, 3) := by decide +kernel
theorem dX0_follow_65 : decode cX0_follow 65 = .ok (.iload 4, 2) := by decide +kernel
theorem dX0_follow_67 : decode cX0_follow 67 = .ok (.invokevirtual 38, 3) := by decide +kernel
theorem dX0_follow_70 : decode cX0_follow 70 = .ok (.invokevirtual 54, 3) := by decide +kernel
theorem dX0_follow_73 : decode cX0_follow 73 = .ok (.iinc 4 1, 3) := by decide +kernel
theorem dX0_follow_76 : decode cX0_follow 76 = .ok (.goto (-28), 3) := by decide +kernel
theorem dX0_follow_79 : decode cX0_follow 79 = .ok (.iinc 3 1, 3) := by decide +kernel
theorem dX0_follow_82 : decode cX0_follow 82 = .ok (.goto (-59), 3) := by decide +kernel
theorem dX0_follow_85 : decode cX0_follow 85 = .ok (.return_, 1) := by decide +kernel
set_option maxRecDepth 20000 in
theorem ggX0_collect_X2_at : GoodIn wsX0_collect wsX2_at := goodIn_r _ [8, 9, 20] (by decide +kernel) (by decide +kernel)
set_option maxRecDepth 20000 in
theorem gX0_collect_X2_at : GoodIn wsX0_collect (wsV RX0 38 RX2 yX2_at wsX2_at) := goodIn_app (goodIn_of _ (by decide +kernel)) ggX0_collect_X2_at
set_option maxRecDepth 20000 in
theorem ggX0_collect_X7_bit : GoodIn wsX0_collect wsX7_bit := goodIn_r _ [12] (by decide +kernel) (by decide +kernel)
set_option maxRecDepth 20000 in
theorem gX0_collect_X7_bit_n58 : GoodIn wsX0_collect (wsX7_bit) := ggX0_collect_X7_bit
set_option maxRecDepth 20000 in
theorem ggX0_collect_X2_put : GoodIn wsX0_collect wsX2_put := goodIn_r _ [16, 9, 20] (by decide +kernel) (by decide +kernel)
set_option maxRecDepth 20000 in
theorem gX0_collect_X2_put : GoodIn wsX0_collect (wsV RX0 61 RX2 yX2_put wsX2_put) := goodIn_app (goodIn_of _ (by decide +kernel)) ggX0_collect_X2_put
theorem dX0_collect_0 : decode cX0_collect 0 = .ok (.iload_n 3, 1) := by decide +kernel
theorem dX0_collect_1 : decode cX0_collect 1 = .ok (.tableswitch 99 0 2 #[27, 51, 75], 27) := by decide +kernel
theorem dX0_collect_28 : decode cX0_collect 28 = .ok (.aload_n 0, 1) := by decide +kernel
theorem dX0_collect_29 : decode cX0_collect 29 = .ok (.getfield 14, 3) := by decide +kernel
theorem dX0_collect_32 : decode cX0_collect 32 = .ok (.iload_n 2, 1) := by decide +kernel
theorem dX0_collect_33 : decode cX0_collect 33 = .ok (.aload_n 0, 1) := by decide +kernel
theorem dX0_collect_34 : decode cX0_collect 34 = .ok (.getfield 14, 3) := by decide +kernel
theorem dX0_collect_37 : decode cX0_collect 37 = .ok (.iload_n 2, 1) := by decide +kernel
theorem dX0_collect_38 : decode cX0_collect 38 = .ok (.invokevirtual 38, 3) := by decide +kernel
theorem dX0_collect_41 : decode cX0_collect 41 = .ok (.iload_n 1, 1) := by decide +kernel
theorem dX0_collect_42 : decode cX0_collect 42 = .ok (.invokestatic 58, 3) := by decide +kernel
theorem dX0_collect_45 : decode cX0_collect 45 = .ok (.ior, 1) := by decide +kernel
theorem dX0_collect_46 : decode cX0_collect 46 = .ok (.invokevirtual 61, 3) := by decide +kernel
theorem dX0_collect_49 : decode cX0_collect 49 = .ok (.goto 51, 3) := by decide +kernel
theorem dX0_collect_52 : decode cX0_collect 52 = .ok (.aload_n 0, 1) := by decide +kernel
theorem dX0_collect_53 : decode cX0_collect 53 = .ok (.getfield 20, 3) := by decide +kernel
theorem dX0_collect_56 : decode cX0_collect 56 = .ok (.iload_n 2, 1) := by decide +kernel
theorem dX0_collect_57 : decode cX0_collect 57 = .ok (.aload_n 0, 1) := by decide +kernel
theorem dX0_collect_58 : decode cX0_collect 58 = .ok (.getfield 20, 3) := by decide +kernel
theorem dX0_collect_61 : decode cX0_collect 61 = .ok (.iload_n 2, 1) := by decide +kernel
theorem dX0_collect_62 : decode cX0_collect 62 = .ok (.invokevirtual 38, 3) := by decide +kernel
theorem dX0_collect_65 : decode cX0_collect 65 = .ok (.iload_n 1, 1) := by decide +kernel
theorem dX0_collect_66 : decode cX0_collect 66 = .ok (.invokestatic 58, 3) := by decide +kernel
theorem dX0_collect_69 : decode cX0_collect 69 = .ok (.ior, 1) := by decide +kernel
theorem dX0_collect_70 : decode cX0_collect 70 = .ok (.invokevirtual 61, 3) := by decide +kernel
theorem dX0_collect_73 : decode cX0_collect 73 = .ok (.goto 27, 3) := by decide +kernel
theorem dX0_collect_76 : decode cX0_collect 76 = .ok (.aload_n 0, 1) := by decide +kernel
theorem dX0_collect_77 : decode cX0_collect 77 = .ok (.getfield 23, 3) := by decide +kernel
theorem dX0_collect_80 : decode cX0_collect 80 = .ok (.iload_n 2, 1) := by decide +kernel
theorem dX0_collect_81 : decode cX0_collect 81 = .ok (.aload_n 0, 1) := by decide +kernel
theorem dX0_collect_82 : decode cX0_collect 82 = .ok (.getfield 23, 3) := by decide +kernel
theorem dX0_collect_85 : decode cX0_collect 85 = .ok (.iload_n 2, 1) := by decide +kernel
theorem dX0_collect_86 : decode cX0_collect 86 = .ok (.invokevirtual 38, 3) := by decide +kernel
theorem dX0_collect_89 : decode cX0_collect 89 = .ok (.iload_n 1, 1) := by decide +kernel
theorem dX0_collect_90 : decode cX0_collect 90 = .ok (.invokestatic 58, 3) := by decide +kernel
theorem dX0_collect_93 : decode cX0_collect 93 = .ok (.ior, 1) := by decide +kernel
theorem dX0_collect_94 : decode cX0_collect 94 = .ok (.invokevirtual 61, 3) := by decide +kernel
theorem dX0_collect_97 : decode cX0_collect 97 = .ok (.goto 3, 3) := by decide +kernel
theorem dX0_collect_100 : decode cX0_collect 100 = .ok (.return_, 1) := by decide +kernel
set_option maxRecDepth 20000 in
theorem ggX0_countSilentWithout_X4_isRest : GoodIn wsX0_countSilentWithout wsX4_isRest := goodIn_r _ [7, 8, 9, 10, 11, 12, 13, 14, 19, 20, 21, 22, 23, 24, 25, 26, 27, 28, 29, 30, 31, 35] (by decide +kernel) (by decide +kernel)
set_option maxRecDepth 20000 in
theorem gX0_countSilentWithout_X4_isRest : GoodIn wsX0_countSilentWithout (wsV RX0 65 RX4 yX4_isRest wsX4_isRest) := goodIn_app (goodIn_of _ (by decide +kernel)) ggX0_countSilentWithout_X4_isRest
set_option maxRecDepth 20000 in
theorem ggX0_countSilentWithout_X2_at : GoodIn wsX0_countSilentWithout wsX2_at := goodIn_r _ [13, 14, 35] (by decide +kernel) (by decide +kernel)
set_option maxRecDepth 20000 in
theorem gX0_countSilentWithout_X2_at : GoodIn wsX0_countSilentWithout (wsV RX0 38 RX2 yX2_at wsX2_at) := goodIn_app (goodIn_of _ (by decide +kernel)) ggX0_countSilentWithout_X2_at
set_option maxRecDepth 20000 in
theorem ggX0_countSilentWithout_X7_bit : GoodIn wsX0_countSilentWithout wsX7_bit := goodIn_r _ [18] (by decide +kernel) (by decide +kernel)
set_option maxRecDepth 20000 in
theorem gX0_countSilentWithout_X7_bit_n58 : GoodIn wsX0_countSilentWithout (wsX7_bit) := ggX0_countSilentWithout_X7_bit
theorem dX0_countSilentWithout_0 : decode cX0_countSilentWithout 0 = .ok (.iconst 0, 1) := by decide +kernel
theorem dX0_countSilentWithout_1 : decode cX0_countSilentWithout 1 = .ok (.istore_n 3, 1) := by decide +kernel
theorem dX0_countSilentWithout_2 : decode cX0_countSilentWithout 2 = .ok (.iconst 0, 1) := by decide +kernel
theorem dX0_countSilentWithout_3 : decode cX0_countSilentWithout 3 = .ok (.istore 4, 2) := by decide +kernel
theorem dX0_countSilentWithout_5 : decode cX0_countSilentWithout 5 = .ok (.iload 4, 2) := by decide +kernel
theorem dX0_countSilentWithout_7 : decode cX0_countSilentWithout 7 = .ok (.aload_n 1, 1) := by decide +kernel
theorem dX0_countSilentWithout_8 : decode cX0_countSilentWithout 8 = .ok (.getfield 48, 3) := by decide +kernel
theorem dX0_countSilentWithout_11 : decode cX0_countSilentWithout 11 = .ok (.if_icmp .ge 40, 3) := by decide +kernel
theorem dX0_countSilentWithout_14 : decode cX0_countSilentWithout 14 = .ok (.aload_n 1, 1) := by decide +kernel
theorem dX0_countSilentWithout_15 : decode cX0_countSilentWithout 15 = .ok (.iload 4, 2) := by decide +kernel
theorem dX0_countSilentWithout_17 : decode cX0_countSilentWithout 17 = .ok (.invokevirtual 65, 3) := by decide +kernel
theorem dX0_countSilentWithout_20 : decode cX0_countSilentWithout 20 = .ok (.ifCond .ne 25, 3) := by decide +kernel
theorem dX0_countSilentWithout_23 : decode cX0_countSilentWithout 23 = .ok (.aload_n 0, 1) := by decide +kernel
theorem dX0_countSilentWithout_24 : decode cX0_countSilentWithout 24 = .ok (.getfield 14, 3) := by decide +kernel
theorem dX0_countSilentWithout_27 : decode cX0_countSilentWithout 27 = .ok (.iload 4, 2) := by decide +kernel
theorem dX0_countSilentWithout_29 : decode cX0_countSilentWithout 29 = .ok (.invokevirtual 38, 3) := by decide +kernel
theorem dX0_countSilentWithout_32 : decode cX0_countSilentWithout 32 = .ok (.iload_n 2, 1) := by decide +kernel
theorem dX0_countSilentWithout_33 : decode cX0_countSilentWithout 33 = .ok (.invokestatic 58, 3) := by decide +kernel
theorem dX0_countSilentWithout_36 : decode cX0_countSilentWithout 36 = .ok (.iconst (-1), 1) := by decide +kernel
theorem dX0_countSilentWithout_37 : decode cX0_countSilentWithout 37 = .ok (.ixor, 1) := by decide +kernel
theorem dX0_countSilentWithout_38 : decode cX0_countSilentWithout 38 = .ok (.iand, 1) := by decide +kernel
theorem dX0_countSilentWithout_39 : decode cX0_countSilentWithout 39 = .ok (.ifCond .ne 6, 3) := by decide +kernel
theorem dX0_countSilentWithout_42 : decode cX0_countSilentWithout 42 = .ok (.iinc 3 1, 3) := by decide +kernel
theorem dX0_countSilentWithout_45 : decode cX0_countSilentWithout 45 = .ok (.iinc 4 1, 3) := by decide +kernel
theorem dX0_countSilentWithout_48 : decode cX0_countSilentWithout 48 = .ok (.goto (-43), 3) := by decide +kernel
theorem dX0_countSilentWithout_51 : decode cX0_countSilentWithout 51 = .ok (.iload_n 3, 1) := by decide +kernel
theorem dX0_countSilentWithout_52 : decode cX0_countSilentWithout 52 = .ok (.ireturn, 1) := by decide +kernel
set_option maxRecDepth 20000 in
theorem ggX0_countFaults_X0_faultsAt : GoodIn wsX0_countFaults wsX0_faultsAt := goodIn_r _ [6, 7, 8, 9, 10, 11, 12, 13, 14, 15, 16, 17, 18, 19, 20, 21, 22, 23, 24, 25, 5, 26, 27, 28, 29, 30, 31, 32, 33, 34, 35, 36, 37, 38, 39, 40, 41, 42, 43, 44, 45, 59, 60, 61, 46, 47, 48, 49, 50, 51, 52, 53, 54, 55, 56, 57, 58, 62] (by decide +kernel) (by decide +kernel)
set_option maxRecDepth 20000 in
theorem gX0_countFaults_X0_faultsAt : GoodIn wsX0_countFaults (wsV RX0 69 RX0 yX0_faultsAt wsX0_faultsAt) := goodIn_app (goodIn_of _ (by decide +kernel)) ggX0_countFaults_X0_faultsAt
set_option maxRecDepth 20000 in
theorem ggX0_countFaults_J6_bitCount_0f7a4 : GoodIn wsX0_countFaults wsJ6_bitCount_0f7a4 := goodIn_r _ [42, 43, 44, 45] (by decide +kernel) (by decide +kernel)
set_option maxRecDepth 20000 in
theorem gX0_countFaults_J6_bitCount_0f7a4 : GoodIn wsX0_countFaults (va_wsS RX0 73 yJ6_bitCount_0f7a4 wsJ6_bitCount_0f7a4) := goodIn_app (goodIn_of _ (by decide +kernel)) ggX0_countFaults_J6_bitCount_0f7a4
theorem dX0_countFaults_0 : decode cX0_countFaults 0 = .ok (.iconst 0, 1) := by decide +kernel
theorem dX0_countFaults_1 : decode cX0_countFaults 1 = .ok (.istore 4, 2) := by decide +kernel
theorem dX0_countFaults_3 : decode cX0_countFaults 3 = .ok (.iconst 0, 1) := by decide +kernel
theorem dX0_countFaults_4 : decode cX0_countFaults 4 = .ok (.istore 5, 2) := by decide +kernel
theorem dX0_countFaults_6 : decode cX0_countFaults 6 = .ok (.iload 5, 2) := by decide +kernel
theorem dX0_countFaults_8 : decode cX0_countFaults 8 = .ok (.aload_n 1, 1) := by decide +kernel
theorem dX0_countFaults_9 : decode cX0_countFaults 9 = .ok (.getfield 48, 3) := by decide +kernel
theorem dX0_countFaults_12 : decode cX0_countFaults 12 = .ok (.if_icmp .ge 41, 3) := by decide +kernel
theorem dX0_countFaults_15 : decode cX0_countFaults 15 = .ok (.iload_n 2, 1) := by decide +kernel
theorem dX0_countFaults_16 : decode cX0_countFaults 16 = .ok (.istore 6, 2) := by decide +kernel
theorem dX0_countFaults_18 : decode cX0_countFaults 18 = .ok (.iload 6, 2) := by decide +kernel
theorem dX0_countFaults_20 : decode cX0_countFaults 20 = .ok (.iload_n 3, 1) := by decide +kernel
theorem dX0_countFaults_21 : decode cX0_countFaults 21 = .ok (.if_icmp .gt 26, 3) := by decide +kernel
theorem dX0_countFaults_24 : decode cX0_countFaults 24 = .ok (.iload 4, 2) := by decide +kernel
theorem dX0_countFaults_26 : decode cX0_countFaults 26 = .ok (.aload_n 0, 1) := by decide +kernel
theorem dX0_countFaults_27 : decode cX0_countFaults 27 = .ok (.aload_n 1, 1) := by decide +kernel
theorem dX0_countFaults_28 : decode cX0_countFaults 28 = .ok (.iload 5, 2) := by decide +kernel
theorem dX0_countFaults_30 : decode cX0_countFaults 30 = .ok (.iload 6, 2) := by decide +kernel
theorem dX0_countFaults_32 : decode cX0_countFaults 32 = .ok (.invokevirtual 69, 3) := by decide +kernel
theorem dX0_countFaults_35 : decode cX0_countFaults 35 = .ok (.invokestatic 73, 3) := by decide +kernel
theorem dX0_countFaults_38 : decode cX0_countFaults 38 = .ok (.iadd, 1) := by decide +kernel
theorem dX0_countFaults_39 : decode cX0_countFaults 39 = .ok (.istore 4, 2) := by decide +kernel
theorem dX0_countFaults_41 : decode cX0_countFaults 41 = .ok (.iinc 6 1, 3) := by decide +kernel
theorem dX0_countFaults_44 : decode cX0_countFaults 44 = .ok (.goto (-26), 3) := by decide +kernel
theorem dX0_countFaults_47 : decode cX0_countFaults 47 = .ok (.iinc 5 1, 3) := by decide +kernel
theorem dX0_countFaults_50 : decode cX0_countFaults 50 = .ok (.goto (-44), 3) := by decide +kernel
theorem dX0_countFaults_53 : decode cX0_countFaults 53 = .ok (.iload 4, 2) := by decide +kernel
theorem dX0_countFaults_55 : decode cX0_countFaults 55 = .ok (.ireturn, 1) := by decide +kernel
set_option maxRecDepth 20000 in
theorem ggX0_tellFault_X0_faultsAt : GoodIn wsX0_tellFault wsX0_faultsAt := goodIn_r _ [6, 7, 8, 9, 10, 11, 12, 13, 14, 15, 16, 17, 18, 19, 20, 21, 22, 23, 24, 25, 5, 26, 27, 28, 29, 30, 31, 32, 33, 34, 35, 36, 37, 38, 39, 40, 41, 42, 43, 44, 45, 68, 69, 70, 55, 56, 57, 58, 59, 60, 61, 62, 63, 64, 65, 66, 67, 71] (by decide +kernel) (by decide +kernel)
set_option maxRecDepth 20000 in
theorem gX0_tellFault_X0_faultsAt : GoodIn wsX0_tellFault (wsV RX0 69 RX0 yX0_faultsAt wsX0_faultsAt) := goodIn_app (goodIn_of _ (by decide +kernel)) ggX0_tellFault_X0_faultsAt
set_option maxRecDepth 20000 in
theorem ggX0_tellFault_J6_bitCount_0f7a4 : GoodIn wsX0_tellFault wsJ6_bitCount_0f7a4 := goodIn_r _ [42, 43, 44, 45] (by decide +kernel) (by decide +kernel)
set_option maxRecDepth 20000 in
theorem gX0_tellFault_J6_bitCount_0f7a4 : GoodIn wsX0_tellFault (va_wsS RX0 73 yJ6_bitCount_0f7a4 wsJ6_bitCount_0f7a4) := goodIn_app (goodIn_of _ (by decide +kernel)) ggX0_tellFault_J6_bitCount_0f7a4
set_option maxRecDepth 20000 in
theorem ggX0_tellFault_X0_memberAt : GoodIn wsX0_tellFault wsX0_memberAt := goodIn_r _ [48, 49, 50, 51] (by decide +kernel) (by decide +kernel)
set_option maxRecDepth 20000 in
theorem gX0_tellFault_X0_memberAt : GoodIn wsX0_tellFault (va_wsS RX0 78 yX0_memberAt wsX0_memberAt) := goodIn_app (goodIn_of _ (by decide +kernel)) ggX0_tellFault_X0_memberAt
set_option maxRecDepth 20000 in
theorem ggX0_tellFault_X0_tellOne : GoodIn wsX0_tellFault wsX0_tellOne := goodIn_r _ [54] (by decide +kernel) (by decide +kernel)
set_option maxRecDepth 20000 in
theorem gX0_tellFault_X0_tellOne : GoodIn wsX0_tellFault (va_wsS RX0 82 yX0_tellOne wsX0_tellOne) := goodIn_app (goodIn_of _ (by decide +kernel)) ggX0_tellFault_X0_tellOne
theorem dX0_tellFault_0 : decode cX0_tellFault 0 = .ok (.iload_n 2, 1) := by decide +kernel
theorem dX0_tellFault_1 : decode cX0_tellFault 1 = .ok (.istore 4, 2) := by decide +kernel
theorem dX0_tellFault_3 : decode cX0_tellFault 3 = .ok (.iconst 0, 1) := by decide +kernel
theorem dX0_tellFault_4 : decode cX0_tellFault 4 = .ok (.istore 5, 2) := by decide +kernel
theorem dX0_tellFault_6 : decode cX0_tellFault 6 = .ok (.iload 5, 2) := by decide +kernel
theorem dX0_tellFault_8 : decode cX0_tellFault 8 = .ok (.aload_n 1, 1) := by decide +kernel
theorem dX0_tellFault_9 : decode cX0_tellFault 9 = .ok (.getfield 48, 3) := by decide +kernel
theorem dX0_tellFault_12 : decode cX0_tellFault 12 = .ok (.if_icmp .ge 72, 3) := by decide +kernel
theorem dX0_tellFault_15 : decode cX0_tellFault 15 = .ok (.iconst 0, 1) := by decide +kernel
theorem dX0_tellFault_16 : decode cX0_tellFault 16 = .ok (.istore 6, 2) := by decide +kernel
theorem dX0_tellFault_18 : decode cX0_tellFault 18 = .ok (.iload 6, 2) := by decide +kernel
theorem dX0_tellFault_20 : decode cX0_tellFault 20 = .ok (.iconst 3, 1) := by decide +kernel
theorem dX0_tellFault_21 : decode cX0_tellFault 21 = .ok (.if_icmp .gt 57, 3) := by decide +kernel
theorem dX0_tellFault_24 : decode cX0_tellFault 24 = .ok (.aload_n 0, 1) := by decide +kernel
theorem dX0_tellFault_25 : decode cX0_tellFault 25 = .ok (.aload_n 1, 1) := by decide +kernel
theorem dX0_tellFault_26 : decode cX0_tellFault 26 = .ok (.iload 5, 2) := by decide +kernel
theorem dX0_tellFault_28 : decode cX0_tellFault 28 = .ok (.iload 6, 2) := by decide +kernel
theorem dX0_tellFault_30 : decode cX0_tellFault 30 = .ok (.invokevirtual 69, 3) := by decide +kernel
theorem dX0_tellFault_33 : decode cX0_tellFault 33 = .ok (.istore 7, 2) := by decide +kernel
theorem dX0_tellFault_35 : decode cX0_tellFault 35 = .ok (.iload 7, 2) := by decide +kernel
theorem dX0_tellFault_37 : decode cX0_tellFault 37 = .ok (.invokestatic 73, 3) := by decide +kernel
theorem dX0_tellFault_40 : decode cX0_tellFault 40 = .ok (.istore 8, 2) := by decide +kernel
theorem dX0_tellFault_42 : decode cX0_tellFault 42 = .ok (.iload 4, 2) := by decide +kernel
theorem dX0_tellFault_44 : decode cX0_tellFault 44 = .ok (.iload 8, 2) := by decide +kernel
theorem dX0_tellFault_46 : decode cX0_tellFault 46 = .ok (.if_icmp .ge 19, 3) := by decide +kernel
theorem dX0_tellFault_49 : decode cX0_tellFault 49 = .ok (.iload 6, 2) := by decide +kernel
theorem dX0_tellFault_51 : decode cX0_tellFault 51 = .ok (.iload 5, 2) := by decide +kernel
theorem dX0_tellFault_53 : decode cX0_tellFault 53 = .ok (.iload 7, 2) := by decide +kernel
theorem dX0_tellFault_55 : decode cX0_tellFault 55 = .ok (.iload 4, 2) := by decide +kernel
theorem dX0_tellFault_57 : decode cX0_tellFault 57 = .ok (.invokestatic 78, 3) := by decide +kernel
theorem dX0_tellFault_60 : decode cX0_tellFault 60 = .ok (.iload_n 3, 1) := by decide +kernel
theorem dX0_tellFault_61 : decode cX0_tellFault 61 = .ok (.invokestatic 82, 3) := by decide +kernel
theorem dX0_tellFault_64 : decode cX0_tellFault 64 = .ok (.ireturn, 1) := by decide +kernel
theorem dX0_tellFault_65 : decode cX0_tellFault 65 = .ok (.iload 4, 2) := by decide +kernel
theorem dX0_tellFault_67 : decode cX0_tellFault 67 = .ok (.iload 8, 2) := by decide +kernel
theorem dX0_tellFault_69 : decode cX0_tellFault 69 = .ok (.isub, 1) := by decide +kernel
theorem dX0_tellFault_70 : decode cX0_tellFault 70 = .ok (.istore 4, 2) := by decide +kernel
theorem dX0_tellFault_72 : decode cX0_tellFault 72 = .ok (.iinc 6 1, 3) := by decide +kernel
theorem dX0_tellFault_75 : decode cX0_tellFault 75 = .ok (.goto (-57), 3) := by decide +kernel
theorem dX0_tellFault_78 : decode cX0_tellFault 78 = .ok (.iinc 5 1, 3) := by decide +kernel
theorem dX0_tellFault_81 : decode cX0_tellFault 81 = .ok (.goto (-75), 3) := by decide +kernel
theorem dX0_tellFault_84 : decode cX0_tellFault 84 = .ok (.bipush (-5), 2) := by decide +kernel
theorem dX0_tellFault_86 : decode cX0_tellFault 86 = .ok (.ireturn, 1) := by decide +kernel
theorem dX0_tellOne_0 : decode cX0_tellOne 0 = .ok (.iload_n 3, 1) := by decide +kernel
theorem dX0_tellOne_1 : decode cX0_tellOne 1 = .ok (.lookupswitch 31 #[(0, 27), (1, 29)], 27) := by decide +kernel
theorem dX0_tellOne_28 : decode cX0_tellOne 28 = .ok (.iload_n 0, 1) := by decide +kernel
theorem dX0_tellOne_29 : decode cX0_tellOne 29 = .ok (.ireturn, 1) := by decide +kernel
theorem dX0_tellOne_30 : decode cX0_tellOne 30 = .ok (.iload_n 1, 1) := by decide +kernel
theorem dX0_tellOne_31 : decode cX0_tellOne 31 = .ok (.ireturn, 1) := by decide +kernel
theorem dX0_tellOne_32 : decode cX0_tellOne 32 = .ok (.iload_n 0, 1) := by decide +kernel
theorem dX0_tellOne_33 : decode cX0_tellOne 33 = .ok (.ifCond .ne 8, 3) := by decide +kernel
theorem dX0_tellOne_36 : decode cX0_tellOne 36 = .ok (.bipush (-5), 2) := by decide +kernel
theorem dX0_tellOne_38 : decode cX0_tellOne 38 = .ok (.goto 4, 3) := by decide +kernel
theorem dX0_tellOne_41 : decode cX0_tellOne 41 = .ok (.iload_n 2, 1) := by decide +kernel
theorem dX0_tellOne_42 : decode cX0_tellOne 42 = .ok (.ireturn, 1) := by decide +kernel
set_option maxRecDepth 20000 in
theorem ggX0_faultsAt_X4_isRest : GoodIn wsX0_faultsAt wsX4_isRest := goodIn_r _ [8, 9, 10, 11, 12, 13, 14, 15, 44, 45, 46, 47, 48, 49, 50, 51, 52, 53, 54, 55, 56, 57] (by decide +kernel) (by decide +kernel)
set_option maxRecDepth 20000 in
theorem gX0_faultsAt_X4_isRest : GoodIn wsX0_faultsAt (wsV RX0 65 RX4 yX4_isRest wsX4_isRest) := goodIn_app (goodIn_of _ (by decide +kernel)) ggX0_faultsAt_X4_isRest
set_option maxRecDepth 20000 in
theorem ggX0_faultsAt_X2_at : GoodIn wsX0_faultsAt wsX2_at := goodIn_r _ [14, 15, 57] (by decide +kernel) (by decide +kernel)
set_option maxRecDepth 20000 in
theorem gX0_faultsAt_X2_at : GoodIn wsX0_faultsAt (wsV RX0 38 RX2 yX2_at wsX2_at) := goodIn_app (goodIn_of _ (by decide +kernel)) ggX0_faultsAt_X2_at
set_option maxRecDepth 20000 in
theorem ggX0_faultsAt_X0_isThinInside : GoodIn wsX0_faultsAt wsX0_isThinInside := goodIn_r _ [21, 1, 22, 23, 24, 7, 25, 26, 27, 28, 10, 11, 12, 13, 14, 15, 29, 30, 31, 32, 9, 33, 5, 6, 8, 16, 34, 35, 36, 37, 38, 39, 40, 41, 42, 43, 44, 45, 46, 47, 48, 49, 50, 51, 52, 53, 54, 55, 56, 57] (by decide +kernel) (by decide +kernel)
set_option maxRecDepth 20000 in
theorem gX0_faultsAt_X0_isThinInside : GoodIn wsX0_faultsAt (wsV RX0 86 RX0 yX0_isThinInside wsX0_isThinInside) := goodIn_app (goodIn_of _ (by decide +kernel)) ggX0_faultsAt_X0_isThinInside
set_option maxRecDepth 20000 in
theorem ggX0_faultsAt_X4_soloAt : GoodIn wsX0_faultsAt wsX4_soloAt := goodIn_r _ [25, 26, 27, 28, 10, 11, 12, 13, 14, 15, 44, 45, 46, 47, 48, 49, 50, 51, 52, 53, 54, 55, 56, 57] (by decide +kernel) (by decide +kernel)
set_option maxRecDepth 20000 in
theorem gX0_faultsAt_X4_soloAt : GoodIn wsX0_faultsAt (wsV RX0 90 RX4 yX4_soloAt wsX4_soloAt) := goodIn_app (goodIn_of _ (by decide +kernel)) ggX0_faultsAt_X4_soloAt
theorem dX0_faultsAt_0 : decode cX0_faultsAt 0 = .ok (.iload_n 3, 1) := by decide +kernel
theorem dX0_faultsAt_1 : decode cX0_faultsAt 1 = .ok (.tableswitch 110 0 3 #[31, 56, 65, 87], 31) := by decide +kernel
theorem dX0_faultsAt_32 : decode cX0_faultsAt 32 = .ok (.aload_n 1, 1) := by decide +kernel
theorem dX0_faultsAt_33 : decode cX0_faultsAt 33 = .ok (.iload_n 2, 1) := by decide +kernel
theorem dX0_faultsAt_34 : decode cX0_faultsAt 34 = .ok (.invokevirtual 65, 3) := by decide +kernel
theorem dX0_faultsAt_37 : decode cX0_faultsAt 37 = .ok (.ifCond .ne 18, 3) := by decide +kernel
theorem dX0_faultsAt_40 : decode cX0_faultsAt 40 = .ok (.aload_n 0, 1) := by decide +kernel
theorem dX0_faultsAt_41 : decode cX0_faultsAt 41 = .ok (.getfield 14, 3) := by decide +kernel
theorem dX0_faultsAt_44 : decode cX0_faultsAt 44 = .ok (.iload_n 2, 1) := by decide +kernel
theorem dX0_faultsAt_45 : decode cX0_faultsAt 45 = .ok (.invokevirtual 38, 3) := by decide +kernel
theorem dX0_faultsAt_48 : decode cX0_faultsAt 48 = .ok (.ifCond .ne 7, 3) := by decide +kernel
theorem dX0_faultsAt_51 : decode cX0_faultsAt 51 = .ok (.iconst 1, 1) := by decide +kernel
theorem dX0_faultsAt_52 : decode cX0_faultsAt 52 = .ok (.goto 4, 3) := by decide +kernel
theorem dX0_faultsAt_55 : decode cX0_faultsAt 55 = .ok (.iconst 0, 1) := by decide +kernel
theorem dX0_faultsAt_56 : decode cX0_faultsAt 56 = .ok (.ireturn, 1) := by decide +kernel
theorem dX0_faultsAt_57 : decode cX0_faultsAt 57 = .ok (.aload_n 0, 1) := by decide +kernel
theorem dX0_faultsAt_58 : decode cX0_faultsAt 58 = .ok (.getfield 23, 3) := by decide +kernel
theorem dX0_faultsAt_61 : decode cX0_faultsAt 61 = .ok (.iload_n 2, 1) := by decide +kernel
theorem dX0_faultsAt_62 : decode cX0_faultsAt 62 = .ok (.invokevirtual 38, 3) := by decide +kernel
theorem dX0_faultsAt_65 : decode cX0_faultsAt 65 = .ok (.ireturn, 1) := by decide +kernel
theorem dX0_faultsAt_66 : decode cX0_faultsAt 66 = .ok (.aload_n 0, 1) := by decide +kernel
theorem dX0_faultsAt_67 : decode cX0_faultsAt 67 = .ok (.aload_n 1, 1) := by decide +kernel
theorem dX0_faultsAt_68 : decode cX0_faultsAt 68 = .ok (.iload_n 2, 1) := by decide +kernel
theorem dX0_faultsAt_69 : decode cX0_faultsAt 69 = .ok (.invokevirtual 86, 3) := by decide +kernel
theorem dX0_faultsAt_72 : decode cX0_faultsAt 72 = .ok (.ifCond .eq 14, 3) := by decide +kernel
theorem dX0_faultsAt_75 : decode cX0_faultsAt 75 = .ok (.aload_n 0, 1) := by decide +kernel
theorem dX0_faultsAt_76 : decode cX0_faultsAt 76 = .ok (.getfield 20, 3) := by decide +kernel
theorem dX0_faultsAt_79 : decode cX0_faultsAt 79 = .ok (.iload_n 2, 1) := by decide +kernel
theorem dX0_faultsAt_80 : decode cX0_faultsAt 80 = .ok (.invokevirtual 38, 3) := by decide +kernel
theorem dX0_faultsAt_83 : decode cX0_faultsAt 83 = .ok (.goto 4, 3) := by decide +kernel
theorem dX0_faultsAt_86 : decode cX0_faultsAt 86 = .ok (.iconst 0, 1) := by decide +kernel
theorem dX0_faultsAt_87 : decode cX0_faultsAt 87 = .ok (.ireturn, 1) := by decide +kernel
theorem dX0_faultsAt_88 : decode cX0_faultsAt 88 = .ok (.aload_n 1, 1) := by decide +kernel
theorem dX0_faultsAt_89 : decode cX0_faultsAt 89 = .ok (.iload_n 2, 1) := by decide +kernel
theorem dX0_faultsAt_90 : decode cX0_faultsAt 90 = .ok (.invokevirtual 90, 3) := by decide +kernel
theorem dX0_faultsAt_93 : decode cX0_faultsAt 93 = .ok (.bipush (-5), 2) := by decide +kernel
theorem dX0_faultsAt_95 : decode cX0_faultsAt 95 = .ok (.if_icmp .eq 14, 3) := by decide +kernel
theorem dX0_faultsAt_98 : decode cX0_faultsAt 98 = .ok (.aload_n 0, 1) := by decide +kernel
theorem dX0_faultsAt_99 : decode cX0_faultsAt 99 = .ok (.getfield 20, 3) := by decide +kernel
theorem dX0_faultsAt_102 : decode cX0_faultsAt 102 = .ok (.iload_n 2, 1) := by decide +kernel
theorem dX0_faultsAt_103 : decode cX0_faultsAt 103 = .ok (.invokevirtual 38, 3) := by decide +kernel
theorem dX0_faultsAt_106 : decode cX0_faultsAt 106 = .ok (.goto 4, 3) := by decide +kernel
theorem dX0_faultsAt_109 : decode cX0_faultsAt 109 = .ok (.iconst 0, 1) := by decide +kernel
theorem dX0_faultsAt_110 : decode cX0_faultsAt 110 = .ok (.ireturn, 1) := by decide +kernel
theorem dX0_faultsAt_111 : decode cX0_faultsAt 111 = .ok (.iconst 0, 1) := by decide +kernel
theorem dX0_faultsAt_112 : decode cX0_faultsAt 112 = .ok (.ireturn, 1) := by decide +kernel
set_option maxRecDepth 20000 in
theorem ggX0_isThinInside_X4_soloAt : GoodIn wsX0_isThinInside wsX4_soloAt := goodIn_r _ [6, 7, 8, 9, 10, 11, 12, 13, 14, 15, 36, 37, 38, 39, 40, 41, 42, 43, 44, 45, 46, 47, 48, 49] (by decide +kernel) (by decide +kernel)
set_option maxRecDepth 20000 in
theorem gX0_isThinInside_X4_soloAt : GoodIn wsX0_isThinInside (wsV RX0 90 RX4 yX4_soloAt wsX4_soloAt) := goodIn_app (goodIn_of _ (by decide +kernel)) ggX0_isThinInside_X4_soloAt
set_option maxRecDepth 20000 in
theorem ggX0_isThinInside_X4_firstOfSyllable : GoodIn wsX0_isThinInside wsX4_firstOfSyllable := goodIn_r _ [19, 20, 21, 22, 23, 5, 24, 10, 11, 12, 13, 14, 15, 36, 37, 38, 39, 40, 41, 42, 43, 44, 45, 46, 47, 48, 49] (by decide +kernel) (by decide +kernel)
set_option maxRecDepth 20000 in
theorem gX0_isThinInside_X4_firstOfSyllable : GoodIn wsX0_isThinInside (wsV RX0 93 RX4 yX4_firstOfSyllable wsX4_firstOfSyllable) := goodIn_app (goodIn_of _ (by decide +kernel)) ggX0_isThinInside_X4_firstOfSyllable
set_option maxRecDepth 20000 in
theorem ggX0_isThinInside_X2_at : GoodIn wsX0_isThinInside wsX2_at := goodIn_r _ [14, 15, 49] (by decide +kernel) (by decide +kernel)
set_option maxRecDepth 20000 in
theorem gX0_isThinInside_X2_at : GoodIn wsX0_isThinInside (wsV RX0 38 RX2 yX2_at wsX2_at) := goodIn_app (goodIn_of _ (by decide +kernel)) ggX0_isThinInside_X2_at
set_option maxRecDepth 20000 in
theorem ggX0_isThinInside_J6_bitCount_0f7a4 : GoodIn wsX0_isThinInside wsJ6_bitCount_0f7a4 := goodIn_r _ [29, 30, 31, 32] (by decide +kernel) (by decide +kernel)
set_option maxRecDepth 20000 in
theorem gX0_isThinInside_J6_bitCount_0f7a4 : GoodIn wsX0_isThinInside (va_wsS RX0 73 yJ6_bitCount_0f7a4 wsJ6_bitCount_0f7a4) := goodIn_app (goodIn_of _ (by decide +kernel)) ggX0_isThinInside_J6_bitCount_0f7a4
theorem dX0_isThinInside_0 : decode cX0_isThinInside 0 = .ok (.aload_n 1, 1) := by decide +kernel
theorem dX0_isThinInside_1 : decode cX0_isThinInside 1 = .ok (.iload_n 2, 1) := by decide +kernel
theorem dX0_isThinInside_2 : decode cX0_isThinInside 2 = .ok (.invokevirtual 90, 3) := by decide +kernel
theorem dX0_isThinInside_5 : decode cX0_isThinInside 5 = .ok (.bipush (-5), 2) := by decide +kernel
theorem dX0_isThinInside_7 : decode cX0_isThinInside 7 = .ok (.if_icmp .ne 31, 3) := by decide +kernel
theorem dX0_isThinInside_10 : decode cX0_isThinInside 10 = .ok (.aload_n 1, 1) := by decide +kernel
theorem dX0_isThinInside_11 : decode cX0_isThinInside 11 = .ok (.iload_n 2, 1) := by decide +kernel
theorem dX0_isThinInside_12 : decode cX0_isThinInside 12 = .ok (.invokevirtual 93, 3) := by decide +kernel
theorem dX0_isThinInside_15 : decode cX0_isThinInside 15 = .ok (.iload_n 2, 1) := by decide +kernel
theorem dX0_isThinInside_16 : decode cX0_isThinInside 16 = .ok (.if_icmp .eq 22, 3) := by decide +kernel
theorem dX0_isThinInside_19 : decode cX0_isThinInside 19 = .ok (.aload_n 0, 1) := by decide +kernel
theorem dX0_isThinInside_20 : decode cX0_isThinInside 20 = .ok (.getfield 14, 3) := by decide +kernel
theorem dX0_isThinInside_23 : decode cX0_isThinInside 23 = .ok (.iload_n 2, 1) := by decide +kernel
theorem dX0_isThinInside_24 : decode cX0_isThinInside 24 = .ok (.invokevirtual 38, 3) := by decide +kernel
theorem dX0_isThinInside_27 : decode cX0_isThinInside 27 = .ok (.invokestatic 73, 3) := by decide +kernel
theorem dX0_isThinInside_30 : decode cX0_isThinInside 30 = .ok (.iconst 2, 1) := by decide +kernel
theorem dX0_isThinInside_31 : decode cX0_isThinInside 31 = .ok (.if_icmp .ge 7, 3) := by decide +kernel
theorem dX0_isThinInside_34 : decode cX0_isThinInside 34 = .ok (.iconst 1, 1) := by decide +kernel
theorem dX0_isThinInside_35 : decode cX0_isThinInside 35 = .ok (.goto 4, 3) := by decide +kernel
theorem dX0_isThinInside_38 : decode cX0_isThinInside 38 = .ok (.iconst 0, 1) := by decide +kernel
theorem dX0_isThinInside_39 : decode cX0_isThinInside 39 = .ok (.ireturn, 1) := by decide +kernel
set_option maxRecDepth 20000 in
theorem ggX0_memberAt_X7_contains : GoodIn wsX0_memberAt wsX7_contains := goodIn_r _ [3] (by decide +kernel) (by decide +kernel)
set_option maxRecDepth 20000 in
theorem gX0_memberAt_X7_contains_n96 : GoodIn wsX0_memberAt (wsX7_contains) := ggX0_memberAt_X7_contains
theorem dX0_memberAt_0 : decode cX0_memberAt 0 = .ok (.iconst 0, 1) := by decide +kernel
theorem dX0_memberAt_1 : decode cX0_memberAt 1 = .ok (.istore_n 2, 1) := by decide +kernel
theorem dX0_memberAt_2 : decode cX0_memberAt 2 = .ok (.iconst 0, 1) := by decide +kernel
theorem dX0_memberAt_3 : decode cX0_memberAt 3 = .ok (.istore_n 3, 1) := by decide +kernel
theorem dX0_memberAt_4 : decode cX0_memberAt 4 = .ok (.iload_n 3, 1) := by decide +kernel
theorem dX0_memberAt_5 : decode cX0_memberAt 5 = .ok (.bipush 12, 2) := by decide +kernel
theorem dX0_memberAt_7 : decode cX0_memberAt 7 = .ok (.if_icmp .ge 27, 3) := by decide +kernel
theorem dX0_memberAt_10 : decode cX0_memberAt 10 = .ok (.iload_n 0, 1) := by decide +kernel
theorem dX0_memberAt_11 : decode cX0_memberAt 11 = .ok (.iload_n 3, 1) := by decide +kernel
theorem dX0_memberAt_12 : decode cX0_memberAt 12 = .ok (.invokestatic 96, 3) := by decide +kernel
theorem dX0_memberAt_15 : decode cX0_memberAt 15 = .ok (.ifCond .eq 13, 3) := by decide +kernel
theorem dX0_memberAt_18 : decode cX0_memberAt 18 = .ok (.iload_n 2, 1) := by decide +kernel
theorem dX0_memberAt_19 : decode cX0_memberAt 19 = .ok (.iload_n 1, 1) := by decide +kernel
theorem dX0_memberAt_20 : decode cX0_memberAt 20 = .ok (.if_icmp .ne 5, 3) := by decide +kernel
theorem dX0_memberAt_23 : decode cX0_memberAt 23 = .ok (.iload_n 3, 1) := by decide +kernel
theorem dX0_memberAt_24 : decode cX0_memberAt 24 = .ok (.ireturn, 1) := by decide +kernel
theorem dX0_memberAt_25 : decode cX0_memberAt 25 = .ok (.iinc 2 1, 3) := by decide +kernel
theorem dX0_memberAt_28 : decode cX0_memberAt 28 = .ok (.iinc 3 1, 3) := by decide +kernel
theorem dX0_memberAt_31 : decode cX0_memberAt 31 = .ok (.goto (-27), 3) := by decide +kernel
theorem dX0_memberAt_34 : decode cX0_memberAt 34 = .ok (.bipush (-5), 2) := by decide +kernel
theorem dX0_memberAt_36 : decode cX0_memberAt 36 = .ok (.ireturn, 1) := by decide +kernel
theorem dX1_init_0 : decode cX1_init 0 = .ok (.aload_n 0, 1) := by decide +kernel
theorem dX1_init_1 : decode cX1_init 1 = .ok (.invokespecial 3, 3) := by decide +kernel
theorem dX1_init_4 : decode cX1_init 4 = .ok (.aload_n 0, 1) := by decide +kernel
theorem dX1_init_5 : decode cX1_init 5 = .ok (.iconst 5, 1) := by decide +kernel
theorem dX1_init_6 : decode cX1_init 6 = .ok (.anewarray 9, 3) := by decide +kernel
theorem dX1_init_9 : decode cX1_init 9 = .ok (.putfield 11, 3) := by decide +kernel
theorem dX1_init_12 : decode cX1_init 12 = .ok (.return_, 1) := by decide +kernel
set_option maxRecDepth 20000 in
theorem ggX1_record_X1_forgetOldest : GoodIn wsX1_record wsX1_forgetOldest := goodIn_r _ [10, 2, 1, 55, 56] (by decide +kernel) (by decide +kernel)
set_option maxRecDepth 20000 in
theorem gX1_record_X1_forgetOldest : GoodIn wsX1_record (wsV RX1 21 RX1 yX1_forgetOldest wsX1_forgetOldest) := goodIn_app (goodIn_of _ (by decide +kernel)) ggX1_record_X1_forgetOldest
set_option maxRecDepth 20000 in
theorem ggX1_record_X4_init : GoodIn wsX1_record wsX4_init := goodIn_r _ [13, 14, 15, 16, 17, 18, 19, 20, 21, 22, 23, 24, 25, 26, 27, 28, 29, 30, 31, 32, 33, 34, 35, 36, 37, 38, 70, 57, 58, 59, 60, 61, 62, 63, 64, 65, 66, 67, 68, 69] (by decide +kernel) (by decide +kernel)
set_option maxRecDepth 20000 in
theorem gX1_record_X4_init : GoodIn wsX1_record (wsX4_init) := ggX1_record_X4_init
set_option maxRecDepth 20000 in
theorem ggX1_record_X4_copyFrom : GoodIn wsX1_record wsX4_copyFrom := goodIn_r _ [42, 43, 44, 45, 46, 28, 20, 21, 22, 23, 24, 25, 26, 27, 47, 48, 49, 19, 50, 38, 51, 52, 53, 54, 57, 58, 59, 60, 61, 62, 63, 64, 65, 66, 67, 68, 69, 70] (by decide +kernel) (by decide +kernel)
set_option maxRecDepth 20000 in
theorem gX1_record_X4_copyFrom : GoodIn wsX1_record (wsV RX1 25 RX4 yX4_copyFrom wsX4_copyFrom) := goodIn_app (goodIn_of _ (by decide +kernel)) ggX1_record_X4_copyFrom
theorem dX1_record_0 : decode cX1_record 0 = .ok (.aload_n 0, 1) := by decide +kernel
theorem dX1_record_1 : decode cX1_record 1 = .ok (.getfield 17, 3) := by decide +kernel
theorem dX1_record_4 : decode cX1_record 4 = .ok (.aload_n 0, 1) := by decide +kernel
theorem dX1_record_5 : decode cX1_record 5 = .ok (.getfield 11, 3) := by decide +kernel
theorem dX1_record_8 : decode cX1_record 8 = .ok (.arraylength, 1) := by decide +kernel
theorem dX1_record_9 : decode cX1_record 9 = .ok (.if_icmp .lt 7, 3) := by decide +kernel
theorem dX1_record_12 : decode cX1_record 12 = .ok (.aload_n 0, 1) := by decide +kernel
theorem dX1_record_13 : decode cX1_record 13 = .ok (.invokevirtual 21, 3) := by decide +kernel
theorem dX1_record_16 : decode cX1_record 16 = .ok (.aload_n 0, 1) := by decide +kernel
theorem dX1_record_17 : decode cX1_record 17 = .ok (.getfield 17, 3) := by decide +kernel
theorem dX1_record_20 : decode cX1_record 20 = .ok (.ifCond .lt 15, 3) := by decide +kernel
theorem dX1_record_23 : decode cX1_record 23 = .ok (.aload_n 0, 1) := by decide +kernel
theorem dX1_record_24 : decode cX1_record 24 = .ok (.getfield 17, 3) := by decide +kernel
theorem dX1_record_27 : decode cX1_record 27 = .ok (.aload_n 0, 1) := by decide +kernel
theorem dX1_record_28 : decode cX1_record 28 = .ok (.getfield 11, 3) := by decide +kernel
theorem dX1_record_31 : decode cX1_record 31 = .ok (.arraylength, 1) := by decide +kernel
theorem dX1_record_32 : decode cX1_record 32 = .ok (.if_icmp .lt 4, 3) := by decide +kernel
theorem dX1_record_35 : decode cX1_record 35 = .ok (.return_, 1) := by decide +kernel
theorem dX1_record_36 : decode cX1_record 36 = .ok (.aload_n 0, 1) := by decide +kernel
theorem dX1_record_37 : decode cX1_record 37 = .ok (.getfield 11, 3) := by decide +kernel
theorem dX1_record_40 : decode cX1_record 40 = .ok (.aload_n 0, 1) := by decide +kernel
theorem dX1_record_41 : decode cX1_record 41 = .ok (.getfield 17, 3) := by decide +kernel
theorem dX1_record_44 : decode cX1_record 44 = .ok (.aaload, 1) := by decide +kernel
theorem dX1_record_45 : decode cX1_record 45 = .ok (.astore_n 2, 1) := by decide +kernel
theorem dX1_record_46 : decode cX1_record 46 = .ok (.aload_n 2, 1) := by decide +kernel
theorem dX1_record_47 : decode cX1_record 47 = .ok (.ifnonnull 21, 3) := by decide +kernel
theorem dX1_record_50 : decode cX1_record 50 = .ok (.new 9, 3) := by decide +kernel
theorem dX1_record_53 : decode cX1_record 53 = .ok (.dup, 1) := by decide +kernel
theorem dX1_record_54 : decode cX1_record 54 = .ok (.invokespecial 24, 3) := by decide +kernel
theorem dX1_record_57 : decode cX1_record 57 = .ok (.astore_n 2, 1) := by decide +kernel
theorem dX1_record_58 : decode cX1_record 58 = .ok (.aload_n 0, 1) := by decide +kernel
theorem dX1_record_59 : decode cX1_record 59 = .ok (.getfield 11, 3) := by decide +kernel
theorem dX1_record_62 : decode cX1_record 62 = .ok (.aload_n 0, 1) := by decide +kernel
theorem dX1_record_63 : decode cX1_record 63 = .ok (.getfield 17, 3) := by decide +kernel
theorem dX1_record_66 : decode cX1_record 66 = .ok (.aload_n 2, 1) := by decide +kernel
theorem dX1_record_67 : decode cX1_record 67 = .ok (.aastore, 1) := by decide +kernel
theorem dX1_record_68 : decode cX1_record 68 = .ok (.aload_n 2, 1) := by decide +kernel
theorem dX1_record_69 : decode cX1_record 69 = .ok (.aload_n 1, 1) := by decide +kernel
theorem dX1_record_70 : decode cX1_record 70 = .ok (.invokevirtual 25, 3) := by decide +kernel
theorem dX1_record_73 : decode cX1_record 73 = .ok (.aload_n 0, 1) := by decide +kernel
theorem dX1_record_74 : decode cX1_record 74 = .ok (.dup, 1) := by decide +kernel
theorem dX1_record_75 : decode cX1_record 75 = .ok (.getfield 17, 3) := by decide +kernel
theorem dX1_record_78 : decode cX1_record 78 = .ok (.iconst 1, 1) := by decide +kernel
theorem dX1_record_79 : decode cX1_record 79 = .ok (.iadd, 1) := by decide +kernel
theorem dX1_record_80 : decode cX1_record 80 = .ok (.putfield 17, 3) := by decide +kernel
theorem dX1_record_83 : decode cX1_record 83 = .ok (.return_, 1) := by decide +kernel
set_option maxRecDepth 20000 in
theorem ggX1_takeBack_X4_copyFrom : GoodIn wsX1_takeBack wsX4_copyFrom := goodIn_r _ [7, 8, 9, 10, 11, 12, 13, 14, 15, 16, 17, 18, 19, 20, 21, 22, 23, 24, 25, 26, 27, 28, 29, 30, 33, 34, 35, 36, 37, 38, 39, 40, 41, 42, 43, 44, 45, 46] (by decide +kernel) (by decide +kernel)
set_option maxRecDepth 20000 in
theorem gX1_takeBack_X4_copyFrom : GoodIn wsX1_takeBack (wsV RX1 25 RX4 yX4_copyFrom wsX4_copyFrom) := goodIn_app (goodIn_of _ (by decide +kernel)) ggX1_takeBack_X4_copyFrom
theorem dX1_takeBack_0 : decode cX1_takeBack 0 = .ok (.aload_n 0, 1) := by decide +kernel
theorem dX1_takeBack_1 : decode cX1_takeBack 1 = .ok (.getfield 17, 3) := by decide +kernel
theorem dX1_takeBack_4 : decode cX1_takeBack 4 = .ok (.iconst 1, 1) := by decide +kernel
theorem dX1_takeBack_5 : decode cX1_takeBack 5 = .ok (.isub, 1) := by decide +kernel
theorem dX1_takeBack_6 : decode cX1_takeBack 6 = .ok (.istore_n 2, 1) := by decide +kernel
theorem dX1_takeBack_7 : decode cX1_takeBack 7 = .ok (.iload_n 2, 1) := by decide +kernel
theorem dX1_takeBack_8 : decode cX1_takeBack 8 = .ok (.ifCond .lt 12, 3) := by decide +kernel
theorem dX1_takeBack_11 : decode cX1_takeBack 11 = .ok (.iload_n 2, 1) := by decide +kernel
theorem dX1_takeBack_12 : decode cX1_takeBack 12 = .ok (.aload_n 0, 1) := by decide +kernel
theorem dX1_takeBack_13 : decode cX1_takeBack 13 = .ok (.getfield 11, 3) := by decide +kernel
theorem dX1_takeBack_16 : decode cX1_takeBack 16 = .ok (.arraylength, 1) := by decide +kernel
theorem dX1_takeBack_17 : decode cX1_takeBack 17 = .ok (.if_icmp .lt 4, 3) := by decide +kernel
theorem dX1_takeBack_20 : decode cX1_takeBack 20 = .ok (.return_, 1) := by decide +kernel
theorem dX1_takeBack_21 : decode cX1_takeBack 21 = .ok (.aload_n 0, 1) := by decide +kernel
theorem dX1_takeBack_22 : decode cX1_takeBack 22 = .ok (.getfield 11, 3) := by decide +kernel
theorem dX1_takeBack_25 : decode cX1_takeBack 25 = .ok (.iload_n 2, 1) := by decide +kernel
theorem dX1_takeBack_26 : decode cX1_takeBack 26 = .ok (.aaload, 1) := by decide +kernel
theorem dX1_takeBack_27 : decode cX1_takeBack 27 = .ok (.astore_n 3, 1) := by decide +kernel
theorem dX1_takeBack_28 : decode cX1_takeBack 28 = .ok (.aload_n 3, 1) := by decide +kernel
theorem dX1_takeBack_29 : decode cX1_takeBack 29 = .ok (.ifnonnull 4, 3) := by decide +kernel
theorem dX1_takeBack_32 : decode cX1_takeBack 32 = .ok (.return_, 1) := by decide +kernel
theorem dX1_takeBack_33 : decode cX1_takeBack 33 = .ok (.aload_n 1, 1) := by decide +kernel
theorem dX1_takeBack_34 : decode cX1_takeBack 34 = .ok (.aload_n 3, 1) := by decide +kernel
theorem dX1_takeBack_35 : decode cX1_takeBack 35 = .ok (.invokevirtual 25, 3) := by decide +kernel
theorem dX1_takeBack_38 : decode cX1_takeBack 38 = .ok (.aload_n 0, 1) := by decide +kernel
theorem dX1_takeBack_39 : decode cX1_takeBack 39 = .ok (.iload_n 2, 1) := by decide +kernel
theorem dX1_takeBack_40 : decode cX1_takeBack 40 = .ok (.putfield 17, 3) := by decide +kernel
theorem dX1_takeBack_43 : decode cX1_takeBack 43 = .ok (.return_, 1) := by decide +kernel
theorem dX1_forgetOldest_0 : decode cX1_forgetOldest 0 = .ok (.iconst 1, 1) := by decide +kernel
theorem dX1_forgetOldest_1 : decode cX1_forgetOldest 1 = .ok (.istore_n 1, 1) := by decide +kernel
theorem dX1_forgetOldest_2 : decode cX1_forgetOldest 2 = .ok (.iload_n 1, 1) := by decide +kernel
theorem dX1_forgetOldest_3 : decode cX1_forgetOldest 3 = .ok (.aload_n 0, 1) := by decide +kernel
theorem dX1_forgetOldest_4 : decode cX1_forgetOldest 4 = .ok (.getfield 11, 3) := by decide +kernel
theorem dX1_forgetOldest_7 : decode cX1_forgetOldest 7 = .ok (.arraylength, 1) := by decide +kernel
theorem dX1_forgetOldest_8 : decode cX1_forgetOldest 8 = .ok (.if_icmp .ge 39, 3) := by decide +kernel
theorem dX1_forgetOldest_11 : decode cX1_forgetOldest 11 = .ok (.aload_n 0, 1) := by decide +kernel
theorem dX1_forgetOldest_12 : decode cX1_forgetOldest 12 = .ok (.getfield 11, 3) := by decide +kernel
theorem dX1_forgetOldest_15 : decode cX1_forgetOldest 15 = .ok (.iload_n 1, 1) := by decide +kernel
theorem dX1_forgetOldest_16 : decode cX1_forgetOldest 16 = .ok (.iconst 1, 1) := by decide +kernel
theorem dX1_forgetOldest_17 : decode cX1_forgetOldest 17 = .ok (.isub, 1) := by decide +kernel
theorem dX1_forgetOldest_18 : decode cX1_forgetOldest 18 = .ok (.aaload, 1) := by decide +kernel
theorem dX1_forgetOldest_19 : decode cX1_forgetOldest 19 = .ok (.astore_n 2, 1) := by decide +kernel
theorem dX1_forgetOldest_20 : decode cX1_forgetOldest 20 = .ok (.aload_n 0, 1) := by decide +kernel
theorem dX1_forgetOldest_21 : decode cX1_forgetOldest 21 = .ok (.getfield 11, 3) := by decide +kernel
theorem dX1_forgetOldest_24 : decode cX1_forgetOldest 24 = .ok (.iload_n 1, 1) := by decide +kernel
theorem dX1_forgetOldest_25 : decode cX1_forgetOldest 25 = .ok (.iconst 1, 1) := by decide +kernel
theorem dX1_forgetOldest_26 : decode cX1_forgetOldest 26 = .ok (.isub, 1) := by decide +kernel
theorem dX1_forgetOldest_27 : decode cX1_forgetOldest 27 = .ok (.aload_n 0, 1) := by decide +kernel
theorem dX1_forgetOldest_28 : decode cX1_forgetOldest 28 = .ok (.getfield 11, 3) := by decide +kernel
theorem dX1_forgetOldest_31 : decode cX1_forgetOldest 31 = .ok (.iload_n 1, 1) := by decide +kernel
theorem dX1_forgetOldest_32 : decode cX1_forgetOldest 32 = .ok (.aaload, 1) := by decide +kernel
theorem dX1_forgetOldest_33 : decode cX1_forgetOldest 33 = .ok (.aastore, 1) := by decide +kernel
theorem dX1_forgetOldest_34 : decode cX1_forgetOldest 34 = .ok (.aload_n 0, 1) := by decide +kernel
theorem dX1_forgetOldest_35 : decode cX1_forgetOldest 35 = .ok (.getfield 11, 3) := by decide +kernel
theorem dX1_forgetOldest_38 : decode cX1_forgetOldest 38 = .ok (.iload_n 1, 1) := by decide +kernel
theorem dX1_forgetOldest_39 : decode cX1_forgetOldest 39 = .ok (.aload_n 2, 1) := by decide +kernel
theorem dX1_forgetOldest_40 : decode cX1_forgetOldest 40 = .ok (.aastore, 1) := by decide +kernel
theorem dX1_forgetOldest_41 : decode cX1_forgetOldest 41 = .ok (.iinc 1 1, 3) := by decide +kernel
theorem dX1_forgetOldest_44 : decode cX1_forgetOldest 44 = .ok (.goto (-42), 3) := by decide +kernel
theorem dX1_forgetOldest_47 : decode cX1_forgetOldest 47 = .ok (.aload_n 0, 1) := by decide +kernel
theorem dX1_forgetOldest_48 : decode cX1_forgetOldest 48 = .ok (.dup, 1) := by decide +kernel
theorem dX1_forgetOldest_49 : decode cX1_forgetOldest 49 = .ok (.getfield 17, 3) := by decide +kernel
theorem dX1_forgetOldest_52 : decode cX1_forgetOldest 52 = .ok (.iconst 1, 1) := by decide +kernel
theorem dX1_forgetOldest_53 : decode cX1_forgetOldest 53 = .ok (.isub, 1) := by decide +kernel
theorem dX1_forgetOldest_54 : decode cX1_forgetOldest 54 = .ok (.putfield 17, 3) := by decide +kernel
theorem dX1_forgetOldest_57 : decode cX1_forgetOldest 57 = .ok (.return_, 1) := by decide +kernel
theorem dX2_init_0 : decode cX2_init 0 = .ok (.aload_n 0, 1) := by decide +kernel
theorem dX2_init_1 : decode cX2_init 1 = .ok (.invokespecial 1, 3) := by decide +kernel
theorem dX2_init_4 : decode cX2_init 4 = .ok (.aload_n 0, 1) := by decide +kernel
theorem dX2_init_5 : decode cX2_init 5 = .ok (.iconst 0, 1) := by decide +kernel
theorem dX2_init_6 : decode cX2_init 6 = .ok (.iload_n 1, 1) := by decide +kernel
theorem dX2_init_7 : decode cX2_init 7 = .ok (.invokestatic 7, 3) := by decide +kernel
theorem dX2_init_10 : decode cX2_init 10 = .ok (.newarray .int, 2) := by decide +kernel
theorem dX2_init_12 : decode cX2_init 12 = .ok (.putfield 13, 3) := by decide +kernel
theorem dX2_init_15 : decode cX2_init 15 = .ok (.return_, 1) := by decide +kernel
theorem dX2_at_0 : decode cX2_at 0 = .ok (.iload_n 1, 1) := by decide +kernel
theorem dX2_at_1 : decode cX2_at 1 = .ok (.ifCond .lt 21, 3) := by decide +kernel
theorem dX2_at_4 : decode cX2_at 4 = .ok (.iload_n 1, 1) := by decide +kernel
theorem dX2_at_5 : decode cX2_at 5 = .ok (.aload_n 0, 1) := by decide +kernel
theorem dX2_at_6 : decode cX2_at 6 = .ok (.getfield 13, 3) := by decide +kernel
theorem dX2_at_9 : decode cX2_at 9 = .ok (.arraylength, 1) := by decide +kernel
theorem dX2_at_10 : decode cX2_at 10 = .ok (.if_icmp .ge 12, 3) := by decide +kernel
theorem dX2_at_13 : decode cX2_at 13 = .ok (.aload_n 0, 1) := by decide +kernel
theorem dX2_at_14 : decode cX2_at 14 = .ok (.getfield 13, 3) := by decide +kernel
theorem dX2_at_17 : decode cX2_at 17 = .ok (.iload_n 1, 1) := by decide +kernel
theorem dX2_at_18 : decode cX2_at 18 = .ok (.iaload, 1) := by decide +kernel
theorem dX2_at_19 : decode cX2_at 19 = .ok (.goto 4, 3) := by decide +kernel
theorem dX2_at_22 : decode cX2_at 22 = .ok (.iconst 0, 1) := by decide +kernel
theorem dX2_at_23 : decode cX2_at 23 = .ok (.ireturn, 1) := by decide +kernel
theorem dX2_put_0 : decode cX2_put 0 = .ok (.iload_n 1, 1) := by decide +kernel
theorem dX2_put_1 : decode cX2_put 1 = .ok (.ifCond .lt 19, 3) := by decide +kernel
theorem dX2_put_4 : decode cX2_put 4 = .ok (.iload_n 1, 1) := by decide +kernel
theorem dX2_put_5 : decode cX2_put 5 = .ok (.aload_n 0, 1) := by decide +kernel
theorem dX2_put_6 : decode cX2_put 6 = .ok (.getfield 13, 3) := by decide +kernel
theorem dX2_put_9 : decode cX2_put 9 = .ok (.arraylength, 1) := by decide +kernel
theorem dX2_put_10 : decode cX2_put 10 = .ok (.if_icmp .ge 10, 3) := by decide +kernel
theorem dX2_put_13 : decode cX2_put 13 = .ok (.aload_n 0, 1) := by decide +kernel
theorem dX2_put_14 : decode cX2_put 14 = .ok (.getfield 13, 3) := by decide +kernel
theorem dX2_put_17 : decode cX2_put 17 = .ok (.iload_n 1, 1) := by decide +kernel
theorem dX2_put_18 : decode cX2_put 18 = .ok (.iload_n 2, 1) := by decide +kernel
theorem dX2_put_19 : decode cX2_put 19 = .ok (.iastore, 1) := by decide +kernel
theorem dX2_put_20 : decode cX2_put 20 = .ok (.return_, 1) := by decide +kernel
theorem dX2_clear_0 : decode cX2_clear 0 = .ok (.iconst 0, 1) := by decide +kernel
theorem dX2_clear_1 : decode cX2_clear 1 = .ok (.istore_n 1, 1) := by decide +kernel
theorem dX2_clear_2 : decode cX2_clear 2 = .ok (.iload_n 1, 1) := by decide +kernel
theorem dX2_clear_3 : decode cX2_clear 3 = .ok (.aload_n 0, 1) := by decide +kernel
theorem dX2_clear_4 : decode cX2_clear 4 = .ok (.getfield 13, 3) := by decide +kernel
theorem dX2_clear_7 : decode cX2_clear 7 = .ok (.arraylength, 1) := by decide +kernel
theorem dX2_clear_8 : decode cX2_clear 8 = .ok (.if_icmp .ge 16, 3) := by decide +kernel
theorem dX2_clear_11 : decode cX2_clear 11 = .ok (.aload_n 0, 1) := by decide +kernel
theorem dX2_clear_12 : decode cX2_clear 12 = .ok (.getfield 13, 3) := by decide +kernel
theorem dX2_clear_15 : decode cX2_clear 15 = .ok (.iload_n 1, 1) := by decide +kernel
theorem dX2_clear_16 : decode cX2_clear 16 = .ok (.iconst 0, 1) := by decide +kernel
theorem dX2_clear_17 : decode cX2_clear 17 = .ok (.iastore, 1) := by decide +kernel
theorem dX2_clear_18 : decode cX2_clear 18 = .ok (.iinc 1 1, 3) := by decide +kernel
theorem dX2_clear_21 : decode cX2_clear 21 = .ok (.goto (-19), 3) := by decide +kernel
theorem dX2_clear_24 : decode cX2_clear 24 = .ok (.return_, 1) := by decide +kernel
set_option maxRecDepth 20000 in
theorem ggX2_copyFrom_X2_at : GoodIn wsX2_copyFrom wsX2_at := goodIn_r _ [6, 1, 7] (by decide +kernel) (by decide +kernel)
set_option maxRecDepth 20000 in
theorem gX2_copyFrom_X2_at : GoodIn wsX2_copyFrom (wsV RX2 19 RX2 yX2_at wsX2_at) := goodIn_app (goodIn_of _ (by decide +kernel)) ggX2_copyFrom_X2_at
theorem dX2_copyFrom_0 : decode cX2_copyFrom 0 = .ok (.iconst 0, 1) := by decide +kernel
theorem dX2_copyFrom_1 : decode cX2_copyFrom 1 = .ok (.istore_n 2, 1) := by decide +kernel
theorem dX2_copyFrom_2 : decode cX2_copyFrom 2 = .ok (.iload_n 2, 1) := by decide +kernel
theorem dX2_copyFrom_3 : decode cX2_copyFrom 3 = .ok (.aload_n 0, 1) := by decide +kernel
theorem dX2_copyFrom_4 : decode cX2_copyFrom 4 = .ok (.getfield 13, 3) := by decide +kernel
theorem dX2_copyFrom_7 : decode cX2_copyFrom 7 = .ok (.arraylength, 1) := by decide +kernel
theorem dX2_copyFrom_8 : decode cX2_copyFrom 8 = .ok (.if_icmp .ge 20, 3) := by decide +kernel
theorem dX2_copyFrom_11 : decode cX2_copyFrom 11 = .ok (.aload_n 0, 1) := by decide +kernel
theorem dX2_copyFrom_12 : decode cX2_copyFrom 12 = .ok (.getfield 13, 3) := by decide +kernel
theorem dX2_copyFrom_15 : decode cX2_copyFrom 15 = .ok (.iload_n 2, 1) := by decide +kernel
theorem dX2_copyFrom_16 : decode cX2_copyFrom 16 = .ok (.aload_n 1, 1) := by decide +kernel
theorem dX2_copyFrom_17 : decode cX2_copyFrom 17 = .ok (.iload_n 2, 1) := by decide +kernel
theorem dX2_copyFrom_18 : decode cX2_copyFrom 18 = .ok (.invokevirtual 19, 3) := by decide +kernel
theorem dX2_copyFrom_21 : decode cX2_copyFrom 21 = .ok (.iastore, 1) := by decide +kernel
theorem dX2_copyFrom_22 : decode cX2_copyFrom 22 = .ok (.iinc 2 1, 3) := by decide +kernel
theorem dX2_copyFrom_25 : decode cX2_copyFrom 25 = .ok (.goto (-23), 3) := by decide +kernel
theorem dX2_copyFrom_28 : decode cX2_copyFrom 28 = .ok (.return_, 1) := by decide +kernel
set_option maxRecDepth 20000 in
theorem ggX3_init_X2_init : GoodIn wsX3_init wsX2_init := goodIn_r _ [10, 11, 2, 3, 12, 13, 14, 15, 16, 17, 18] (by decide +kernel) (by decide +kernel)
set_option maxRecDepth 20000 in
theorem gX3_init_X2_init : GoodIn wsX3_init (wsX2_init) := ggX3_init_X2_init
theorem dX3_init_0 : decode cX3_init 0 = .ok (.aload_n 0, 1) := by decide +kernel
theorem dX3_init_1 : decode cX3_init 1 = .ok (.invokespecial 3, 3) := by decide +kernel
theorem dX3_init_4 : decode cX3_init 4 = .ok (.aload_n 0, 1) := by decide +kernel
theorem dX3_init_5 : decode cX3_init 5 = .ok (.new 9, 3) := by decide +kernel
theorem dX3_init_8 : decode cX3_init 8 = .ok (.dup, 1) := by decide +kernel
theorem dX3_init_9 : decode cX3_init 9 = .ok (.bipush 60, 2) := by decide +kernel
theorem dX3_init_11 : decode cX3_init 11 = .ok (.invokespecial 11, 3) := by decide +kernel
theorem dX3_init_14 : decode cX3_init 14 = .ok (.putfield 14, 3) := by decide +kernel
theorem dX3_init_17 : decode cX3_init 17 = .ok (.return_, 1) := by decide +kernel
set_option maxRecDepth 20000 in
theorem ggX3_append_X2_put : GoodIn wsX3_append wsX2_put := goodIn_r _ [7, 8, 15] (by decide +kernel) (by decide +kernel)
set_option maxRecDepth 20000 in
theorem gX3_append_X2_put : GoodIn wsX3_append (wsV RX3 24 RX2 yX2_put wsX2_put) := goodIn_app (goodIn_of _ (by decide +kernel)) ggX3_append_X2_put
theorem dX3_append_0 : decode cX3_append 0 = .ok (.aload_n 0, 1) := by decide +kernel
theorem dX3_append_1 : decode cX3_append 1 = .ok (.getfield 20, 3) := by decide +kernel
theorem dX3_append_4 : decode cX3_append 4 = .ok (.bipush 60, 2) := by decide +kernel
theorem dX3_append_6 : decode cX3_append 6 = .ok (.if_icmp .lt 5, 3) := by decide +kernel
theorem dX3_append_9 : decode cX3_append 9 = .ok (.iconst 0, 1) := by decide +kernel
theorem dX3_append_10 : decode cX3_append 10 = .ok (.ireturn, 1) := by decide +kernel
theorem dX3_append_11 : decode cX3_append 11 = .ok (.aload_n 0, 1) := by decide +kernel
theorem dX3_append_12 : decode cX3_append 12 = .ok (.getfield 14, 3) := by decide +kernel
theorem dX3_append_15 : decode cX3_append 15 = .ok (.aload_n 0, 1) := by decide +kernel
theorem dX3_append_16 : decode cX3_append 16 = .ok (.getfield 20, 3) := by decide +kernel
theorem dX3_append_19 : decode cX3_append 19 = .ok (.iload_n 1, 1) := by decide +kernel
theorem dX3_append_20 : decode cX3_append 20 = .ok (.invokevirtual 24, 3) := by decide +kernel
theorem dX3_append_23 : decode cX3_append 23 = .ok (.aload_n 0, 1) := by decide +kernel
theorem dX3_append_24 : decode cX3_append 24 = .ok (.dup, 1) := by decide +kernel
theorem dX3_append_25 : decode cX3_append 25 = .ok (.getfield 20, 3) := by decide +kernel
theorem dX3_append_28 : decode cX3_append 28 = .ok (.iconst 1, 1) := by decide +kernel
theorem dX3_append_29 : decode cX3_append 29 = .ok (.iadd, 1) := by decide +kernel
theorem dX3_append_30 : decode cX3_append 30 = .ok (.putfield 20, 3) := by decide +kernel
theorem dX3_append_33 : decode cX3_append 33 = .ok (.iconst 1, 1) := by decide +kernel
theorem dX3_append_34 : decode cX3_append 34 = .ok (.ireturn, 1) := by decide +kernel
set_option maxRecDepth 20000 in
theorem ggX3_findFault_X3_readItem : GoodIn wsX3_findFault wsX3_readItem := goodIn_r _ [8, 2, 9, 10, 3, 11, 12, 13, 7, 14, 1, 15, 16, 17, 18, 19, 20, 21, 22, 23, 24, 25, 26, 27, 28, 29, 30, 31, 32, 33, 34, 35, 36, 37, 38, 39, 40, 41, 42] (by decide +kernel) (by decide +kernel)
set_option maxRecDepth 20000 in
theorem gX3_findFault_X3_readItem : GoodIn wsX3_findFault (wsV RX3 31 RX3 yX3_readItem wsX3_readItem) := goodIn_app (goodIn_of _ (by decide +kernel)) ggX3_findFault_X3_readItem
theorem dX3_findFault_0 : decode cX3_findFault 0 = .ok (.aload_n 0, 1) := by decide +kernel
theorem dX3_findFault_1 : decode cX3_findFault 1 = .ok (.getfield 20, 3) := by decide +kernel
theorem dX3_findFault_4 : decode cX3_findFault 4 = .ok (.ifCond .ne 5, 3) := by decide +kernel
theorem dX3_findFault_7 : decode cX3_findFault 7 = .ok (.iconst 0, 1) := by decide +kernel
theorem dX3_findFault_8 : decode cX3_findFault 8 = .ok (.ireturn, 1) := by decide +kernel
theorem dX3_findFault_9 : decode cX3_findFault 9 = .ok (.iconst (-1), 1) := by decide +kernel
theorem dX3_findFault_10 : decode cX3_findFault 10 = .ok (.istore_n 1, 1) := by decide +kernel
theorem dX3_findFault_11 : decode cX3_findFault 11 = .ok (.iconst 0, 1) := by decide +kernel
theorem dX3_findFault_12 : decode cX3_findFault 12 = .ok (.istore_n 2, 1) := by decide +kernel
theorem dX3_findFault_13 : decode cX3_findFault 13 = .ok (.aload_n 0, 1) := by decide +kernel
theorem dX3_findFault_14 : decode cX3_findFault 14 = .ok (.iconst 0, 1) := by decide +kernel
theorem dX3_findFault_15 : decode cX3_findFault 15 = .ok (.putfield 28, 3) := by decide +kernel
theorem dX3_findFault_18 : decode cX3_findFault 18 = .ok (.iconst 0, 1) := by decide +kernel
theorem dX3_findFault_19 : decode cX3_findFault 19 = .ok (.istore_n 3, 1) := by decide +kernel
theorem dX3_findFault_20 : decode cX3_findFault 20 = .ok (.iload_n 3, 1) := by decide +kernel
theorem dX3_findFault_21 : decode cX3_findFault 21 = .ok (.bipush 60, 2) := by decide +kernel
theorem dX3_findFault_23 : decode cX3_findFault 23 = .ok (.if_icmp .ge 58, 3) := by decide +kernel
theorem dX3_findFault_26 : decode cX3_findFault 26 = .ok (.aload_n 0, 1) := by decide +kernel
theorem dX3_findFault_27 : decode cX3_findFault 27 = .ok (.getfield 28, 3) := by decide +kernel
theorem dX3_findFault_30 : decode cX3_findFault 30 = .ok (.aload_n 0, 1) := by decide +kernel
theorem dX3_findFault_31 : decode cX3_findFault 31 = .ok (.getfield 20, 3) := by decide +kernel
theorem dX3_findFault_34 : decode cX3_findFault 34 = .ok (.if_icmp .ge 47, 3) := by decide +kernel
theorem dX3_findFault_37 : decode cX3_findFault 37 = .ok (.aload_n 0, 1) := by decide +kernel
theorem dX3_findFault_38 : decode cX3_findFault 38 = .ok (.getfield 28, 3) := by decide +kernel
theorem dX3_findFault_41 : decode cX3_findFault 41 = .ok (.istore 4, 2) := by decide +kernel
theorem dX3_findFault_43 : decode cX3_findFault 43 = .ok (.aload_n 0, 1) := by decide +kernel
theorem dX3_findFault_44 : decode cX3_findFault 44 = .ok (.invokevirtual 31, 3) := by decide +kernel
theorem dX3_findFault_47 : decode cX3_findFault 47 = .ok (.ifCond .ne 8, 3) := by decide +kernel
theorem dX3_findFault_50 : decode cX3_findFault 50 = .ok (.aload_n 0, 1) := by decide +kernel
theorem dX3_findFault_51 : decode cX3_findFault 51 = .ok (.getfield 28, 3) := by decide +kernel
theorem dX3_findFault_54 : decode cX3_findFault 54 = .ok (.ireturn, 1) := by decide +kernel
theorem dX3_findFault_55 : decode cX3_findFault 55 = .ok (.iload_n 2, 1) := by decide +kernel
theorem dX3_findFault_56 : decode cX3_findFault 56 = .ok (.aload_n 0, 1) := by decide +kernel
theorem dX3_findFault_57 : decode cX3_findFault 57 = .ok (.getfield 35, 3) := by decide +kernel
theorem dX3_findFault_60 : decode cX3_findFault 60 = .ok (.iadd, 1) := by decide +kernel
theorem dX3_findFault_61 : decode cX3_findFault 61 = .ok (.istore_n 2, 1) := by decide +kernel
theorem dX3_findFault_62 : decode cX3_findFault 62 = .ok (.iload_n 2, 1) := by decide +kernel
theorem dX3_findFault_63 : decode cX3_findFault 63 = .ok (.bipush 96, 2) := by decide +kernel
theorem dX3_findFault_65 : decode cX3_findFault 65 = .ok (.if_icmp .le 10, 3) := by decide +kernel
theorem dX3_findFault_68 : decode cX3_findFault 68 = .ok (.iload_n 1, 1) := by decide +kernel
theorem dX3_findFault_69 : decode cX3_findFault 69 = .ok (.ifCond .ge 6, 3) := by decide +kernel
theorem dX3_findFault_72 : decode cX3_findFault 72 = .ok (.iload 4, 2) := by decide +kernel
theorem dX3_findFault_74 : decode cX3_findFault 74 = .ok (.istore_n 1, 1) := by decide +kernel
theorem dX3_findFault_75 : decode cX3_findFault 75 = .ok (.iinc 3 1, 3) := by decide +kernel
theorem dX3_findFault_78 : decode cX3_findFault 78 = .ok (.goto (-58), 3) := by decide +kernel
theorem dX3_findFault_81 : decode cX3_findFault 81 = .ok (.iload_n 1, 1) := by decide +kernel
theorem dX3_findFault_82 : decode cX3_findFault 82 = .ok (.ireturn, 1) := by decide +kernel
set_option maxRecDepth 20000 in
theorem ggX3_writeTo_X3_readItem : GoodIn wsX3_writeTo wsX3_readItem := goodIn_r _ [10, 1, 3, 4, 5, 11, 12, 13, 9, 14, 2, 15, 16, 17, 18, 19, 20, 21, 22, 23, 24, 25, 26, 27, 28, 29, 30, 31, 32, 33, 34, 35, 48, 49, 50, 51, 52, 53, 54] (by decide +kernel) (by decide +kernel)
set_option maxRecDepth 20000 in
theorem gX3_writeTo_X3_readItem : GoodIn wsX3_writeTo (wsV RX3 31 RX3 yX3_readItem wsX3_readItem) := goodIn_app (goodIn_of _ (by decide +kernel)) ggX3_writeTo_X3_readItem
set_option maxRecDepth 20000 in
theorem ggX3_writeTo_X4_appendBeats : GoodIn wsX3_writeTo wsX4_appendBeats := goodIn_r _ [40, 41, 42, 43, 44, 45, 46, 19, 47, 21, 55, 56, 57, 58, 59, 60, 61, 62, 63, 64, 65, 66, 67, 54] (by decide +kernel) (by decide +kernel)
set_option maxRecDepth 20000 in
theorem gX3_writeTo_X4_appendBeats : GoodIn wsX3_writeTo (wsV RX3 44 RX4 yX4_appendBeats wsX4_appendBeats) := goodIn_app (goodIn_of _ (by decide +kernel)) ggX3_writeTo_X4_appendBeats
theorem dX3_writeTo_0 : decode cX3_writeTo 0 = .ok (.aload_n 0, 1) := by decide +kernel
theorem dX3_writeTo_1 : decode cX3_writeTo 1 = .ok (.iconst 0, 1) := by decide +kernel
theorem dX3_writeTo_2 : decode cX3_writeTo 2 = .ok (.putfield 28, 3) := by decide +kernel
theorem dX3_writeTo_5 : decode cX3_writeTo 5 = .ok (.iconst 0, 1) := by decide +kernel
theorem dX3_writeTo_6 : decode cX3_writeTo 6 = .ok (.istore_n 2, 1) := by decide +kernel
theorem dX3_writeTo_7 : decode cX3_writeTo 7 = .ok (.iload_n 2, 1) := by decide +kernel
theorem dX3_writeTo_8 : decode cX3_writeTo 8 = .ok (.bipush 60, 2) := by decide +kernel
theorem dX3_writeTo_10 : decode cX3_writeTo 10 = .ok (.if_icmp .ge 44, 3) := by decide +kernel
theorem dX3_writeTo_13 : decode cX3_writeTo 13 = .ok (.aload_n 0, 1) := by decide +kernel
theorem dX3_writeTo_14 : decode cX3_writeTo 14 = .ok (.getfield 28, 3) := by decide +kernel
theorem dX3_writeTo_17 : decode cX3_writeTo 17 = .ok (.aload_n 0, 1) := by decide +kernel
theorem dX3_writeTo_18 : decode cX3_writeTo 18 = .ok (.getfield 20, 3) := by decide +kernel
theorem dX3_writeTo_21 : decode cX3_writeTo 21 = .ok (.if_icmp .ge 33, 3) := by decide +kernel
theorem dX3_writeTo_24 : decode cX3_writeTo 24 = .ok (.aload_n 0, 1) := by decide +kernel
theorem dX3_writeTo_25 : decode cX3_writeTo 25 = .ok (.invokevirtual 31, 3) := by decide +kernel
theorem dX3_writeTo_28 : decode cX3_writeTo 28 = .ok (.ifCond .ne 4, 3) := by decide +kernel
theorem dX3_writeTo_31 : decode cX3_writeTo 31 = .ok (.return_, 1) := by decide +kernel
theorem dX3_writeTo_32 : decode cX3_writeTo 32 = .ok (.aload_n 1, 1) := by decide +kernel
theorem dX3_writeTo_33 : decode cX3_writeTo 33 = .ok (.aload_n 0, 1) := by decide +kernel
theorem dX3_writeTo_34 : decode cX3_writeTo 34 = .ok (.getfield 38, 3) := by decide +kernel
theorem dX3_writeTo_37 : decode cX3_writeTo 37 = .ok (.aload_n 0, 1) := by decide +kernel
theorem dX3_writeTo_38 : decode cX3_writeTo 38 = .ok (.getfield 41, 3) := by decide +kernel
theorem dX3_writeTo_41 : decode cX3_writeTo 41 = .ok (.aload_n 0, 1) := by decide +kernel
theorem dX3_writeTo_42 : decode cX3_writeTo 42 = .ok (.getfield 35, 3) := by decide +kernel
theorem dX3_writeTo_45 : decode cX3_writeTo 45 = .ok (.invokevirtual 44, 3) := by decide +kernel
theorem dX3_writeTo_48 : decode cX3_writeTo 48 = .ok (.iinc 2 1, 3) := by decide +kernel
theorem dX3_writeTo_51 : decode cX3_writeTo 51 = .ok (.goto (-44), 3) := by decide +kernel
theorem dX3_writeTo_54 : decode cX3_writeTo 54 = .ok (.return_, 1) := by decide +kernel
set_option maxRecDepth 20000 in
theorem ggX3_readItem_X3_signAt : GoodIn wsX3_readItem wsX3_signAt := goodIn_r _ [9, 10, 11, 12, 13, 14, 15, 16, 17, 32, 33, 34, 35, 36, 37, 38] (by decide +kernel) (by decide +kernel)
set_option maxRecDepth 20000 in
theorem gX3_readItem_X3_signAt : GoodIn wsX3_readItem (wsV RX3 50 RX3 yX3_signAt wsX3_signAt) := goodIn_app (goodIn_of _ (by decide +kernel)) ggX3_readItem_X3_signAt
set_option maxRecDepth 20000 in
theorem ggX3_readItem_X3_sortOf : GoodIn wsX3_readItem wsX3_sortOf := goodIn_r _ [20] (by decide +kernel) (by decide +kernel)
set_option maxRecDepth 20000 in
theorem gX3_readItem_X3_sortOf : GoodIn wsX3_readItem (va_wsS RX3 54 yX3_sortOf wsX3_sortOf) := goodIn_app (goodIn_of _ (by decide +kernel)) ggX3_readItem_X3_sortOf
set_option maxRecDepth 20000 in
theorem ggX3_readItem_X3_digitAt : GoodIn wsX3_readItem wsX3_digitAt := goodIn_r _ [24, 5, 6, 7, 8, 9, 10, 11, 12, 13, 14, 15, 16, 17, 25, 26, 27, 32, 33, 34, 35, 36, 37, 38] (by decide +kernel) (by decide +kernel)
set_option maxRecDepth 20000 in
theorem gX3_readItem_X3_digitAt : GoodIn wsX3_readItem (wsV RX3 57 RX3 yX3_digitAt wsX3_digitAt) := goodIn_app (goodIn_of _ (by decide +kernel)) ggX3_readItem_X3_digitAt
set_option maxRecDepth 20000 in
theorem ggX3_readItem_X7_isWithin : GoodIn wsX3_readItem wsX7_isWithin := goodIn_r _ [27] (by decide +kernel) (by decide +kernel)
set_option maxRecDepth 20000 in
theorem gX3_readItem_X7_isWithin_n60 : GoodIn wsX3_readItem (wsX7_isWithin) := ggX3_readItem_X7_isWithin
set_option maxRecDepth 20000 in
theorem ggX3_readItem_X3_readTimes : GoodIn wsX3_readItem wsX3_readTimes := goodIn_r _ [31, 1, 4, 21, 22, 23, 8, 24, 5, 6, 7, 9, 10, 11, 12, 13, 14, 15, 16, 17, 25, 26, 27, 32, 33, 34, 35, 36, 37, 38] (by decide +kernel) (by decide +kernel)
set_option maxRecDepth 20000 in
theorem gX3_readItem_X3_readTimes : GoodIn wsX3_readItem (wsV RX3 64 RX3 yX3_readTimes wsX3_readTimes) := goodIn_app (goodIn_of _ (by decide +kernel)) ggX3_readItem_X3_readTimes
theorem dX3_readItem_0 : decode cX3_readItem 0 = .ok (.aload_n 0, 1) := by decide +kernel
theorem dX3_readItem_1 : decode cX3_readItem 1 = .ok (.aload_n 0, 1) := by decide +kernel
theorem dX3_readItem_2 : decode cX3_readItem 2 = .ok (.aload_n 0, 1) := by decide +kernel
theorem dX3_readItem_3 : decode cX3_readItem 3 = .ok (.getfield 28, 3) := by decide +kernel
theorem dX3_readItem_6 : decode cX3_readItem 6 = .ok (.invokevirtual 50, 3) := by decide +kernel
theorem dX3_readItem_9 : decode cX3_readItem 9 = .ok (.invokestatic 54, 3) := by decide +kernel
theorem dX3_readItem_12 : decode cX3_readItem 12 = .ok (.putfield 38, 3) := by decide +kernel
theorem dX3_readItem_15 : decode cX3_readItem 15 = .ok (.aload_n 0, 1) := by decide +kernel
theorem dX3_readItem_16 : decode cX3_readItem 16 = .ok (.getfield 38, 3) := by decide +kernel
theorem dX3_readItem_19 : decode cX3_readItem 19 = .ok (.ifCond .ge 5, 3) := by decide +kernel
theorem dX3_readItem_22 : decode cX3_readItem 22 = .ok (.iconst 0, 1) := by decide +kernel
theorem dX3_readItem_23 : decode cX3_readItem 23 = .ok (.ireturn, 1) := by decide +kernel
theorem dX3_readItem_24 : decode cX3_readItem 24 = .ok (.aload_n 0, 1) := by decide +kernel
theorem dX3_readItem_25 : decode cX3_readItem 25 = .ok (.dup, 1) := by decide +kernel
theorem dX3_readItem_26 : decode cX3_readItem 26 = .ok (.getfield 28, 3) := by decide +kernel
theorem dX3_readItem_29 : decode cX3_readItem 29 = .ok (.iconst 1, 1) := by decide +kernel
theorem dX3_readItem_30 : decode cX3_readItem 30 = .ok (.iadd, 1) := by decide +kernel
theorem dX3_readItem_31 : decode cX3_readItem 31 = .ok (.putfield 28, 3) := by decide +kernel
theorem dX3_readItem_34 : decode cX3_readItem 34 = .ok (.aload_n 0, 1) := by decide +kernel
theorem dX3_readItem_35 : decode cX3_readItem 35 = .ok (.iconst 2, 1) := by decide +kernel
theorem dX3_readItem_36 : decode cX3_readItem 36 = .ok (.putfield 41, 3) := by decide +kernel
theorem dX3_readItem_39 : decode cX3_readItem 39 = .ok (.aload_n 0, 1) := by decide +kernel
theorem dX3_readItem_40 : decode cX3_readItem 40 = .ok (.aload_n 0, 1) := by decide +kernel
theorem dX3_readItem_41 : decode cX3_readItem 41 = .ok (.getfield 28, 3) := by decide +kernel
theorem dX3_readItem_44 : decode cX3_readItem 44 = .ok (.invokevirtual 57, 3) := by decide +kernel
theorem dX3_readItem_47 : decode cX3_readItem 47 = .ok (.istore_n 1, 1) := by decide +kernel
theorem dX3_readItem_48 : decode cX3_readItem 48 = .ok (.aload_n 0, 1) := by decide +kernel
theorem dX3_readItem_49 : decode cX3_readItem 49 = .ok (.getfield 38, 3) := by decide +kernel
theorem dX3_readItem_52 : decode cX3_readItem 52 = .ok (.ifCond .eq 27, 3) := by decide +kernel
theorem dX3_readItem_55 : decode cX3_readItem 55 = .ok (.iload_n 1, 1) := by decide +kernel
theorem dX3_readItem_56 : decode cX3_readItem 56 = .ok (.iconst 1, 1) := by decide +kernel
theorem dX3_readItem_57 : decode cX3_readItem 57 = .ok (.iconst 5, 1) := by decide +kernel
theorem dX3_readItem_58 : decode cX3_readItem 58 = .ok (.invokestatic 60, 3) := by decide +kernel
theorem dX3_readItem_61 : decode cX3_readItem 61 = .ok (.ifCond .eq 18, 3) := by decide +kernel
theorem dX3_readItem_64 : decode cX3_readItem 64 = .ok (.aload_n 0, 1) := by decide +kernel
theorem dX3_readItem_65 : decode cX3_readItem 65 = .ok (.iload_n 1, 1) := by decide +kernel
theorem dX3_readItem_66 : decode cX3_readItem 66 = .ok (.putfield 41, 3) := by decide +kernel
theorem dX3_readItem_69 : decode cX3_readItem 69 = .ok (.aload_n 0, 1) := by decide +kernel
theorem dX3_readItem_70 : decode cX3_readItem 70 = .ok (.dup, 1) := by decide +kernel
theorem dX3_readItem_71 : decode cX3_readItem 71 = .ok (.getfield 28, 3) := by decide +kernel
theorem dX3_readItem_74 : decode cX3_readItem 74 = .ok (.iconst 1, 1) := by decide +kernel
theorem dX3_readItem_75 : decode cX3_readItem 75 = .ok (.iadd, 1) := by decide +kernel
theorem dX3_readItem_76 : decode cX3_readItem 76 = .ok (.putfield 28, 3) := by decide +kernel
theorem dX3_readItem_79 : decode cX3_readItem 79 = .ok (.aload_n 0, 1) := by decide +kernel
theorem dX3_readItem_80 : decode cX3_readItem 80 = .ok (.iconst 1, 1) := by decide +kernel
theorem dX3_readItem_81 : decode cX3_readItem 81 = .ok (.putfield 35, 3) := by decide +kernel
theorem dX3_readItem_84 : decode cX3_readItem 84 = .ok (.aload_n 0, 1) := by decide +kernel
theorem dX3_readItem_85 : decode cX3_readItem 85 = .ok (.aload_n 0, 1) := by decide +kernel
theorem dX3_readItem_86 : decode cX3_readItem 86 = .ok (.getfield 28, 3) := by decide +kernel
theorem dX3_readItem_89 : decode cX3_readItem 89 = .ok (.invokevirtual 50, 3) := by decide +kernel
theorem dX3_readItem_92 : decode cX3_readItem 92 = .ok (.bipush 120, 2) := by decide +kernel
theorem dX3_readItem_94 : decode cX3_readItem 94 = .ok (.if_icmp .eq 5, 3) := by decide +kernel
theorem dX3_readItem_97 : decode cX3_readItem 97 = .ok (.iconst 1, 1) := by decide +kernel
theorem dX3_readItem_98 : decode cX3_readItem 98 = .ok (.ireturn, 1) := by decide +kernel
theorem dX3_readItem_99 : decode cX3_readItem 99 = .ok (.aload_n 0, 1) := by decide +kernel
theorem dX3_readItem_100 : decode cX3_readItem 100 = .ok (.dup, 1) := by decide +kernel
theorem dX3_readItem_101 : decode cX3_readItem 101 = .ok (.getfield 28, 3) := by decide +kernel
theorem dX3_readItem_104 : decode cX3_readItem 104 = .ok (.iconst 1, 1) := by decide +kernel
theorem dX3_readItem_105 : decode cX3_readItem 105 = .ok (.iadd, 1) := by decide +kernel
theorem dX3_readItem_106 : decode cX3_readItem 106 = .ok (.putfield 28, 3) := by decide +kernel
theorem dX3_readItem_109 : decode cX3_readItem 109 = .ok (.aload_n 0, 1) := by decide +kernel
theorem dX3_readItem_110 : decode cX3_readItem 110 = .ok (.invokevirtual 64, 3) := by decide +kernel
theorem dX3_readItem_113 : decode cX3_readItem 113 = .ok (.ireturn, 1) := by decide +kernel
set_option maxRecDepth 20000 in
theorem ggX3_readTimes_X3_digitAt : GoodIn wsX3_readTimes wsX3_digitAt := goodIn_r _ [7, 8, 9, 10, 6, 11, 12, 13, 14, 15, 16, 17, 18, 19, 20, 21, 22, 23, 24, 25, 26, 27, 28, 29] (by decide +kernel) (by decide +kernel)
set_option maxRecDepth 20000 in
theorem gX3_readTimes_X3_digitAt : GoodIn wsX3_readTimes (wsV RX3 57 RX3 yX3_digitAt wsX3_digitAt) := goodIn_app (goodIn_of _ (by decide +kernel)) ggX3_readTimes_X3_digitAt
theorem dX3_readTimes_0 : decode cX3_readTimes 0 = .ok (.aload_n 0, 1) := by decide +kernel
theorem dX3_readTimes_1 : decode cX3_readTimes 1 = .ok (.aload_n 0, 1) := by decide +kernel
theorem dX3_readTimes_2 : decode cX3_readTimes 2 = .ok (.getfield 28, 3) := by decide +kernel
theorem dX3_readTimes_5 : decode cX3_readTimes 5 = .ok (.invokevirtual 57, 3) := by decide +kernel
theorem dX3_readTimes_8 : decode cX3_readTimes 8 = .ok (.istore_n 1, 1) := by decide +kernel
theorem dX3_readTimes_9 : decode cX3_readTimes 9 = .ok (.iload_n 1, 1) := by decide +kernel
theorem dX3_readTimes_10 : decode cX3_readTimes 10 = .ok (.iconst 1, 1) := by decide +kernel
theorem dX3_readTimes_11 : decode cX3_readTimes 11 = .ok (.if_icmp .ge 5, 3) := by decide +kernel
theorem dX3_readTimes_14 : decode cX3_readTimes 14 = .ok (.iconst 0, 1) := by decide +kernel
theorem dX3_readTimes_15 : decode cX3_readTimes 15 = .ok (.ireturn, 1) := by decide +kernel
theorem dX3_readTimes_16 : decode cX3_readTimes 16 = .ok (.aload_n 0, 1) := by decide +kernel
theorem dX3_readTimes_17 : decode cX3_readTimes 17 = .ok (.iload_n 1, 1) := by decide +kernel
theorem dX3_readTimes_18 : decode cX3_readTimes 18 = .ok (.putfield 35, 3) := by decide +kernel
theorem dX3_readTimes_21 : decode cX3_readTimes 21 = .ok (.aload_n 0, 1) := by decide +kernel
theorem dX3_readTimes_22 : decode cX3_readTimes 22 = .ok (.dup, 1) := by decide +kernel
theorem dX3_readTimes_23 : decode cX3_readTimes 23 = .ok (.getfield 28, 3) := by decide +kernel
theorem dX3_readTimes_26 : decode cX3_readTimes 26 = .ok (.iconst 1, 1) := by decide +kernel
theorem dX3_readTimes_27 : decode cX3_readTimes 27 = .ok (.iadd, 1) := by decide +kernel
theorem dX3_readTimes_28 : decode cX3_readTimes 28 = .ok (.putfield 28, 3) := by decide +kernel
theorem dX3_readTimes_31 : decode cX3_readTimes 31 = .ok (.aload_n 0, 1) := by decide +kernel
theorem dX3_readTimes_32 : decode cX3_readTimes 32 = .ok (.aload_n 0, 1) := by decide +kernel
theorem dX3_readTimes_33 : decode cX3_readTimes 33 = .ok (.getfield 28, 3) := by decide +kernel
theorem dX3_readTimes_36 : decode cX3_readTimes 36 = .ok (.invokevirtual 57, 3) := by decide +kernel
theorem dX3_readTimes_39 : decode cX3_readTimes 39 = .ok (.istore_n 2, 1) := by decide +kernel
theorem dX3_readTimes_40 : decode cX3_readTimes 40 = .ok (.iload_n 2, 1) := by decide +kernel
theorem dX3_readTimes_41 : decode cX3_readTimes 41 = .ok (.ifCond .ge 14, 3) := by decide +kernel
theorem dX3_readTimes_44 : decode cX3_readTimes 44 = .ok (.iload_n 1, 1) := by decide +kernel
theorem dX3_readTimes_45 : decode cX3_readTimes 45 = .ok (.iconst 1, 1) := by decide +kernel
theorem dX3_readTimes_46 : decode cX3_readTimes 46 = .ok (.if_icmp .eq 7, 3) := by decide +kernel
theorem dX3_readTimes_49 : decode cX3_readTimes 49 = .ok (.iconst 1, 1) := by decide +kernel
theorem dX3_readTimes_50 : decode cX3_readTimes 50 = .ok (.goto 4, 3) := by decide +kernel
theorem dX3_readTimes_53 : decode cX3_readTimes 53 = .ok (.iconst 0, 1) := by decide +kernel
theorem dX3_readTimes_54 : decode cX3_readTimes 54 = .ok (.ireturn, 1) := by decide +kernel
theorem dX3_readTimes_55 : decode cX3_readTimes 55 = .ok (.aload_n 0, 1) := by decide +kernel
theorem dX3_readTimes_56 : decode cX3_readTimes 56 = .ok (.iload_n 1, 1) := by decide +kernel
theorem dX3_readTimes_57 : decode cX3_readTimes 57 = .ok (.bipush 10, 2) := by decide +kernel
theorem dX3_readTimes_59 : decode cX3_readTimes 59 = .ok (.imul, 1) := by decide +kernel
theorem dX3_readTimes_60 : decode cX3_readTimes 60 = .ok (.iload_n 2, 1) := by decide +kernel
theorem dX3_readTimes_61 : decode cX3_readTimes 61 = .ok (.iadd, 1) := by decide +kernel
theorem dX3_readTimes_62 : decode cX3_readTimes 62 = .ok (.putfield 35, 3) := by decide +kernel
theorem dX3_readTimes_65 : decode cX3_readTimes 65 = .ok (.aload_n 0, 1) := by decide +kernel
theorem dX3_readTimes_66 : decode cX3_readTimes 66 = .ok (.getfield 35, 3) := by decide +kernel
theorem dX3_readTimes_69 : decode cX3_readTimes 69 = .ok (.bipush 96, 2) := by decide +kernel
theorem dX3_readTimes_71 : decode cX3_readTimes 71 = .ok (.if_icmp .le 5, 3) := by decide +kernel
theorem dX3_readTimes_74 : decode cX3_readTimes 74 = .ok (.iconst 0, 1) := by decide +kernel
theorem dX3_readTimes_75 : decode cX3_readTimes 75 = .ok (.ireturn, 1) := by decide +kernel
theorem dX3_readTimes_76 : decode cX3_readTimes 76 = .ok (.aload_n 0, 1) := by decide +kernel
theorem dX3_readTimes_77 : decode cX3_readTimes 77 = .ok (.dup, 1) := by decide +kernel
theorem dX3_readTimes_78 : decode cX3_readTimes 78 = .ok (.getfield 28, 3) := by decide +kernel
theorem dX3_readTimes_81 : decode cX3_readTimes 81 = .ok (.iconst 1, 1) := by decide +kernel
theorem dX3_readTimes_82 : decode cX3_readTimes 82 = .ok (.iadd, 1) := by decide +kernel
theorem dX3_readTimes_83 : decode cX3_readTimes 83 = .ok (.putfield 28, 3) := by decide +kernel
theorem dX3_readTimes_86 : decode cX3_readTimes 86 = .ok (.iconst 1, 1) := by decide +kernel
theorem dX3_readTimes_87 : decode cX3_readTimes 87 = .ok (.ireturn, 1) := by decide +kernel
set_option maxRecDepth 20000 in
theorem ggX3_signAt_X2_at : GoodIn wsX3_signAt wsX2_at := goodIn_r _ [7, 8, 15] (by decide +kernel) (by decide +kernel)
set_option maxRecDepth 20000 in
theorem gX3_signAt_X2_at : GoodIn wsX3_signAt (wsV RX3 67 RX2 yX2_at wsX2_at) := goodIn_app (goodIn_of _ (by decide +kernel)) ggX3_signAt_X2_at
theorem dX3_signAt_0 : decode cX3_signAt 0 = .ok (.iload_n 1, 1) := by decide +kernel
theorem dX3_signAt_1 : decode cX3_signAt 1 = .ok (.aload_n 0, 1) := by decide +kernel
theorem dX3_signAt_2 : decode cX3_signAt 2 = .ok (.getfield 20, 3) := by decide +kernel
theorem dX3_signAt_5 : decode cX3_signAt 5 = .ok (.if_icmp .ge 14, 3) := by decide +kernel
theorem dX3_signAt_8 : decode cX3_signAt 8 = .ok (.aload_n 0, 1) := by decide +kernel
theorem dX3_signAt_9 : decode cX3_signAt 9 = .ok (.getfield 14, 3) := by decide +kernel
theorem dX3_signAt_12 : decode cX3_signAt 12 = .ok (.iload_n 1, 1) := by decide +kernel
theorem dX3_signAt_13 : decode cX3_signAt 13 = .ok (.invokevirtual 67, 3) := by decide +kernel
theorem dX3_signAt_16 : decode cX3_signAt 16 = .ok (.goto 4, 3) := by decide +kernel
theorem dX3_signAt_19 : decode cX3_signAt 19 = .ok (.iconst (-1), 1) := by decide +kernel
theorem dX3_signAt_20 : decode cX3_signAt 20 = .ok (.ireturn, 1) := by decide +kernel
set_option maxRecDepth 20000 in
theorem ggX3_digitAt_X3_signAt : GoodIn wsX3_digitAt wsX3_signAt := goodIn_r _ [5, 6, 7, 8, 9, 10, 11, 12, 13, 17, 18, 19, 20, 21, 22, 23] (by decide +kernel) (by decide +kernel)
set_option maxRecDepth 20000 in
theorem gX3_digitAt_X3_signAt : GoodIn wsX3_digitAt (wsV RX3 50 RX3 yX3_signAt wsX3_signAt) := goodIn_app (goodIn_of _ (by decide +kernel)) ggX3_digitAt_X3_signAt
set_option maxRecDepth 20000 in
theorem ggX3_digitAt_X7_isWithin : GoodIn wsX3_digitAt wsX7_isWithin := goodIn_r _ [16] (by decide +kernel) (by decide +kernel)
set_option maxRecDepth 20000 in
theorem gX3_digitAt_X7_isWithin_n60 : GoodIn wsX3_digitAt (wsX7_isWithin) := ggX3_digitAt_X7_isWithin
theorem dX3_digitAt_0 : decode cX3_digitAt 0 = .ok (.aload_n 0, 1) := by decide +kernel
theorem dX3_digitAt_1 : decode cX3_digitAt 1 = .ok (.iload_n 1, 1) := by decide +kernel
theorem dX3_digitAt_2 : decode cX3_digitAt 2 = .ok (.invokevirtual 50, 3) := by decide +kernel
theorem dX3_digitAt_5 : decode cX3_digitAt 5 = .ok (.istore_n 2, 1) := by decide +kernel
theorem dX3_digitAt_6 : decode cX3_digitAt 6 = .ok (.iload_n 2, 1) := by decide +kernel
theorem dX3_digitAt_7 : decode cX3_digitAt 7 = .ok (.bipush 48, 2) := by decide +kernel
theorem dX3_digitAt_9 : decode cX3_digitAt 9 = .ok (.bipush 57, 2) := by decide +kernel
theorem dX3_digitAt_11 : decode cX3_digitAt 11 = .ok (.invokestatic 60, 3) := by decide +kernel
theorem dX3_digitAt_14 : decode cX3_digitAt 14 = .ok (.ifCond .eq 10, 3) := by decide +kernel
theorem dX3_digitAt_17 : decode cX3_digitAt 17 = .ok (.iload_n 2, 1) := by decide +kernel
theorem dX3_digitAt_18 : decode cX3_digitAt 18 = .ok (.bipush 48, 2) := by decide +kernel
theorem dX3_digitAt_20 : decode cX3_digitAt 20 = .ok (.isub, 1) := by decide +kernel
theorem dX3_digitAt_21 : decode cX3_digitAt 21 = .ok (.goto 4, 3) := by decide +kernel
theorem dX3_digitAt_24 : decode cX3_digitAt 24 = .ok (.iconst (-1), 1) := by decide +kernel
theorem dX3_digitAt_25 : decode cX3_digitAt 25 = .ok (.ireturn, 1) := by decide +kernel
theorem dX3_sortOf_0 : decode cX3_sortOf 0 = .ok (.iload_n 0, 1) := by decide +kernel
theorem dX3_sortOf_1 : decode cX3_sortOf 1 = .ok (.lookupswitch 41 #[(45, 37), (46, 35), (111, 39)], 35) := by decide +kernel
theorem dX3_sortOf_36 : decode cX3_sortOf 36 = .ok (.iconst 0, 1) := by decide +kernel
theorem dX3_sortOf_37 : decode cX3_sortOf 37 = .ok (.ireturn, 1) := by decide +kernel
theorem dX3_sortOf_38 : decode cX3_sortOf 38 = .ok (.iconst 1, 1) := by decide +kernel
theorem dX3_sortOf_39 : decode cX3_sortOf 39 = .ok (.ireturn, 1) := by decide +kernel
theorem dX3_sortOf_40 : decode cX3_sortOf 40 = .ok (.iconst 2, 1) := by decide +kernel
theorem dX3_sortOf_41 : decode cX3_sortOf 41 = .ok (.ireturn, 1) := by decide +kernel
theorem dX3_sortOf_42 : decode cX3_sortOf 42 = .ok (.iconst (-1), 1) := by decide +kernel
theorem dX3_sortOf_43 : decode cX3_sortOf 43 = .ok (.ireturn, 1) := by decide +kernel
set_option maxRecDepth 20000 in
theorem ggX4_init_X2_init : GoodIn wsX4_init wsX2_init := goodIn_r _ [18, 19, 2, 3, 20, 21, 22, 23, 24, 25, 26] (by decide +kernel) (by decide +kernel)
set_option maxRecDepth 20000 in
theorem gX4_init_X2_init : GoodIn wsX4_init (wsX2_init) := ggX4_init_X2_init
theorem dX4_init_0 : decode cX4_init 0 = .ok (.aload_n 0, 1) := by decide +kernel
theorem dX4_init_1 : decode cX4_init 1 = .ok (.invokespecial 3, 3) := by decide +kernel
theorem dX4_init_4 : decode cX4_init 4 = .ok (.aload_n 0, 1) := by decide +kernel
theorem dX4_init_5 : decode cX4_init 5 = .ok (.new 9, 3) := by decide +kernel
theorem dX4_init_8 : decode cX4_init 8 = .ok (.dup, 1) := by decide +kernel
theorem dX4_init_9 : decode cX4_init 9 = .ok (.bipush 96, 2) := by decide +kernel
theorem dX4_init_11 : decode cX4_init 11 = .ok (.invokespecial 11, 3) := by decide +kernel
theorem dX4_init_14 : decode cX4_init 14 = .ok (.putfield 14, 3) := by decide +kernel
theorem dX4_init_17 : decode cX4_init 17 = .ok (.aload_n 0, 1) := by decide +kernel
theorem dX4_init_18 : decode cX4_init 18 = .ok (.new 9, 3) := by decide +kernel
theorem dX4_init_21 : decode cX4_init 21 = .ok (.dup, 1) := by decide +kernel
theorem dX4_init_22 : decode cX4_init 22 = .ok (.bipush 96, 2) := by decide +kernel
theorem dX4_init_24 : decode cX4_init 24 = .ok (.invokespecial 11, 3) := by decide +kernel
theorem dX4_init_27 : decode cX4_init 27 = .ok (.putfield 20, 3) := by decide +kernel
theorem dX4_init_30 : decode cX4_init 30 = .ok (.aload_n 0, 1) := by decide +kernel
theorem dX4_init_31 : decode cX4_init 31 = .ok (.new 9, 3) := by decide +kernel
theorem dX4_init_34 : decode cX4_init 34 = .ok (.dup, 1) := by decide +kernel
theorem dX4_init_35 : decode cX4_init 35 = .ok (.bipush 96, 2) := by decide +kernel
theorem dX4_init_37 : decode cX4_init 37 = .ok (.invokespecial 11, 3) := by decide +kernel
theorem dX4_init_40 : decode cX4_init 40 = .ok (.putfield 23, 3) := by decide +kernel
theorem dX4_init_43 : decode cX4_init 43 = .ok (.aload_n 0, 1) := by decide +kernel
theorem dX4_init_44 : decode cX4_init 44 = .ok (.new 9, 3) := by decide +kernel
theorem dX4_init_47 : decode cX4_init 47 = .ok (.dup, 1) := by decide +kernel
theorem dX4_init_48 : decode cX4_init 48 = .ok (.bipush 12, 2) := by decide +kernel
theorem dX4_init_50 : decode cX4_init 50 = .ok (.invokespecial 11, 3) := by decide +kernel
theorem dX4_init_53 : decode cX4_init 53 = .ok (.putfield 26, 3) := by decide +kernel
theorem dX4_init_56 : decode cX4_init 56 = .ok (.aload_n 0, 1) := by decide +kernel
theorem dX4_init_57 : decode cX4_init 57 = .ok (.new 9, 3) := by decide +kernel
theorem dX4_init_60 : decode cX4_init 60 = .ok (.dup, 1) := by decide +kernel
theorem dX4_init_61 : decode cX4_init 61 = .ok (.bipush 12, 2) := by decide +kernel
theorem dX4_init_63 : decode cX4_init 63 = .ok (.invokespecial 11, 3) := by decide +kernel
theorem dX4_init_66 : decode cX4_init 66 = .ok (.putfield 29, 3) := by decide +kernel
theorem dX4_init_69 : decode cX4_init 69 = .ok (.aload_n 0, 1) := by decide +kernel
theorem dX4_init_70 : decode cX4_init 70 = .ok (.new 9, 3) := by decide +kernel
theorem dX4_init_73 : decode cX4_init 73 = .ok (.dup, 1) := by decide +kernel
theorem dX4_init_74 : decode cX4_init 74 = .ok (.bipush 8, 2) := by decide +kernel
theorem dX4_init_76 : decode cX4_init 76 = .ok (.invokespecial 11, 3) := by decide +kernel
theorem dX4_init_79 : decode cX4_init 79 = .ok (.putfield 32, 3) := by decide +kernel
theorem dX4_init_82 : decode cX4_init 82 = .ok (.aload_n 0, 1) := by decide +kernel
theorem dX4_init_83 : decode cX4_init 83 = .ok (.new 9, 3) := by decide +kernel
theorem dX4_init_86 : decode cX4_init 86 = .ok (.dup, 1) := by decide +kernel
theorem dX4_init_87 : decode cX4_init 87 = .ok (.bipush 8, 2) := by decide +kernel
theorem dX4_init_89 : decode cX4_init 89 = .ok (.invokespecial 11, 3) := by decide +kernel
theorem dX4_init_92 : decode cX4_init 92 = .ok (.putfield 35, 3) := by decide +kernel
theorem dX4_init_95 : decode cX4_init 95 = .ok (.aload_n 0, 1) := by decide +kernel
theorem dX4_init_96 : decode cX4_init 96 = .ok (.new 9, 3) := by decide +kernel
theorem dX4_init_99 : decode cX4_init 99 = .ok (.dup, 1) := by decide +kernel
theorem dX4_init_100 : decode cX4_init 100 = .ok (.bipush 8, 2) := by decide +kernel
theorem dX4_init_102 : decode cX4_init 102 = .ok (.invokespecial 11, 3) := by decide +kernel
theorem dX4_init_105 : decode cX4_init 105 = .ok (.putfield 38, 3) := by decide +kernel
theorem dX4_init_108 : decode cX4_init 108 = .ok (.aload_n 0, 1) := by decide +kernel
theorem dX4_init_109 : decode cX4_init 109 = .ok (.iconst 2, 1) := by decide +kernel
theorem dX4_init_110 : decode cX4_init 110 = .ok (.putfield 41, 3) := by decide +kernel
theorem dX4_init_113 : decode cX4_init 113 = .ok (.return_, 1) := by decide +kernel
set_option maxRecDepth 20000 in
theorem ggX4_copyFrom_X2_copyFrom : GoodIn wsX4_copyFrom wsX2_copyFrom := goodIn_r _ [18, 19, 20, 21, 22, 17, 23, 37] (by decide +kernel) (by decide +kernel)
set_option maxRecDepth 20000 in
theorem gX4_copyFrom_X2_copyFrom : GoodIn wsX4_copyFrom (wsV RX4 57 RX2 yX2_copyFrom wsX2_copyFrom) := goodIn_app (goodIn_of _ (by decide +kernel)) ggX4_copyFrom_X2_copyFrom
theorem dX4_copyFrom_0 : decode cX4_copyFrom 0 = .ok (.aload_n 0, 1) := by decide +kernel
theorem dX4_copyFrom_1 : decode cX4_copyFrom 1 = .ok (.aload_n 1, 1) := by decide +kernel
theorem dX4_copyFrom_2 : decode cX4_copyFrom 2 = .ok (.getfield 45, 3) := by decide +kernel
theorem dX4_copyFrom_5 : decode cX4_copyFrom 5 = .ok (.putfield 45, 3) := by decide +kernel
theorem dX4_copyFrom_8 : decode cX4_copyFrom 8 = .ok (.aload_n 0, 1) := by decide +kernel
theorem dX4_copyFrom_9 : decode cX4_copyFrom 9 = .ok (.aload_n 1, 1) := by decide +kernel
theorem dX4_copyFrom_10 : decode cX4_copyFrom 10 = .ok (.getfield 48, 3) := by decide +kernel
theorem dX4_copyFrom_13 : decode cX4_copyFrom 13 = .ok (.putfield 48, 3) := by decide +kernel
theorem dX4_copyFrom_16 : decode cX4_copyFrom 16 = .ok (.aload_n 0, 1) := by decide +kernel
theorem dX4_copyFrom_17 : decode cX4_copyFrom 17 = .ok (.aload_n 1, 1) := by decide +kernel
theorem dX4_copyFrom_18 : decode cX4_copyFrom 18 = .ok (.getfield 51, 3) := by decide +kernel
theorem dX4_copyFrom_21 : decode cX4_copyFrom 21 = .ok (.putfield 51, 3) := by decide +kernel
theorem dX4_copyFrom_24 : decode cX4_copyFrom 24 = .ok (.aload_n 0, 1) := by decide +kernel
theorem dX4_copyFrom_25 : decode cX4_copyFrom 25 = .ok (.aload_n 1, 1) := by decide +kernel
theorem dX4_copyFrom_26 : decode cX4_copyFrom 26 = .ok (.getfield 54, 3) := by decide +kernel
theorem dX4_copyFrom_29 : decode cX4_copyFrom 29 = .ok (.putfield 54, 3) := by decide +kernel
theorem dX4_copyFrom_32 : decode cX4_copyFrom 32 = .ok (.aload_n 0, 1) := by decide +kernel
theorem dX4_copyFrom_33 : decode cX4_copyFrom 33 = .ok (.aload_n 1, 1) := by decide +kernel
theorem dX4_copyFrom_34 : decode cX4_copyFrom 34 = .ok (.getfield 41, 3) := by decide +kernel
theorem dX4_copyFrom_37 : decode cX4_copyFrom 37 = .ok (.putfield 41, 3) := by decide +kernel
theorem dX4_copyFrom_40 : decode cX4_copyFrom 40 = .ok (.aload_n 0, 1) := by decide +kernel
theorem dX4_copyFrom_41 : decode cX4_copyFrom 41 = .ok (.getfield 14, 3) := by decide +kernel
theorem dX4_copyFrom_44 : decode cX4_copyFrom 44 = .ok (.aload_n 1, 1) := by decide +kernel
theorem dX4_copyFrom_45 : decode cX4_copyFrom 45 = .ok (.getfield 14, 3) := by decide +kernel
theorem dX4_copyFrom_48 : decode cX4_copyFrom 48 = .ok (.invokevirtual 57, 3) := by decide +kernel
theorem dX4_copyFrom_51 : decode cX4_copyFrom 51 = .ok (.aload_n 0, 1) := by decide +kernel
theorem dX4_copyFrom_52 : decode cX4_copyFrom 52 = .ok (.getfield 20, 3) := by decide +kernel
theorem dX4_copyFrom_55 : decode cX4_copyFrom 55 = .ok (.aload_n 1, 1) := by decide +kernel
theorem dX4_copyFrom_56 : decode cX4_copyFrom 56 = .ok (.getfield 20, 3) := by decide +kernel
theorem dX4_copyFrom_59 : decode cX4_copyFrom 59 = .ok (.invokevirtual 57, 3) := by decide +kernel
theorem dX4_copyFrom_62 : decode cX4_copyFrom 62 = .ok (.aload_n 0, 1) := by decide +kernel
theorem dX4_copyFrom_63 : decode cX4_copyFrom 63 = .ok (.getfield 23, 3) := by decide +kernel
theorem dX4_copyFrom_66 : decode cX4_copyFrom 66 = .ok (.aload_n 1, 1) := by decide +kernel
theorem dX4_copyFrom_67 : decode cX4_copyFrom 67 = .ok (.getfield 23, 3) := by decide +kernel
theorem dX4_copyFrom_70 : decode cX4_copyFrom 70 = .ok (.invokevirtual 57, 3) := by decide +kernel
theorem dX4_copyFrom_73 : decode cX4_copyFrom 73 = .ok (.aload_n 0, 1) := by decide +kernel
theorem dX4_copyFrom_74 : decode cX4_copyFrom 74 = .ok (.getfield 26, 3) := by decide +kernel
theorem dX4_copyFrom_77 : decode cX4_copyFrom 77 = .ok (.aload_n 1, 1) := by decide +kernel
theorem dX4_copyFrom_78 : decode cX4_copyFrom 78 = .ok (.getfield 26, 3) := by decide +kernel
theorem dX4_copyFrom_81 : decode cX4_copyFrom 81 = .ok (.invokevirtual 57, 3) := by decide +kernel
theorem dX4_copyFrom_84 : decode cX4_copyFrom 84 = .ok (.aload_n 0, 1) := by decide +kernel
theorem dX4_copyFrom_85 : decode cX4_copyFrom 85 = .ok (.getfield 29, 3) := by decide +kernel
theorem dX4_copyFrom_88 : decode cX4_copyFrom 88 = .ok (.aload_n 1, 1) := by decide +kernel
theorem dX4_copyFrom_89 : decode cX4_copyFrom 89 = .ok (.getfield 29, 3) := by decide +kernel
theorem dX4_copyFrom_92 : decode cX4_copyFrom 92 = .ok (.invokevirtual 57, 3) := by decide +kernel
theorem dX4_copyFrom_95 : decode cX4_copyFrom 95 = .ok (.aload_n 0, 1) := by decide +kernel
theorem dX4_copyFrom_96 : decode cX4_copyFrom 96 = .ok (.getfield 32, 3) := by decide +kernel
theorem dX4_copyFrom_99 : decode cX4_copyFrom 99 = .ok (.aload_n 1, 1) := by decide +kernel
theorem dX4_copyFrom_100 : decode cX4_copyFrom 100 = .ok (.getfield 32, 3) := by decide +kernel
theorem dX4_copyFrom_103 : decode cX4_copyFrom 103 = .ok (.invokevirtual 57, 3) := by decide +kernel
theorem dX4_copyFrom_106 : decode cX4_copyFrom 106 = .ok (.aload_n 0, 1) := by decide +kernel
theorem dX4_copyFrom_107 : decode cX4_copyFrom 107 = .ok (.getfield 35, 3) := by decide +kernel
theorem dX4_copyFrom_110 : decode cX4_copyFrom 110 = .ok (.aload_n 1, 1) := by decide +kernel
theorem dX4_copyFrom_111 : decode cX4_copyFrom 111 = .ok (.getfield 35, 3) := by decide +kernel
theorem dX4_copyFrom_114 : decode cX4_copyFrom 114 = .ok (.invokevirtual 57, 3) := by decide +kernel
theorem dX4_copyFrom_117 : decode cX4_copyFrom 117 = .ok (.aload_n 0, 1) := by decide +kernel
theorem dX4_copyFrom_118 : decode cX4_copyFrom 118 = .ok (.getfield 38, 3) := by decide +kernel
theorem dX4_copyFrom_121 : decode cX4_copyFrom 121 = .ok (.aload_n 1, 1) := by decide +kernel
theorem dX4_copyFrom_122 : decode cX4_copyFrom 122 = .ok (.getfield 38, 3) := by decide +kernel
theorem dX4_copyFrom_125 : decode cX4_copyFrom 125 = .ok (.invokevirtual 57, 3) := by decide +kernel
theorem dX4_copyFrom_128 : decode cX4_copyFrom 128 = .ok (.return_, 1) := by decide +kernel
theorem dX4_hasBeat_0 : decode cX4_hasBeat 0 = .ok (.iload_n 1, 1) := by decide +kernel
theorem dX4_hasBeat_1 : decode cX4_hasBeat 1 = .ok (.ifCond .lt 15, 3) := by decide +kernel
theorem dX4_hasBeat_4 : decode cX4_hasBeat 4 = .ok (.iload_n 1, 1) := by decide +kernel
theorem dX4_hasBeat_5 : decode cX4_hasBeat 5 = .ok (.aload_n 0, 1) := by decide +kernel
theorem dX4_hasBeat_6 : decode cX4_hasBeat 6 = .ok (.getfield 45, 3) := by decide +kernel
theorem dX4_hasBeat_9 : decode cX4_hasBeat 9 = .ok (.if_icmp .ge 7, 3) := by decide +kernel
theorem dX4_hasBeat_12 : decode cX4_hasBeat 12 = .ok (.iconst 1, 1) := by decide +kernel
theorem dX4_hasBeat_13 : decode cX4_hasBeat 13 = .ok (.goto 4, 3) := by decide +kernel
theorem dX4_hasBeat_16 : decode cX4_hasBeat 16 = .ok (.iconst 0, 1) := by decide +kernel
theorem dX4_hasBeat_17 : decode cX4_hasBeat 17 = .ok (.ireturn, 1) := by decide +kernel
theorem dX4_hasSinger_0 : decode cX4_hasSinger 0 = .ok (.iload_n 1, 1) := by decide +kernel
theorem dX4_hasSinger_1 : decode cX4_hasSinger 1 = .ok (.ifCond .lt 15, 3) := by decide +kernel
theorem dX4_hasSinger_4 : decode cX4_hasSinger 4 = .ok (.iload_n 1, 1) := by decide +kernel
theorem dX4_hasSinger_5 : decode cX4_hasSinger 5 = .ok (.aload_n 0, 1) := by decide +kernel
theorem dX4_hasSinger_6 : decode cX4_hasSinger 6 = .ok (.getfield 48, 3) := by decide +kernel
theorem dX4_hasSinger_9 : decode cX4_hasSinger 9 = .ok (.if_icmp .ge 7, 3) := by decide +kernel
theorem dX4_hasSinger_12 : decode cX4_hasSinger 12 = .ok (.iconst 1, 1) := by decide +kernel
theorem dX4_hasSinger_13 : decode cX4_hasSinger 13 = .ok (.goto 4, 3) := by decide +kernel
theorem dX4_hasSinger_16 : decode cX4_hasSinger 16 = .ok (.iconst 0, 1) := by decide +kernel
theorem dX4_hasSinger_17 : decode cX4_hasSinger 17 = .ok (.ireturn, 1) := by decide +kernel
theorem dX4_hasSolo_0 : decode cX4_hasSolo 0 = .ok (.iload_n 1, 1) := by decide +kernel
theorem dX4_hasSolo_1 : decode cX4_hasSolo 1 = .ok (.ifCond .lt 15, 3) := by decide +kernel
theorem dX4_hasSolo_4 : decode cX4_hasSolo 4 = .ok (.iload_n 1, 1) := by decide +kernel
theorem dX4_hasSolo_5 : decode cX4_hasSolo 5 = .ok (.aload_n 0, 1) := by decide +kernel
theorem dX4_hasSolo_6 : decode cX4_hasSolo 6 = .ok (.getfield 54, 3) := by decide +kernel
theorem dX4_hasSolo_9 : decode cX4_hasSolo 9 = .ok (.if_icmp .ge 7, 3) := by decide +kernel
theorem dX4_hasSolo_12 : decode cX4_hasSolo 12 = .ok (.iconst 1, 1) := by decide +kernel
theorem dX4_hasSolo_13 : decode cX4_hasSolo 13 = .ok (.goto 4, 3) := by decide +kernel
theorem dX4_hasSolo_16 : decode cX4_hasSolo 16 = .ok (.iconst 0, 1) := by decide +kernel
theorem dX4_hasSolo_17 : decode cX4_hasSolo 17 = .ok (.ireturn, 1) := by decide +kernel
set_option maxRecDepth 20000 in
theorem ggX4_clearScore_X2_clear : GoodIn wsX4_clearScore wsX2_clear := goodIn_r _ [8, 9, 23] (by decide +kernel) (by decide +kernel)
set_option maxRecDepth 20000 in
theorem gX4_clearScore_X2_clear : GoodIn wsX4_clearScore (wsV RX4 61 RX2 yX2_clear wsX2_clear) := goodIn_app (goodIn_of _ (by decide +kernel)) ggX4_clearScore_X2_clear
theorem dX4_clearScore_0 : decode cX4_clearScore 0 = .ok (.aload_n 0, 1) := by decide +kernel
theorem dX4_clearScore_1 : decode cX4_clearScore 1 = .ok (.iconst 0, 1) := by decide +kernel
theorem dX4_clearScore_2 : decode cX4_clearScore 2 = .ok (.putfield 45, 3) := by decide +kernel
theorem dX4_clearScore_5 : decode cX4_clearScore 5 = .ok (.aload_n 0, 1) := by decide +kernel
theorem dX4_clearScore_6 : decode cX4_clearScore 6 = .ok (.iconst 0, 1) := by decide +kernel
theorem dX4_clearScore_7 : decode cX4_clearScore 7 = .ok (.putfield 54, 3) := by decide +kernel
theorem dX4_clearScore_10 : decode cX4_clearScore 10 = .ok (.aload_n 0, 1) := by decide +kernel
theorem dX4_clearScore_11 : decode cX4_clearScore 11 = .ok (.getfield 23, 3) := by decide +kernel
theorem dX4_clearScore_14 : decode cX4_clearScore 14 = .ok (.invokevirtual 61, 3) := by decide +kernel
theorem dX4_clearScore_17 : decode cX4_clearScore 17 = .ok (.return_, 1) := by decide +kernel
set_option maxRecDepth 20000 in
theorem ggX4_appendBeats_X2_put : GoodIn wsX4_appendBeats wsX2_put := goodIn_r _ [8, 9, 23] (by decide +kernel) (by decide +kernel)
set_option maxRecDepth 20000 in
theorem gX4_appendBeats_X2_put : GoodIn wsX4_appendBeats (wsV RX4 64 RX2 yX2_put wsX2_put) := goodIn_app (goodIn_of _ (by decide +kernel)) ggX4_appendBeats_X2_put
theorem dX4_appendBeats_0 : decode cX4_appendBeats 0 = .ok (.iconst 0, 1) := by decide +kernel
theorem dX4_appendBeats_1 : decode cX4_appendBeats 1 = .ok (.istore 4, 2) := by decide +kernel
theorem dX4_appendBeats_3 : decode cX4_appendBeats 3 = .ok (.iload 4, 2) := by decide +kernel
theorem dX4_appendBeats_5 : decode cX4_appendBeats 5 = .ok (.iload_n 3, 1) := by decide +kernel
theorem dX4_appendBeats_6 : decode cX4_appendBeats 6 = .ok (.if_icmp .ge 52, 3) := by decide +kernel
theorem dX4_appendBeats_9 : decode cX4_appendBeats 9 = .ok (.aload_n 0, 1) := by decide +kernel
theorem dX4_appendBeats_10 : decode cX4_appendBeats 10 = .ok (.getfield 45, 3) := by decide +kernel
theorem dX4_appendBeats_13 : decode cX4_appendBeats 13 = .ok (.bipush 96, 2) := by decide +kernel
theorem dX4_appendBeats_15 : decode cX4_appendBeats 15 = .ok (.if_icmp .ge 43, 3) := by decide +kernel
theorem dX4_appendBeats_18 : decode cX4_appendBeats 18 = .ok (.aload_n 0, 1) := by decide +kernel
theorem dX4_appendBeats_19 : decode cX4_appendBeats 19 = .ok (.getfield 14, 3) := by decide +kernel
theorem dX4_appendBeats_22 : decode cX4_appendBeats 22 = .ok (.aload_n 0, 1) := by decide +kernel
theorem dX4_appendBeats_23 : decode cX4_appendBeats 23 = .ok (.getfield 45, 3) := by decide +kernel
theorem dX4_appendBeats_26 : decode cX4_appendBeats 26 = .ok (.iload_n 1, 1) := by decide +kernel
theorem dX4_appendBeats_27 : decode cX4_appendBeats 27 = .ok (.invokevirtual 64, 3) := by decide +kernel
theorem dX4_appendBeats_30 : decode cX4_appendBeats 30 = .ok (.aload_n 0, 1) := by decide +kernel
theorem dX4_appendBeats_31 : decode cX4_appendBeats 31 = .ok (.getfield 20, 3) := by decide +kernel
theorem dX4_appendBeats_34 : decode cX4_appendBeats 34 = .ok (.aload_n 0, 1) := by decide +kernel
theorem dX4_appendBeats_35 : decode cX4_appendBeats 35 = .ok (.getfield 45, 3) := by decide +kernel
theorem dX4_appendBeats_38 : decode cX4_appendBeats 38 = .ok (.iload_n 2, 1) := by decide +kernel
theorem dX4_appendBeats_39 : decode cX4_appendBeats 39 = .ok (.invokevirtual 64, 3) := by decide +kernel
theorem dX4_appendBeats_42 : decode cX4_appendBeats 42 = .ok (.aload_n 0, 1) := by decide +kernel
theorem dX4_appendBeats_43 : decode cX4_appendBeats 43 = .ok (.dup, 1) := by decide +kernel
theorem dX4_appendBeats_44 : decode cX4_appendBeats 44 = .ok (.getfield 45, 3) := by decide +kernel
theorem dX4_appendBeats_47 : decode cX4_appendBeats 47 = .ok (.iconst 1, 1) := by decide +kernel
theorem dX4_appendBeats_48 : decode cX4_appendBeats 48 = .ok (.iadd, 1) := by decide +kernel
theorem dX4_appendBeats_49 : decode cX4_appendBeats 49 = .ok (.putfield 45, 3) := by decide +kernel
theorem dX4_appendBeats_52 : decode cX4_appendBeats 52 = .ok (.iinc 4 1, 3) := by decide +kernel
theorem dX4_appendBeats_55 : decode cX4_appendBeats 55 = .ok (.goto (-52), 3) := by decide +kernel
theorem dX4_appendBeats_58 : decode cX4_appendBeats 58 = .ok (.return_, 1) := by decide +kernel
set_option maxRecDepth 20000 in
theorem ggX4_isRest_X2_at : GoodIn wsX4_isRest wsX2_at := goodIn_r _ [6, 7, 21] (by decide +kernel) (by decide +kernel)
set_option maxRecDepth 20000 in
theorem gX4_isRest_X2_at : GoodIn wsX4_isRest (wsV RX4 68 RX2 yX2_at wsX2_at) := goodIn_app (goodIn_of _ (by decide +kernel)) ggX4_isRest_X2_at
theorem dX4_isRest_0 : decode cX4_isRest 0 = .ok (.aload_n 0, 1) := by decide +kernel
theorem dX4_isRest_1 : decode cX4_isRest 1 = .ok (.getfield 14, 3) := by decide +kernel
theorem dX4_isRest_4 : decode cX4_isRest 4 = .ok (.iload_n 1, 1) := by decide +kernel
theorem dX4_isRest_5 : decode cX4_isRest 5 = .ok (.invokevirtual 68, 3) := by decide +kernel
theorem dX4_isRest_8 : decode cX4_isRest 8 = .ok (.ifCond .ne 7, 3) := by decide +kernel
theorem dX4_isRest_11 : decode cX4_isRest 11 = .ok (.iconst 1, 1) := by decide +kernel
theorem dX4_isRest_12 : decode cX4_isRest 12 = .ok (.goto 4, 3) := by decide +kernel
theorem dX4_isRest_15 : decode cX4_isRest 15 = .ok (.iconst 0, 1) := by decide +kernel
theorem dX4_isRest_16 : decode cX4_isRest 16 = .ok (.ireturn, 1) := by decide +kernel
set_option maxRecDepth 20000 in
theorem ggX4_firstOfSyllable_X4_isRest : GoodIn wsX4_firstOfSyllable wsX4_isRest := goodIn_r _ [6, 1, 7, 8, 9, 10, 11, 12, 13, 14, 15, 16, 17, 18, 19, 20, 21, 22, 23, 24, 25, 26] (by decide +kernel) (by decide +kernel)
set_option maxRecDepth 20000 in
theorem gX4_firstOfSyllable_X4_isRest : GoodIn wsX4_firstOfSyllable (wsV RX4 72 RX4 yX4_isRest wsX4_isRest) := goodIn_app (goodIn_of _ (by decide +kernel)) ggX4_firstOfSyllable_X4_isRest
set_option maxRecDepth 20000 in
theorem ggX4_firstOfSyllable_X2_at : GoodIn wsX4_firstOfSyllable wsX2_at := goodIn_r _ [11, 12, 26] (by decide +kernel) (by decide +kernel)
set_option maxRecDepth 20000 in
theorem gX4_firstOfSyllable_X2_at : GoodIn wsX4_firstOfSyllable (wsV RX4 68 RX2 yX2_at wsX2_at) := goodIn_app (goodIn_of _ (by decide +kernel)) ggX4_firstOfSyllable_X2_at
theorem dX4_firstOfSyllable_0 : decode cX4_firstOfSyllable 0 = .ok (.aload_n 0, 1) := by decide +kernel
theorem dX4_firstOfSyllable_1 : decode cX4_firstOfSyllable 1 = .ok (.iload_n 1, 1) := by decide +kernel
theorem dX4_firstOfSyllable_2 : decode cX4_firstOfSyllable 2 = .ok (.invokevirtual 72, 3) := by decide +kernel
theorem dX4_firstOfSyllable_5 : decode cX4_firstOfSyllable 5 = .ok (.ifCond .eq 6, 3) := by decide +kernel
theorem dX4_firstOfSyllable_8 : decode cX4_firstOfSyllable 8 = .ok (.bipush (-5), 2) := by decide +kernel
theorem dX4_firstOfSyllable_10 : decode cX4_firstOfSyllable 10 = .ok (.ireturn, 1) := by decide +kernel
theorem dX4_firstOfSyllable_11 : decode cX4_firstOfSyllable 11 = .ok (.iload_n 1, 1) := by decide +kernel
theorem dX4_firstOfSyllable_12 : decode cX4_firstOfSyllable 12 = .ok (.istore_n 2, 1) := by decide +kernel
theorem dX4_firstOfSyllable_13 : decode cX4_firstOfSyllable 13 = .ok (.iload_n 2, 1) := by decide +kernel
theorem dX4_firstOfSyllable_14 : decode cX4_firstOfSyllable 14 = .ok (.ifCond .le 31, 3) := by decide +kernel
theorem dX4_firstOfSyllable_17 : decode cX4_firstOfSyllable 17 = .ok (.aload_n 0, 1) := by decide +kernel
theorem dX4_firstOfSyllable_18 : decode cX4_firstOfSyllable 18 = .ok (.getfield 14, 3) := by decide +kernel
theorem dX4_firstOfSyllable_21 : decode cX4_firstOfSyllable 21 = .ok (.iload_n 2, 1) := by decide +kernel
theorem dX4_firstOfSyllable_22 : decode cX4_firstOfSyllable 22 = .ok (.invokevirtual 68, 3) := by decide +kernel
theorem dX4_firstOfSyllable_25 : decode cX4_firstOfSyllable 25 = .ok (.iconst 1, 1) := by decide +kernel
theorem dX4_firstOfSyllable_26 : decode cX4_firstOfSyllable 26 = .ok (.if_icmp .ne 19, 3) := by decide +kernel
theorem dX4_firstOfSyllable_29 : decode cX4_firstOfSyllable 29 = .ok (.aload_n 0, 1) := by decide +kernel
theorem dX4_firstOfSyllable_30 : decode cX4_firstOfSyllable 30 = .ok (.iload_n 2, 1) := by decide +kernel
theorem dX4_firstOfSyllable_31 : decode cX4_firstOfSyllable 31 = .ok (.iconst 1, 1) := by decide +kernel
theorem dX4_firstOfSyllable_32 : decode cX4_firstOfSyllable 32 = .ok (.isub, 1) := by decide +kernel
theorem dX4_firstOfSyllable_33 : decode cX4_firstOfSyllable 33 = .ok (.invokevirtual 72, 3) := by decide +kernel
theorem dX4_firstOfSyllable_36 : decode cX4_firstOfSyllable 36 = .ok (.ifCond .ne 9, 3) := by decide +kernel
theorem dX4_firstOfSyllable_39 : decode cX4_firstOfSyllable 39 = .ok (.iinc 2 (-1), 3) := by decide +kernel
theorem dX4_firstOfSyllable_42 : decode cX4_firstOfSyllable 42 = .ok (.goto (-29), 3) := by decide +kernel
theorem dX4_firstOfSyllable_45 : decode cX4_firstOfSyllable 45 = .ok (.iload_n 2, 1) := by decide +kernel
theorem dX4_firstOfSyllable_46 : decode cX4_firstOfSyllable 46 = .ok (.ireturn, 1) := by decide +kernel
set_option maxRecDepth 20000 in
theorem ggX4_countRests_X4_isRest : GoodIn wsX4_countRests wsX4_isRest := goodIn_r _ [6, 7, 8, 9, 10, 11, 12, 13, 14, 15, 16, 17, 18, 19, 20, 21, 22, 23, 24, 25, 26, 27] (by decide +kernel) (by decide +kernel)
set_option maxRecDepth 20000 in
theorem gX4_countRests_X4_isRest : GoodIn wsX4_countRests (wsV RX4 72 RX4 yX4_isRest wsX4_isRest) := goodIn_app (goodIn_of _ (by decide +kernel)) ggX4_countRests_X4_isRest
theorem dX4_countRests_0 : decode cX4_countRests 0 = .ok (.iconst 0, 1) := by decide +kernel
theorem dX4_countRests_1 : decode cX4_countRests 1 = .ok (.istore_n 1, 1) := by decide +kernel
theorem dX4_countRests_2 : decode cX4_countRests 2 = .ok (.iconst 0, 1) := by decide +kernel
theorem dX4_countRests_3 : decode cX4_countRests 3 = .ok (.istore_n 2, 1) := by decide +kernel
theorem dX4_countRests_4 : decode cX4_countRests 4 = .ok (.iload_n 2, 1) := by decide +kernel
theorem dX4_countRests_5 : decode cX4_countRests 5 = .ok (.aload_n 0, 1) := by decide +kernel
theorem dX4_countRests_6 : decode cX4_countRests 6 = .ok (.getfield 45, 3) := by decide +kernel
theorem dX4_countRests_9 : decode cX4_countRests 9 = .ok (.if_icmp .ge 20, 3) := by decide +kernel
theorem dX4_countRests_12 : decode cX4_countRests 12 = .ok (.aload_n 0, 1) := by decide +kernel
theorem dX4_countRests_13 : decode cX4_countRests 13 = .ok (.iload_n 2, 1) := by decide +kernel
theorem dX4_countRests_14 : decode cX4_countRests 14 = .ok (.invokevirtual 72, 3) := by decide +kernel
theorem dX4_countRests_17 : decode cX4_countRests 17 = .ok (.ifCond .eq 6, 3) := by decide +kernel
theorem dX4_countRests_20 : decode cX4_countRests 20 = .ok (.iinc 1 1, 3) := by decide +kernel
theorem dX4_countRests_23 : decode cX4_countRests 23 = .ok (.iinc 2 1, 3) := by decide +kernel
theorem dX4_countRests_26 : decode cX4_countRests 26 = .ok (.goto (-22), 3) := by decide +kernel
theorem dX4_countRests_29 : decode cX4_countRests 29 = .ok (.iload_n 1, 1) := by decide +kernel
theorem dX4_countRests_30 : decode cX4_countRests 30 = .ok (.ireturn, 1) := by decide +kernel
set_option maxRecDepth 20000 in
theorem ggX4_countSyllables_X4_firstOfSyllable : GoodIn wsX4_countSyllables wsX4_firstOfSyllable := goodIn_r _ [6, 7, 8, 9, 10, 5, 11, 12, 13, 14, 15, 16, 17, 18, 19, 20, 21, 22, 23, 24, 25, 26, 27, 28, 29, 30, 31] (by decide +kernel) (by decide +kernel)
set_option maxRecDepth 20000 in
theorem gX4_countSyllables_X4_firstOfSyllable : GoodIn wsX4_countSyllables (wsV RX4 76 RX4 yX4_firstOfSyllable wsX4_firstOfSyllable) := goodIn_app (goodIn_of _ (by decide +kernel)) ggX4_countSyllables_X4_firstOfSyllable
theorem dX4_countSyllables_0 : decode cX4_countSyllables 0 = .ok (.iconst 0, 1) := by decide +kernel
theorem dX4_countSyllables_1 : decode cX4_countSyllables 1 = .ok (.istore_n 1, 1) := by decide +kernel
theorem dX4_countSyllables_2 : decode cX4_countSyllables 2 = .ok (.iconst 0, 1) := by decide +kernel
theorem dX4_countSyllables_3 : decode cX4_countSyllables 3 = .ok (.istore_n 2, 1) := by decide +kernel
theorem dX4_countSyllables_4 : decode cX4_countSyllables 4 = .ok (.iload_n 2, 1) := by decide +kernel
theorem dX4_countSyllables_5 : decode cX4_countSyllables 5 = .ok (.aload_n 0, 1) := by decide +kernel
theorem dX4_countSyllables_6 : decode cX4_countSyllables 6 = .ok (.getfield 45, 3) := by decide +kernel
theorem dX4_countSyllables_9 : decode cX4_countSyllables 9 = .ok (.if_icmp .ge 21, 3) := by decide +kernel
theorem dX4_countSyllables_12 : decode cX4_countSyllables 12 = .ok (.aload_n 0, 1) := by decide +kernel
theorem dX4_countSyllables_13 : decode cX4_countSyllables 13 = .ok (.iload_n 2, 1) := by decide +kernel
theorem dX4_countSyllables_14 : decode cX4_countSyllables 14 = .ok (.invokevirtual 76, 3) := by decide +kernel
theorem dX4_countSyllables_17 : decode cX4_countSyllables 17 = .ok (.iload_n 2, 1) := by decide +kernel
theorem dX4_countSyllables_18 : decode cX4_countSyllables 18 = .ok (.if_icmp .ne 6, 3) := by decide +kernel
theorem dX4_countSyllables_21 : decode cX4_countSyllables 21 = .ok (.iinc 1 1, 3) := by decide +kernel
theorem dX4_countSyllables_24 : decode cX4_countSyllables 24 = .ok (.iinc 2 1, 3) := by decide +kernel
theorem dX4_countSyllables_27 : decode cX4_countSyllables 27 = .ok (.goto (-23), 3) := by decide +kernel
theorem dX4_countSyllables_30 : decode cX4_countSyllables 30 = .ok (.iload_n 1, 1) := by decide +kernel
theorem dX4_countSyllables_31 : decode cX4_countSyllables 31 = .ok (.ireturn, 1) := by decide +kernel
set_option maxRecDepth 20000 in
theorem ggX4_longestSyllable_X4_isRest : GoodIn wsX4_longestSyllable wsX4_isRest := goodIn_r _ [10, 11, 12, 13, 14, 15, 16, 17, 22, 23, 24, 25, 26, 27, 28, 29, 30, 31, 32, 33, 34, 35] (by decide +kernel) (by decide +kernel)
set_option maxRecDepth 20000 in
theorem gX4_longestSyllable_X4_isRest : GoodIn wsX4_longestSyllable (wsV RX4 72 RX4 yX4_isRest wsX4_isRest) := goodIn_app (goodIn_of _ (by decide +kernel)) ggX4_longestSyllable_X4_isRest
set_option maxRecDepth 20000 in
theorem ggX4_longestSyllable_X4_firstOfSyllable : GoodIn wsX4_longestSyllable wsX4_firstOfSyllable := goodIn_r _ [21, 11, 6, 7, 8, 9, 10, 12, 13, 14, 15, 16, 17, 22, 23, 24, 25, 26, 27, 28, 29, 30, 31, 32, 33, 34, 35] (by decide +kernel) (by decide +kernel)
set_option maxRecDepth 20000 in
theorem gX4_longestSyllable_X4_firstOfSyllable : GoodIn wsX4_longestSyllable (wsV RX4 76 RX4 yX4_firstOfSyllable wsX4_firstOfSyllable) := goodIn_app (goodIn_of _ (by decide +kernel)) ggX4_longestSyllable_X4_firstOfSyllable
theorem dX4_longestSyllable_0 : decode cX4_longestSyllable 0 = .ok (.iconst 0, 1) := by decide +kernel
theorem dX4_longestSyllable_1 : decode cX4_longestSyllable 1 = .ok (.istore_n 1, 1) := by decide +kernel
theorem dX4_longestSyllable_2 : decode cX4_longestSyllable 2 = .ok (.iconst 0, 1) := by decide +kernel
theorem dX4_longestSyllable_3 : decode cX4_longestSyllable 3 = .ok (.istore_n 2, 1) := by decide +kernel
theorem dX4_longestSyllable_4 : decode cX4_longestSyllable 4 = .ok (.iload_n 2, 1) := by decide +kernel
theorem dX4_longestSyllable_5 : decode cX4_longestSyllable 5 = .ok (.aload_n 0, 1) := by decide +kernel
theorem dX4_longestSyllable_6 : decode cX4_longestSyllable 6 = .ok (.getfield 45, 3) := by decide +kernel
theorem dX4_longestSyllable_9 : decode cX4_longestSyllable 9 = .ok (.if_icmp .ge 31, 3) := by decide +kernel
theorem dX4_longestSyllable_12 : decode cX4_longestSyllable 12 = .ok (.aload_n 0, 1) := by decide +kernel
theorem dX4_longestSyllable_13 : decode cX4_longestSyllable 13 = .ok (.iload_n 2, 1) := by decide +kernel
theorem dX4_longestSyllable_14 : decode cX4_longestSyllable 14 = .ok (.invokevirtual 72, 3) := by decide +kernel
theorem dX4_longestSyllable_17 : decode cX4_longestSyllable 17 = .ok (.ifCond .ne 17, 3) := by decide +kernel
theorem dX4_longestSyllable_20 : decode cX4_longestSyllable 20 = .ok (.iload_n 1, 1) := by decide +kernel
theorem dX4_longestSyllable_21 : decode cX4_longestSyllable 21 = .ok (.iload_n 2, 1) := by decide +kernel
theorem dX4_longestSyllable_22 : decode cX4_longestSyllable 22 = .ok (.aload_n 0, 1) := by decide +kernel
theorem dX4_longestSyllable_23 : decode cX4_longestSyllable 23 = .ok (.iload_n 2, 1) := by decide +kernel
theorem dX4_longestSyllable_24 : decode cX4_longestSyllable 24 = .ok (.invokevirtual 76, 3) := by decide +kernel
theorem dX4_longestSyllable_27 : decode cX4_longestSyllable 27 = .ok (.isub, 1) := by decide +kernel
theorem dX4_longestSyllable_28 : decode cX4_longestSyllable 28 = .ok (.iconst 1, 1) := by decide +kernel
theorem dX4_longestSyllable_29 : decode cX4_longestSyllable 29 = .ok (.iadd, 1) := by decide +kernel
theorem dX4_longestSyllable_30 : decode cX4_longestSyllable 30 = .ok (.invokestatic 79, 3) := by decide +kernel
theorem dX4_longestSyllable_33 : decode cX4_longestSyllable 33 = .ok (.istore_n 1, 1) := by decide +kernel
theorem dX4_longestSyllable_34 : decode cX4_longestSyllable 34 = .ok (.iinc 2 1, 3) := by decide +kernel
theorem dX4_longestSyllable_37 : decode cX4_longestSyllable 37 = .ok (.goto (-33), 3) := by decide +kernel
theorem dX4_longestSyllable_40 : decode cX4_longestSyllable 40 = .ok (.iload_n 1, 1) := by decide +kernel
theorem dX4_longestSyllable_41 : decode cX4_longestSyllable 41 = .ok (.ireturn, 1) := by decide +kernel
set_option maxRecDepth 20000 in
theorem ggX4_appendSinger_X2_put : GoodIn wsX4_appendSinger wsX2_put := goodIn_r _ [9, 10, 27] (by decide +kernel) (by decide +kernel)
set_option maxRecDepth 20000 in
theorem gX4_appendSinger_X2_put : GoodIn wsX4_appendSinger (wsV RX4 64 RX2 yX2_put wsX2_put) := goodIn_app (goodIn_of _ (by decide +kernel)) ggX4_appendSinger_X2_put
set_option maxRecDepth 20000 in
theorem ggX4_appendSinger_X7_bit : GoodIn wsX4_appendSinger wsX7_bit := goodIn_r _ [13] (by decide +kernel) (by decide +kernel)
set_option maxRecDepth 20000 in
theorem gX4_appendSinger_X7_bit_n85 : GoodIn wsX4_appendSinger (wsX7_bit) := ggX4_appendSinger_X7_bit
theorem dX4_appendSinger_0 : decode cX4_appendSinger 0 = .ok (.aload_n 0, 1) := by decide +kernel
theorem dX4_appendSinger_1 : decode cX4_appendSinger 1 = .ok (.getfield 48, 3) := by decide +kernel
theorem dX4_appendSinger_4 : decode cX4_appendSinger 4 = .ok (.istore_n 3, 1) := by decide +kernel
theorem dX4_appendSinger_5 : decode cX4_appendSinger 5 = .ok (.aload_n 0, 1) := by decide +kernel
theorem dX4_appendSinger_6 : decode cX4_appendSinger 6 = .ok (.getfield 26, 3) := by decide +kernel
theorem dX4_appendSinger_9 : decode cX4_appendSinger 9 = .ok (.iload_n 3, 1) := by decide +kernel
theorem dX4_appendSinger_10 : decode cX4_appendSinger 10 = .ok (.iload_n 1, 1) := by decide +kernel
theorem dX4_appendSinger_11 : decode cX4_appendSinger 11 = .ok (.invokevirtual 64, 3) := by decide +kernel
theorem dX4_appendSinger_14 : decode cX4_appendSinger 14 = .ok (.aload_n 0, 1) := by decide +kernel
theorem dX4_appendSinger_15 : decode cX4_appendSinger 15 = .ok (.getfield 29, 3) := by decide +kernel
theorem dX4_appendSinger_18 : decode cX4_appendSinger 18 = .ok (.iload_n 3, 1) := by decide +kernel
theorem dX4_appendSinger_19 : decode cX4_appendSinger 19 = .ok (.iload_n 2, 1) := by decide +kernel
theorem dX4_appendSinger_20 : decode cX4_appendSinger 20 = .ok (.invokevirtual 64, 3) := by decide +kernel
theorem dX4_appendSinger_23 : decode cX4_appendSinger 23 = .ok (.aload_n 0, 1) := by decide +kernel
theorem dX4_appendSinger_24 : decode cX4_appendSinger 24 = .ok (.dup, 1) := by decide +kernel
theorem dX4_appendSinger_25 : decode cX4_appendSinger 25 = .ok (.getfield 51, 3) := by decide +kernel
theorem dX4_appendSinger_28 : decode cX4_appendSinger 28 = .ok (.iload_n 3, 1) := by decide +kernel
theorem dX4_appendSinger_29 : decode cX4_appendSinger 29 = .ok (.invokestatic 85, 3) := by decide +kernel
theorem dX4_appendSinger_32 : decode cX4_appendSinger 32 = .ok (.ior, 1) := by decide +kernel
theorem dX4_appendSinger_33 : decode cX4_appendSinger 33 = .ok (.putfield 51, 3) := by decide +kernel
theorem dX4_appendSinger_36 : decode cX4_appendSinger 36 = .ok (.aload_n 0, 1) := by decide +kernel
theorem dX4_appendSinger_37 : decode cX4_appendSinger 37 = .ok (.dup, 1) := by decide +kernel
theorem dX4_appendSinger_38 : decode cX4_appendSinger 38 = .ok (.getfield 48, 3) := by decide +kernel
theorem dX4_appendSinger_41 : decode cX4_appendSinger 41 = .ok (.iconst 1, 1) := by decide +kernel
theorem dX4_appendSinger_42 : decode cX4_appendSinger 42 = .ok (.iadd, 1) := by decide +kernel
theorem dX4_appendSinger_43 : decode cX4_appendSinger 43 = .ok (.putfield 48, 3) := by decide +kernel
theorem dX4_appendSinger_46 : decode cX4_appendSinger 46 = .ok (.iload_n 3, 1) := by decide +kernel
theorem dX4_appendSinger_47 : decode cX4_appendSinger 47 = .ok (.ireturn, 1) := by decide +kernel
set_option maxRecDepth 20000 in
theorem ggX4_isPresent_X7_contains : GoodIn wsX4_isPresent wsX7_contains := goodIn_r _ [4] (by decide +kernel) (by decide +kernel)
set_option maxRecDepth 20000 in
theorem gX4_isPresent_X7_contains_n88 : GoodIn wsX4_isPresent (wsX7_contains) := ggX4_isPresent_X7_contains
theorem dX4_isPresent_0 : decode cX4_isPresent 0 = .ok (.aload_n 0, 1) := by decide +kernel
theorem dX4_isPresent_1 : decode cX4_isPresent 1 = .ok (.getfield 51, 3) := by decide +kernel
theorem dX4_isPresent_4 : decode cX4_isPresent 4 = .ok (.iload_n 1, 1) := by decide +kernel
theorem dX4_isPresent_5 : decode cX4_isPresent 5 = .ok (.invokestatic 88, 3) := by decide +kernel
theorem dX4_isPresent_8 : decode cX4_isPresent 8 = .ok (.ireturn, 1) := by decide +kernel
set_option maxRecDepth 20000 in
theorem ggX4_countPresent_J6_bitCount_0f7a4 : GoodIn wsX4_countPresent wsJ6_bitCount_0f7a4 := goodIn_r _ [5, 6, 7, 8] (by decide +kernel) (by decide +kernel)
set_option maxRecDepth 20000 in
theorem gX4_countPresent_J6_bitCount_0f7a4 : GoodIn wsX4_countPresent (va_wsS RX4 92 yJ6_bitCount_0f7a4 wsJ6_bitCount_0f7a4) := goodIn_app (goodIn_of _ (by decide +kernel)) ggX4_countPresent_J6_bitCount_0f7a4
theorem dX4_countPresent_0 : decode cX4_countPresent 0 = .ok (.aload_n 0, 1) := by decide +kernel
theorem dX4_countPresent_1 : decode cX4_countPresent 1 = .ok (.getfield 51, 3) := by decide +kernel
theorem dX4_countPresent_4 : decode cX4_countPresent 4 = .ok (.invokestatic 92, 3) := by decide +kernel
theorem dX4_countPresent_7 : decode cX4_countPresent 7 = .ok (.ireturn, 1) := by decide +kernel
set_option maxRecDepth 20000 in
theorem ggX4_soloAt_X2_at : GoodIn wsX4_soloAt wsX2_at := goodIn_r _ [8, 9, 23] (by decide +kernel) (by decide +kernel)
set_option maxRecDepth 20000 in
theorem gX4_soloAt_X2_at : GoodIn wsX4_soloAt (wsV RX4 68 RX2 yX2_at wsX2_at) := goodIn_app (goodIn_of _ (by decide +kernel)) ggX4_soloAt_X2_at
theorem dX4_soloAt_0 : decode cX4_soloAt 0 = .ok (.iconst 0, 1) := by decide +kernel
theorem dX4_soloAt_1 : decode cX4_soloAt 1 = .ok (.istore_n 2, 1) := by decide +kernel
theorem dX4_soloAt_2 : decode cX4_soloAt 2 = .ok (.iload_n 2, 1) := by decide +kernel
theorem dX4_soloAt_3 : decode cX4_soloAt 3 = .ok (.aload_n 0, 1) := by decide +kernel
theorem dX4_soloAt_4 : decode cX4_soloAt 4 = .ok (.getfield 54, 3) := by decide +kernel
theorem dX4_soloAt_7 : decode cX4_soloAt 7 = .ok (.if_icmp .ge 35, 3) := by decide +kernel
theorem dX4_soloAt_10 : decode cX4_soloAt 10 = .ok (.aload_n 0, 1) := by decide +kernel
theorem dX4_soloAt_11 : decode cX4_soloAt 11 = .ok (.getfield 35, 3) := by decide +kernel
theorem dX4_soloAt_14 : decode cX4_soloAt 14 = .ok (.iload_n 2, 1) := by decide +kernel
theorem dX4_soloAt_15 : decode cX4_soloAt 15 = .ok (.invokevirtual 68, 3) := by decide +kernel
theorem dX4_soloAt_18 : decode cX4_soloAt 18 = .ok (.iload_n 1, 1) := by decide +kernel
theorem dX4_soloAt_19 : decode cX4_soloAt 19 = .ok (.if_icmp .gt 17, 3) := by decide +kernel
theorem dX4_soloAt_22 : decode cX4_soloAt 22 = .ok (.iload_n 1, 1) := by decide +kernel
theorem dX4_soloAt_23 : decode cX4_soloAt 23 = .ok (.aload_n 0, 1) := by decide +kernel
theorem dX4_soloAt_24 : decode cX4_soloAt 24 = .ok (.getfield 38, 3) := by decide +kernel
theorem dX4_soloAt_27 : decode cX4_soloAt 27 = .ok (.iload_n 2, 1) := by decide +kernel
theorem dX4_soloAt_28 : decode cX4_soloAt 28 = .ok (.invokevirtual 68, 3) := by decide +kernel
theorem dX4_soloAt_31 : decode cX4_soloAt 31 = .ok (.if_icmp .gt 5, 3) := by decide +kernel
theorem dX4_soloAt_34 : decode cX4_soloAt 34 = .ok (.iload_n 2, 1) := by decide +kernel
theorem dX4_soloAt_35 : decode cX4_soloAt 35 = .ok (.ireturn, 1) := by decide +kernel
theorem dX4_soloAt_36 : decode cX4_soloAt 36 = .ok (.iinc 2 1, 3) := by decide +kernel
theorem dX4_soloAt_39 : decode cX4_soloAt 39 = .ok (.goto (-37), 3) := by decide +kernel
theorem dX4_soloAt_42 : decode cX4_soloAt 42 = .ok (.bipush (-5), 2) := by decide +kernel
theorem dX4_soloAt_44 : decode cX4_soloAt 44 = .ok (.ireturn, 1) := by decide +kernel
set_option maxRecDepth 20000 in
theorem ggX4_overlapsSolo_X2_at : GoodIn wsX4_overlapsSolo wsX2_at := goodIn_r _ [8, 9, 23] (by decide +kernel) (by decide +kernel)
set_option maxRecDepth 20000 in
theorem gX4_overlapsSolo_X2_at : GoodIn wsX4_overlapsSolo (wsV RX4 68 RX2 yX2_at wsX2_at) := goodIn_app (goodIn_of _ (by decide +kernel)) ggX4_overlapsSolo_X2_at
theorem dX4_overlapsSolo_0 : decode cX4_overlapsSolo 0 = .ok (.iconst 0, 1) := by decide +kernel
theorem dX4_overlapsSolo_1 : decode cX4_overlapsSolo 1 = .ok (.istore_n 3, 1) := by decide +kernel
theorem dX4_overlapsSolo_2 : decode cX4_overlapsSolo 2 = .ok (.iload_n 3, 1) := by decide +kernel
theorem dX4_overlapsSolo_3 : decode cX4_overlapsSolo 3 = .ok (.aload_n 0, 1) := by decide +kernel
theorem dX4_overlapsSolo_4 : decode cX4_overlapsSolo 4 = .ok (.getfield 54, 3) := by decide +kernel
theorem dX4_overlapsSolo_7 : decode cX4_overlapsSolo 7 = .ok (.if_icmp .ge 35, 3) := by decide +kernel
theorem dX4_overlapsSolo_10 : decode cX4_overlapsSolo 10 = .ok (.aload_n 0, 1) := by decide +kernel
theorem dX4_overlapsSolo_11 : decode cX4_overlapsSolo 11 = .ok (.getfield 35, 3) := by decide +kernel
theorem dX4_overlapsSolo_14 : decode cX4_overlapsSolo 14 = .ok (.iload_n 3, 1) := by decide +kernel
theorem dX4_overlapsSolo_15 : decode cX4_overlapsSolo 15 = .ok (.invokevirtual 68, 3) := by decide +kernel
theorem dX4_overlapsSolo_18 : decode cX4_overlapsSolo 18 = .ok (.iload_n 2, 1) := by decide +kernel
theorem dX4_overlapsSolo_19 : decode cX4_overlapsSolo 19 = .ok (.if_icmp .gt 17, 3) := by decide +kernel
theorem dX4_overlapsSolo_22 : decode cX4_overlapsSolo 22 = .ok (.iload_n 1, 1) := by decide +kernel
theorem dX4_overlapsSolo_23 : decode cX4_overlapsSolo 23 = .ok (.aload_n 0, 1) := by decide +kernel
theorem dX4_overlapsSolo_24 : decode cX4_overlapsSolo 24 = .ok (.getfield 38, 3) := by decide +kernel
theorem dX4_overlapsSolo_27 : decode cX4_overlapsSolo 27 = .ok (.iload_n 3, 1) := by decide +kernel
theorem dX4_overlapsSolo_28 : decode cX4_overlapsSolo 28 = .ok (.invokevirtual 68, 3) := by decide +kernel
theorem dX4_overlapsSolo_31 : decode cX4_overlapsSolo 31 = .ok (.if_icmp .gt 5, 3) := by decide +kernel
theorem dX4_overlapsSolo_34 : decode cX4_overlapsSolo 34 = .ok (.iconst 1, 1) := by decide +kernel
theorem dX4_overlapsSolo_35 : decode cX4_overlapsSolo 35 = .ok (.ireturn, 1) := by decide +kernel
theorem dX4_overlapsSolo_36 : decode cX4_overlapsSolo 36 = .ok (.iinc 3 1, 3) := by decide +kernel
theorem dX4_overlapsSolo_39 : decode cX4_overlapsSolo 39 = .ok (.goto (-37), 3) := by decide +kernel
theorem dX4_overlapsSolo_42 : decode cX4_overlapsSolo 42 = .ok (.iconst 0, 1) := by decide +kernel
theorem dX4_overlapsSolo_43 : decode cX4_overlapsSolo 43 = .ok (.ireturn, 1) := by decide +kernel
set_option maxRecDepth 20000 in
theorem ggX4_insertSolo_X2_at : GoodIn wsX4_insertSolo wsX2_at := goodIn_r _ [9, 10, 33] (by decide +kernel) (by decide +kernel)
set_option maxRecDepth 20000 in
theorem gX4_insertSolo_X2_at : GoodIn wsX4_insertSolo (wsV RX4 68 RX2 yX2_at wsX2_at) := goodIn_app (goodIn_of _ (by decide +kernel)) ggX4_insertSolo_X2_at
set_option maxRecDepth 20000 in
theorem ggX4_insertSolo_X4_moveSolo : GoodIn wsX4_insertSolo wsX4_moveSolo := goodIn_r _ [15, 3, 2, 4, 5, 6, 7, 8, 9, 10, 16, 17, 18, 19, 20, 21, 22, 23, 24, 25, 26, 27, 28, 29, 30, 31, 32, 33] (by decide +kernel) (by decide +kernel)
set_option maxRecDepth 20000 in
theorem gX4_insertSolo_X4_moveSolo : GoodIn wsX4_insertSolo (wsV RX4 97 RX4 yX4_moveSolo wsX4_moveSolo) := goodIn_app (goodIn_of _ (by decide +kernel)) ggX4_insertSolo_X4_moveSolo
set_option maxRecDepth 20000 in
theorem ggX4_insertSolo_X2_put : GoodIn wsX4_insertSolo wsX2_put := goodIn_r _ [19, 10, 33] (by decide +kernel) (by decide +kernel)
set_option maxRecDepth 20000 in
theorem gX4_insertSolo_X2_put : GoodIn wsX4_insertSolo (wsV RX4 64 RX2 yX2_put wsX2_put) := goodIn_app (goodIn_of _ (by decide +kernel)) ggX4_insertSolo_X2_put
theorem dX4_insertSolo_0 : decode cX4_insertSolo 0 = .ok (.aload_n 0, 1) := by decide +kernel
theorem dX4_insertSolo_1 : decode cX4_insertSolo 1 = .ok (.getfield 54, 3) := by decide +kernel
theorem dX4_insertSolo_4 : decode cX4_insertSolo 4 = .ok (.istore 4, 2) := by decide +kernel
theorem dX4_insertSolo_6 : decode cX4_insertSolo 6 = .ok (.iload 4, 2) := by decide +kernel
theorem dX4_insertSolo_8 : decode cX4_insertSolo 8 = .ok (.ifCond .le 34, 3) := by decide +kernel
theorem dX4_insertSolo_11 : decode cX4_insertSolo 11 = .ok (.aload_n 0, 1) := by decide +kernel
theorem dX4_insertSolo_12 : decode cX4_insertSolo 12 = .ok (.getfield 35, 3) := by decide +kernel
theorem dX4_insertSolo_15 : decode cX4_insertSolo 15 = .ok (.iload 4, 2) := by decide +kernel
theorem dX4_insertSolo_17 : decode cX4_insertSolo 17 = .ok (.iconst 1, 1) := by decide +kernel
theorem dX4_insertSolo_18 : decode cX4_insertSolo 18 = .ok (.isub, 1) := by decide +kernel
theorem dX4_insertSolo_19 : decode cX4_insertSolo 19 = .ok (.invokevirtual 68, 3) := by decide +kernel
theorem dX4_insertSolo_22 : decode cX4_insertSolo 22 = .ok (.iload_n 2, 1) := by decide +kernel
theorem dX4_insertSolo_23 : decode cX4_insertSolo 23 = .ok (.if_icmp .le 19, 3) := by decide +kernel
theorem dX4_insertSolo_26 : decode cX4_insertSolo 26 = .ok (.aload_n 0, 1) := by decide +kernel
theorem dX4_insertSolo_27 : decode cX4_insertSolo 27 = .ok (.iload 4, 2) := by decide +kernel
theorem dX4_insertSolo_29 : decode cX4_insertSolo 29 = .ok (.iconst 1, 1) := by decide +kernel
theorem dX4_insertSolo_30 : decode cX4_insertSolo 30 = .ok (.isub, 1) := by decide +kernel
theorem dX4_insertSolo_31 : decode cX4_insertSolo 31 = .ok (.iload 4, 2) := by decide +kernel
theorem dX4_insertSolo_33 : decode cX4_insertSolo 33 = .ok (.invokevirtual 97, 3) := by decide +kernel
theorem dX4_insertSolo_36 : decode cX4_insertSolo 36 = .ok (.iinc 4 (-1), 3) := by decide +kernel
theorem dX4_insertSolo_39 : decode cX4_insertSolo 39 = .ok (.goto (-33), 3) := by decide +kernel
theorem dX4_insertSolo_42 : decode cX4_insertSolo 42 = .ok (.aload_n 0, 1) := by decide +kernel
theorem dX4_insertSolo_43 : decode cX4_insertSolo 43 = .ok (.getfield 32, 3) := by decide +kernel
theorem dX4_insertSolo_46 : decode cX4_insertSolo 46 = .ok (.iload 4, 2) := by decide +kernel
theorem dX4_insertSolo_48 : decode cX4_insertSolo 48 = .ok (.iload_n 1, 1) := by decide +kernel
theorem dX4_insertSolo_49 : decode cX4_insertSolo 49 = .ok (.invokevirtual 64, 3) := by decide +kernel
theorem dX4_insertSolo_52 : decode cX4_insertSolo 52 = .ok (.aload_n 0, 1) := by decide +kernel
theorem dX4_insertSolo_53 : decode cX4_insertSolo 53 = .ok (.getfield 35, 3) := by decide +kernel
theorem dX4_insertSolo_56 : decode cX4_insertSolo 56 = .ok (.iload 4, 2) := by decide +kernel
theorem dX4_insertSolo_58 : decode cX4_insertSolo 58 = .ok (.iload_n 2, 1) := by decide +kernel
theorem dX4_insertSolo_59 : decode cX4_insertSolo 59 = .ok (.invokevirtual 64, 3) := by decide +kernel
theorem dX4_insertSolo_62 : decode cX4_insertSolo 62 = .ok (.aload_n 0, 1) := by decide +kernel
theorem dX4_insertSolo_63 : decode cX4_insertSolo 63 = .ok (.getfield 38, 3) := by decide +kernel
theorem dX4_insertSolo_66 : decode cX4_insertSolo 66 = .ok (.iload 4, 2) := by decide +kernel
theorem dX4_insertSolo_68 : decode cX4_insertSolo 68 = .ok (.iload_n 3, 1) := by decide +kernel
theorem dX4_insertSolo_69 : decode cX4_insertSolo 69 = .ok (.invokevirtual 64, 3) := by decide +kernel
theorem dX4_insertSolo_72 : decode cX4_insertSolo 72 = .ok (.aload_n 0, 1) := by decide +kernel
theorem dX4_insertSolo_73 : decode cX4_insertSolo 73 = .ok (.dup, 1) := by decide +kernel
theorem dX4_insertSolo_74 : decode cX4_insertSolo 74 = .ok (.getfield 54, 3) := by decide +kernel
theorem dX4_insertSolo_77 : decode cX4_insertSolo 77 = .ok (.iconst 1, 1) := by decide +kernel
theorem dX4_insertSolo_78 : decode cX4_insertSolo 78 = .ok (.iadd, 1) := by decide +kernel
theorem dX4_insertSolo_79 : decode cX4_insertSolo 79 = .ok (.putfield 54, 3) := by decide +kernel
theorem dX4_insertSolo_82 : decode cX4_insertSolo 82 = .ok (.iload 4, 2) := by decide +kernel
theorem dX4_insertSolo_84 : decode cX4_insertSolo 84 = .ok (.ireturn, 1) := by decide +kernel
set_option maxRecDepth 20000 in
theorem ggX4_dropSolo_X4_moveSolo : GoodIn wsX4_dropSolo wsX4_moveSolo := goodIn_r _ [6, 7, 8, 9, 10, 11, 12, 13, 14, 15, 16, 17, 18, 19, 20, 21, 22, 23, 24, 25, 26, 27, 28, 29, 30, 31, 32, 33] (by decide +kernel) (by decide +kernel)
set_option maxRecDepth 20000 in
theorem gX4_dropSolo_X4_moveSolo : GoodIn wsX4_dropSolo (wsV RX4 97 RX4 yX4_moveSolo wsX4_moveSolo) := goodIn_app (goodIn_of _ (by decide +kernel)) ggX4_dropSolo_X4_moveSolo
theorem dX4_dropSolo_0 : decode cX4_dropSolo 0 = .ok (.iload_n 1, 1) := by decide +kernel
theorem dX4_dropSolo_1 : decode cX4_dropSolo 1 = .ok (.istore_n 2, 1) := by decide +kernel
theorem dX4_dropSolo_2 : decode cX4_dropSolo 2 = .ok (.iload_n 2, 1) := by decide +kernel
theorem dX4_dropSolo_3 : decode cX4_dropSolo 3 = .ok (.aload_n 0, 1) := by decide +kernel
theorem dX4_dropSolo_4 : decode cX4_dropSolo 4 = .ok (.getfield 54, 3) := by decide +kernel
theorem dX4_dropSolo_7 : decode cX4_dropSolo 7 = .ok (.iconst 1, 1) := by decide +kernel
theorem dX4_dropSolo_8 : decode cX4_dropSolo 8 = .ok (.isub, 1) := by decide +kernel
theorem dX4_dropSolo_9 : decode cX4_dropSolo 9 = .ok (.if_icmp .ge 17, 3) := by decide +kernel
theorem dX4_dropSolo_12 : decode cX4_dropSolo 12 = .ok (.aload_n 0, 1) := by decide +kernel
theorem dX4_dropSolo_13 : decode cX4_dropSolo 13 = .ok (.iload_n 2, 1) := by decide +kernel
theorem dX4_dropSolo_14 : decode cX4_dropSolo 14 = .ok (.iconst 1, 1) := by decide +kernel
theorem dX4_dropSolo_15 : decode cX4_dropSolo 15 = .ok (.iadd, 1) := by decide +kernel
theorem dX4_dropSolo_16 : decode cX4_dropSolo 16 = .ok (.iload_n 2, 1) := by decide +kernel
theorem dX4_dropSolo_17 : decode cX4_dropSolo 17 = .ok (.invokevirtual 97, 3) := by decide +kernel
theorem dX4_dropSolo_20 : decode cX4_dropSolo 20 = .ok (.iinc 2 1, 3) := by decide +kernel
theorem dX4_dropSolo_23 : decode cX4_dropSolo 23 = .ok (.goto (-21), 3) := by decide +kernel
theorem dX4_dropSolo_26 : decode cX4_dropSolo 26 = .ok (.aload_n 0, 1) := by decide +kernel
theorem dX4_dropSolo_27 : decode cX4_dropSolo 27 = .ok (.dup, 1) := by decide +kernel
theorem dX4_dropSolo_28 : decode cX4_dropSolo 28 = .ok (.getfield 54, 3) := by decide +kernel
theorem dX4_dropSolo_31 : decode cX4_dropSolo 31 = .ok (.iconst 1, 1) := by decide +kernel
theorem dX4_dropSolo_32 : decode cX4_dropSolo 32 = .ok (.isub, 1) := by decide +kernel
theorem dX4_dropSolo_33 : decode cX4_dropSolo 33 = .ok (.putfield 54, 3) := by decide +kernel
theorem dX4_dropSolo_36 : decode cX4_dropSolo 36 = .ok (.return_, 1) := by decide +kernel
set_option maxRecDepth 20000 in
theorem ggX4_moveSolo_X2_at : GoodIn wsX4_moveSolo wsX2_at := goodIn_r _ [8, 9, 27] (by decide +kernel) (by decide +kernel)
set_option maxRecDepth 20000 in
theorem gX4_moveSolo_X2_at : GoodIn wsX4_moveSolo (wsV RX4 68 RX2 yX2_at wsX2_at) := goodIn_app (goodIn_of _ (by decide +kernel)) ggX4_moveSolo_X2_at
set_option maxRecDepth 20000 in
theorem ggX4_moveSolo_X2_put : GoodIn wsX4_moveSolo wsX2_put := goodIn_r _ [13, 9, 27] (by decide +kernel) (by decide +kernel)
set_option maxRecDepth 20000 in
theorem gX4_moveSolo_X2_put : GoodIn wsX4_moveSolo (wsV RX4 64 RX2 yX2_put wsX2_put) := goodIn_app (goodIn_of _ (by decide +kernel)) ggX4_moveSolo_X2_put
theorem dX4_moveSolo_0 : decode cX4_moveSolo 0 = .ok (.aload_n 0, 1) := by decide +kernel
theorem dX4_moveSolo_1 : decode cX4_moveSolo 1 = .ok (.getfield 32, 3) := by decide +kernel
theorem dX4_moveSolo_4 : decode cX4_moveSolo 4 = .ok (.iload_n 2, 1) := by decide +kernel
theorem dX4_moveSolo_5 : decode cX4_moveSolo 5 = .ok (.aload_n 0, 1) := by decide +kernel
theorem dX4_moveSolo_6 : decode cX4_moveSolo 6 = .ok (.getfield 32, 3) := by decide +kernel
theorem dX4_moveSolo_9 : decode cX4_moveSolo 9 = .ok (.iload_n 1, 1) := by decide +kernel
theorem dX4_moveSolo_10 : decode cX4_moveSolo 10 = .ok (.invokevirtual 68, 3) := by decide +kernel
theorem dX4_moveSolo_13 : decode cX4_moveSolo 13 = .ok (.invokevirtual 64, 3) := by decide +kernel
theorem dX4_moveSolo_16 : decode cX4_moveSolo 16 = .ok (.aload_n 0, 1) := by decide +kernel
theorem dX4_moveSolo_17 : decode cX4_moveSolo 17 = .ok (.getfield 35, 3) := by decide +kernel
theorem dX4_moveSolo_20 : decode cX4_moveSolo 20 = .ok (.iload_n 2, 1) := by decide +kernel
theorem dX4_moveSolo_21 : decode cX4_moveSolo 21 = .ok (.aload_n 0, 1) := by decide +kernel
theorem dX4_moveSolo_22 : decode cX4_moveSolo 22 = .ok (.getfield 35, 3) := by decide +kernel
theorem dX4_moveSolo_25 : decode cX4_moveSolo 25 = .ok (.iload_n 1, 1) := by decide +kernel
theorem dX4_moveSolo_26 : decode cX4_moveSolo 26 = .ok (.invokevirtual 68, 3) := by decide +kernel
theorem dX4_moveSolo_29 : decode cX4_moveSolo 29 = .ok (.invokevirtual 64, 3) := by decide +kernel
theorem dX4_moveSolo_32 : decode cX4_moveSolo 32 = .ok (.aload_n 0, 1) := by decide +kernel
theorem dX4_moveSolo_33 : decode cX4_moveSolo 33 = .ok (.getfield 38, 3) := by decide +kernel
theorem dX4_moveSolo_36 : decode cX4_moveSolo 36 = .ok (.iload_n 2, 1) := by decide +kernel
theorem dX4_moveSolo_37 : decode cX4_moveSolo 37 = .ok (.aload_n 0, 1) := by decide +kernel
theorem dX4_moveSolo_38 : decode cX4_moveSolo 38 = .ok (.getfield 38, 3) := by decide +kernel
theorem dX4_moveSolo_41 : decode cX4_moveSolo 41 = .ok (.iload_n 1, 1) := by decide +kernel
theorem dX4_moveSolo_42 : decode cX4_moveSolo 42 = .ok (.invokevirtual 68, 3) := by decide +kernel
theorem dX4_moveSolo_45 : decode cX4_moveSolo 45 = .ok (.invokevirtual 64, 3) := by decide +kernel
theorem dX4_moveSolo_48 : decode cX4_moveSolo 48 = .ok (.return_, 1) := by decide +kernel
set_option maxRecDepth 20000 in
theorem ggX4_isMarked_X2_at : GoodIn wsX4_isMarked wsX2_at := goodIn_r _ [6, 7, 24] (by decide +kernel) (by decide +kernel)
set_option maxRecDepth 20000 in
theorem gX4_isMarked_X2_at : GoodIn wsX4_isMarked (wsV RX4 68 RX2 yX2_at wsX2_at) := goodIn_app (goodIn_of _ (by decide +kernel)) ggX4_isMarked_X2_at
set_option maxRecDepth 20000 in
theorem ggX4_isMarked_X7_contains : GoodIn wsX4_isMarked wsX7_contains := goodIn_r _ [10] (by decide +kernel) (by decide +kernel)
set_option maxRecDepth 20000 in
theorem gX4_isMarked_X7_contains_n88 : GoodIn wsX4_isMarked (wsX7_contains) := ggX4_isMarked_X7_contains
theorem dX4_isMarked_0 : decode cX4_isMarked 0 = .ok (.aload_n 0, 1) := by decide +kernel
theorem dX4_isMarked_1 : decode cX4_isMarked 1 = .ok (.getfield 23, 3) := by decide +kernel
theorem dX4_isMarked_4 : decode cX4_isMarked 4 = .ok (.iload_n 2, 1) := by decide +kernel
theorem dX4_isMarked_5 : decode cX4_isMarked 5 = .ok (.invokevirtual 68, 3) := by decide +kernel
theorem dX4_isMarked_8 : decode cX4_isMarked 8 = .ok (.iload_n 1, 1) := by decide +kernel
theorem dX4_isMarked_9 : decode cX4_isMarked 9 = .ok (.invokestatic 88, 3) := by decide +kernel
theorem dX4_isMarked_12 : decode cX4_isMarked 12 = .ok (.ireturn, 1) := by decide +kernel
set_option maxRecDepth 20000 in
theorem ggX4_countMarks_X2_at : GoodIn wsX4_countMarks wsX2_at := goodIn_r _ [7, 8, 29] (by decide +kernel) (by decide +kernel)
set_option maxRecDepth 20000 in
theorem gX4_countMarks_X2_at : GoodIn wsX4_countMarks (wsV RX4 68 RX2 yX2_at wsX2_at) := goodIn_app (goodIn_of _ (by decide +kernel)) ggX4_countMarks_X2_at
set_option maxRecDepth 20000 in
theorem ggX4_countMarks_J6_bitCount_0f7a4 : GoodIn wsX4_countMarks wsJ6_bitCount_0f7a4 := goodIn_r _ [12, 13, 14, 15] (by decide +kernel) (by decide +kernel)
set_option maxRecDepth 20000 in
theorem gX4_countMarks_J6_bitCount_0f7a4 : GoodIn wsX4_countMarks (va_wsS RX4 92 yJ6_bitCount_0f7a4 wsJ6_bitCount_0f7a4) := goodIn_app (goodIn_of _ (by decide +kernel)) ggX4_countMarks_J6_bitCount_0f7a4
theorem dX4_countMarks_0 : decode cX4_countMarks 0 = .ok (.iconst 0, 1) := by decide +kernel
theorem dX4_countMarks_1 : decode cX4_countMarks 1 = .ok (.istore_n 1, 1) := by decide +kernel
theorem dX4_countMarks_2 : decode cX4_countMarks 2 = .ok (.iconst 0, 1) := by decide +kernel
theorem dX4_countMarks_3 : decode cX4_countMarks 3 = .ok (.istore_n 2, 1) := by decide +kernel
theorem dX4_countMarks_4 : decode cX4_countMarks 4 = .ok (.iload_n 2, 1) := by decide +kernel
theorem dX4_countMarks_5 : decode cX4_countMarks 5 = .ok (.aload_n 0, 1) := by decide +kernel
theorem dX4_countMarks_6 : decode cX4_countMarks 6 = .ok (.getfield 45, 3) := by decide +kernel
theorem dX4_countMarks_9 : decode cX4_countMarks 9 = .ok (.if_icmp .ge 23, 3) := by decide +kernel
theorem dX4_countMarks_12 : decode cX4_countMarks 12 = .ok (.iload_n 1, 1) := by decide +kernel
theorem dX4_countMarks_13 : decode cX4_countMarks 13 = .ok (.aload_n 0, 1) := by decide +kernel
theorem dX4_countMarks_14 : decode cX4_countMarks 14 = .ok (.getfield 23, 3) := by decide +kernel
theorem dX4_countMarks_17 : decode cX4_countMarks 17 = .ok (.iload_n 2, 1) := by decide +kernel
theorem dX4_countMarks_18 : decode cX4_countMarks 18 = .ok (.invokevirtual 68, 3) := by decide +kernel
theorem dX4_countMarks_21 : decode cX4_countMarks 21 = .ok (.invokestatic 92, 3) := by decide +kernel
theorem dX4_countMarks_24 : decode cX4_countMarks 24 = .ok (.iadd, 1) := by decide +kernel
theorem dX4_countMarks_25 : decode cX4_countMarks 25 = .ok (.istore_n 1, 1) := by decide +kernel
theorem dX4_countMarks_26 : decode cX4_countMarks 26 = .ok (.iinc 2 1, 3) := by decide +kernel
theorem dX4_countMarks_29 : decode cX4_countMarks 29 = .ok (.goto (-25), 3) := by decide +kernel
theorem dX4_countMarks_32 : decode cX4_countMarks 32 = .ok (.iload_n 1, 1) := by decide +kernel
theorem dX4_countMarks_33 : decode cX4_countMarks 33 = .ok (.ireturn, 1) := by decide +kernel
set_option maxRecDepth 20000 in
theorem ggX4_countMarksOf_X4_isMarked : GoodIn wsX4_countMarksOf wsX4_isMarked := goodIn_r _ [6, 7, 8, 9, 10, 11, 12, 13, 14, 15, 16, 17, 18, 19, 20, 21, 22, 23, 24, 25, 26, 27, 28, 29, 30] (by decide +kernel) (by decide +kernel)
set_option maxRecDepth 20000 in
theorem gX4_countMarksOf_X4_isMarked : GoodIn wsX4_countMarksOf (wsV RX4 100 RX4 yX4_isMarked wsX4_isMarked) := goodIn_app (goodIn_of _ (by decide +kernel)) ggX4_countMarksOf_X4_isMarked
theorem dX4_countMarksOf_0 : decode cX4_countMarksOf 0 = .ok (.iconst 0, 1) := by decide +kernel
theorem dX4_countMarksOf_1 : decode cX4_countMarksOf 1 = .ok (.istore_n 2, 1) := by decide +kernel
theorem dX4_countMarksOf_2 : decode cX4_countMarksOf 2 = .ok (.iconst 0, 1) := by decide +kernel
theorem dX4_countMarksOf_3 : decode cX4_countMarksOf 3 = .ok (.istore_n 3, 1) := by decide +kernel
theorem dX4_countMarksOf_4 : decode cX4_countMarksOf 4 = .ok (.iload_n 3, 1) := by decide +kernel
theorem dX4_countMarksOf_5 : decode cX4_countMarksOf 5 = .ok (.aload_n 0, 1) := by decide +kernel
theorem dX4_countMarksOf_6 : decode cX4_countMarksOf 6 = .ok (.getfield 45, 3) := by decide +kernel
theorem dX4_countMarksOf_9 : decode cX4_countMarksOf 9 = .ok (.if_icmp .ge 21, 3) := by decide +kernel
theorem dX4_countMarksOf_12 : decode cX4_countMarksOf 12 = .ok (.aload_n 0, 1) := by decide +kernel
theorem dX4_countMarksOf_13 : decode cX4_countMarksOf 13 = .ok (.iload_n 1, 1) := by decide +kernel
theorem dX4_countMarksOf_14 : decode cX4_countMarksOf 14 = .ok (.iload_n 3, 1) := by decide +kernel
theorem dX4_countMarksOf_15 : decode cX4_countMarksOf 15 = .ok (.invokevirtual 100, 3) := by decide +kernel
theorem dX4_countMarksOf_18 : decode cX4_countMarksOf 18 = .ok (.ifCond .eq 6, 3) := by decide +kernel
theorem dX4_countMarksOf_21 : decode cX4_countMarksOf 21 = .ok (.iinc 2 1, 3) := by decide +kernel
theorem dX4_countMarksOf_24 : decode cX4_countMarksOf 24 = .ok (.iinc 3 1, 3) := by decide +kernel
theorem dX4_countMarksOf_27 : decode cX4_countMarksOf 27 = .ok (.goto (-23), 3) := by decide +kernel
theorem dX4_countMarksOf_30 : decode cX4_countMarksOf 30 = .ok (.iload_n 2, 1) := by decide +kernel
theorem dX4_countMarksOf_31 : decode cX4_countMarksOf 31 = .ok (.ireturn, 1) := by decide +kernel
set_option maxRecDepth 20000 in
theorem ggX4_hasToSing_X4_isRest : GoodIn wsX4_hasToSing wsX4_isRest := goodIn_r _ [6, 7, 8, 9, 10, 11, 12, 13, 29, 30, 31, 32, 33, 34, 35, 36, 37, 38, 39, 40, 41, 42] (by decide +kernel) (by decide +kernel)
set_option maxRecDepth 20000 in
theorem gX4_hasToSing_X4_isRest : GoodIn wsX4_hasToSing (wsV RX4 72 RX4 yX4_isRest wsX4_isRest) := goodIn_app (goodIn_of _ (by decide +kernel)) ggX4_hasToSing_X4_isRest
set_option maxRecDepth 20000 in
theorem ggX4_hasToSing_X4_isPresent : GoodIn wsX4_hasToSing wsX4_isPresent := goodIn_r _ [17, 18, 19, 20, 21, 29, 30, 31, 32, 33, 34, 35, 36, 37, 38, 39, 40, 41] (by decide +kernel) (by decide +kernel)
set_option maxRecDepth 20000 in
theorem gX4_hasToSing_X4_isPresent : GoodIn wsX4_hasToSing (wsV RX4 103 RX4 yX4_isPresent wsX4_isPresent) := goodIn_app (goodIn_of _ (by decide +kernel)) ggX4_hasToSing_X4_isPresent
set_option maxRecDepth 20000 in
theorem ggX4_hasToSing_X4_soloAt : GoodIn wsX4_hasToSing wsX4_soloAt := goodIn_r _ [25, 26, 27, 28, 8, 9, 10, 11, 12, 13, 29, 30, 31, 32, 33, 34, 35, 36, 37, 38, 39, 40, 41, 42] (by decide +kernel) (by decide +kernel)
set_option maxRecDepth 20000 in
theorem gX4_hasToSing_X4_soloAt : GoodIn wsX4_hasToSing (wsV RX4 106 RX4 yX4_soloAt wsX4_soloAt) := goodIn_app (goodIn_of _ (by decide +kernel)) ggX4_hasToSing_X4_soloAt
set_option maxRecDepth 20000 in
theorem ggX4_hasToSing_X2_at : GoodIn wsX4_hasToSing wsX2_at := goodIn_r _ [12, 13, 42] (by decide +kernel) (by decide +kernel)
set_option maxRecDepth 20000 in
theorem gX4_hasToSing_X2_at : GoodIn wsX4_hasToSing (wsV RX4 68 RX2 yX2_at wsX2_at) := goodIn_app (goodIn_of _ (by decide +kernel)) ggX4_hasToSing_X2_at
theorem dX4_hasToSing_0 : decode cX4_hasToSing 0 = .ok (.aload_n 0, 1) := by decide +kernel
theorem dX4_hasToSing_1 : decode cX4_hasToSing 1 = .ok (.iload_n 2, 1) := by decide +kernel
theorem dX4_hasToSing_2 : decode cX4_hasToSing 2 = .ok (.invokevirtual 72, 3) := by decide +kernel
theorem dX4_hasToSing_5 : decode cX4_hasToSing 5 = .ok (.ifCond .ne 11, 3) := by decide +kernel
theorem dX4_hasToSing_8 : decode cX4_hasToSing 8 = .ok (.aload_n 0, 1) := by decide +kernel
theorem dX4_hasToSing_9 : decode cX4_hasToSing 9 = .ok (.iload_n 1, 1) := by decide +kernel
theorem dX4_hasToSing_10 : decode cX4_hasToSing 10 = .ok (.invokevirtual 103, 3) := by decide +kernel
theorem dX4_hasToSing_13 : decode cX4_hasToSing 13 = .ok (.ifCond .ne 5, 3) := by decide +kernel
theorem dX4_hasToSing_16 : decode cX4_hasToSing 16 = .ok (.iconst 0, 1) := by decide +kernel
theorem dX4_hasToSing_17 : decode cX4_hasToSing 17 = .ok (.ireturn, 1) := by decide +kernel
theorem dX4_hasToSing_18 : decode cX4_hasToSing 18 = .ok (.aload_n 0, 1) := by decide +kernel
theorem dX4_hasToSing_19 : decode cX4_hasToSing 19 = .ok (.iload_n 2, 1) := by decide +kernel
theorem dX4_hasToSing_20 : decode cX4_hasToSing 20 = .ok (.invokevirtual 106, 3) := by decide +kernel
theorem dX4_hasToSing_23 : decode cX4_hasToSing 23 = .ok (.istore_n 3, 1) := by decide +kernel
theorem dX4_hasToSing_24 : decode cX4_hasToSing 24 = .ok (.iload_n 3, 1) := by decide +kernel
theorem dX4_hasToSing_25 : decode cX4_hasToSing 25 = .ok (.bipush (-5), 2) := by decide +kernel
theorem dX4_hasToSing_27 : decode cX4_hasToSing 27 = .ok (.if_icmp .eq 15, 3) := by decide +kernel
theorem dX4_hasToSing_30 : decode cX4_hasToSing 30 = .ok (.aload_n 0, 1) := by decide +kernel
theorem dX4_hasToSing_31 : decode cX4_hasToSing 31 = .ok (.getfield 32, 3) := by decide +kernel
theorem dX4_hasToSing_34 : decode cX4_hasToSing 34 = .ok (.iload_n 3, 1) := by decide +kernel
theorem dX4_hasToSing_35 : decode cX4_hasToSing 35 = .ok (.invokevirtual 68, 3) := by decide +kernel
theorem dX4_hasToSing_38 : decode cX4_hasToSing 38 = .ok (.iload_n 1, 1) := by decide +kernel
theorem dX4_hasToSing_39 : decode cX4_hasToSing 39 = .ok (.if_icmp .ne 7, 3) := by decide +kernel
theorem dX4_hasToSing_42 : decode cX4_hasToSing 42 = .ok (.iconst 1, 1) := by decide +kernel
theorem dX4_hasToSing_43 : decode cX4_hasToSing 43 = .ok (.goto 4, 3) := by decide +kernel
theorem dX4_hasToSing_46 : decode cX4_hasToSing 46 = .ok (.iconst 0, 1) := by decide +kernel
theorem dX4_hasToSing_47 : decode cX4_hasToSing 47 = .ok (.ireturn, 1) := by decide +kernel
set_option maxRecDepth 20000 in
theorem ggX4_doing_X4_hasToSing : GoodIn wsX4_doing wsX4_hasToSing := goodIn_r _ [6, 7, 8, 9, 10, 5, 11, 12, 13, 14, 15, 16, 17, 18, 19, 20, 21, 22, 23, 24, 25, 26, 27, 28, 29, 30, 31, 32, 33, 39, 40, 41, 42, 43, 44, 45, 46, 47, 48, 49, 50, 51, 52] (by decide +kernel) (by decide +kernel)
set_option maxRecDepth 20000 in
theorem gX4_doing_X4_hasToSing : GoodIn wsX4_doing (wsV RX4 109 RX4 yX4_hasToSing wsX4_hasToSing) := goodIn_app (goodIn_of _ (by decide +kernel)) ggX4_doing_X4_hasToSing
set_option maxRecDepth 20000 in
theorem ggX4_doing_X4_isMarked : GoodIn wsX4_doing wsX4_isMarked := goodIn_r _ [37, 38, 13, 14, 15, 16, 17, 18, 24, 25, 26, 39, 40, 41, 42, 43, 44, 45, 46, 47, 48, 49, 50, 51, 52] (by decide +kernel) (by decide +kernel)
set_option maxRecDepth 20000 in
theorem gX4_doing_X4_isMarked : GoodIn wsX4_doing (wsV RX4 100 RX4 yX4_isMarked wsX4_isMarked) := goodIn_app (goodIn_of _ (by decide +kernel)) ggX4_doing_X4_isMarked
set_option maxRecDepth 20000 in
theorem ggX4_doing_X2_at : GoodIn wsX4_doing wsX2_at := goodIn_r _ [17, 18, 52] (by decide +kernel) (by decide +kernel)
set_option maxRecDepth 20000 in
theorem gX4_doing_X2_at : GoodIn wsX4_doing (wsV RX4 68 RX2 yX2_at wsX2_at) := goodIn_app (goodIn_of _ (by decide +kernel)) ggX4_doing_X2_at
theorem dX4_doing_0 : decode cX4_doing 0 = .ok (.aload_n 0, 1) := by decide +kernel
theorem dX4_doing_1 : decode cX4_doing 1 = .ok (.iload_n 1, 1) := by decide +kernel
theorem dX4_doing_2 : decode cX4_doing 2 = .ok (.iload_n 2, 1) := by decide +kernel
theorem dX4_doing_3 : decode cX4_doing 3 = .ok (.invokevirtual 109, 3) := by decide +kernel
theorem dX4_doing_6 : decode cX4_doing 6 = .ok (.ifCond .ne 5, 3) := by decide +kernel
theorem dX4_doing_9 : decode cX4_doing 9 = .ok (.iconst 3, 1) := by decide +kernel
theorem dX4_doing_10 : decode cX4_doing 10 = .ok (.ireturn, 1) := by decide +kernel
theorem dX4_doing_11 : decode cX4_doing 11 = .ok (.aload_n 0, 1) := by decide +kernel
theorem dX4_doing_12 : decode cX4_doing 12 = .ok (.iload_n 1, 1) := by decide +kernel
theorem dX4_doing_13 : decode cX4_doing 13 = .ok (.iload_n 2, 1) := by decide +kernel
theorem dX4_doing_14 : decode cX4_doing 14 = .ok (.invokevirtual 100, 3) := by decide +kernel
theorem dX4_doing_17 : decode cX4_doing 17 = .ok (.ifCond .eq 5, 3) := by decide +kernel
theorem dX4_doing_20 : decode cX4_doing 20 = .ok (.iconst 1, 1) := by decide +kernel
theorem dX4_doing_21 : decode cX4_doing 21 = .ok (.ireturn, 1) := by decide +kernel
theorem dX4_doing_22 : decode cX4_doing 22 = .ok (.iload_n 3, 1) := by decide +kernel
theorem dX4_doing_23 : decode cX4_doing 23 = .ok (.aload_n 0, 1) := by decide +kernel
theorem dX4_doing_24 : decode cX4_doing 24 = .ok (.getfield 20, 3) := by decide +kernel
theorem dX4_doing_27 : decode cX4_doing 27 = .ok (.iload_n 2, 1) := by decide +kernel
theorem dX4_doing_28 : decode cX4_doing 28 = .ok (.invokevirtual 68, 3) := by decide +kernel
theorem dX4_doing_31 : decode cX4_doing 31 = .ok (.if_icmp .ge 7, 3) := by decide +kernel
theorem dX4_doing_34 : decode cX4_doing 34 = .ok (.iconst 2, 1) := by decide +kernel
theorem dX4_doing_35 : decode cX4_doing 35 = .ok (.goto 4, 3) := by decide +kernel
theorem dX4_doing_38 : decode cX4_doing 38 = .ok (.iconst 0, 1) := by decide +kernel
theorem dX4_doing_39 : decode cX4_doing 39 = .ok (.ireturn, 1) := by decide +kernel
set_option maxRecDepth 20000 in
theorem ggX5_init_X2_init : GoodIn wsX5_init wsX2_init := goodIn_r _ [10, 11, 2, 3, 12, 13, 14, 15, 16, 17, 18] (by decide +kernel) (by decide +kernel)
set_option maxRecDepth 20000 in
theorem gX5_init_X2_init : GoodIn wsX5_init (wsX2_init) := ggX5_init_X2_init
theorem dX5_init_0 : decode cX5_init 0 = .ok (.aload_n 0, 1) := by decide +kernel
theorem dX5_init_1 : decode cX5_init 1 = .ok (.invokespecial 3, 3) := by decide +kernel
theorem dX5_init_4 : decode cX5_init 4 = .ok (.aload_n 0, 1) := by decide +kernel
theorem dX5_init_5 : decode cX5_init 5 = .ok (.new 9, 3) := by decide +kernel
theorem dX5_init_8 : decode cX5_init 8 = .ok (.dup, 1) := by decide +kernel
theorem dX5_init_9 : decode cX5_init 9 = .ok (.bipush 12, 2) := by decide +kernel
theorem dX5_init_11 : decode cX5_init 11 = .ok (.invokespecial 11, 3) := by decide +kernel
theorem dX5_init_14 : decode cX5_init 14 = .ok (.putfield 14, 3) := by decide +kernel
theorem dX5_init_17 : decode cX5_init 17 = .ok (.return_, 1) := by decide +kernel
set_option maxRecDepth 20000 in
theorem ggX5_makePlan_X2_clear : GoodIn wsX5_makePlan wsX2_clear := goodIn_r _ [9, 10, 123] (by decide +kernel) (by decide +kernel)
set_option maxRecDepth 20000 in
theorem gX5_makePlan_X2_clear : GoodIn wsX5_makePlan (wsV RX5 25 RX2 yX2_clear wsX2_clear) := goodIn_app (goodIn_of _ (by decide +kernel)) ggX5_makePlan_X2_clear
set_option maxRecDepth 20000 in
theorem ggX5_makePlan_X2_copyFrom : GoodIn wsX5_makePlan wsX2_copyFrom := goodIn_r _ [14, 10, 15, 16, 17, 8, 18, 123] (by decide +kernel) (by decide +kernel)
set_option maxRecDepth 20000 in
theorem gX5_makePlan_X2_copyFrom : GoodIn wsX5_makePlan (wsV RX5 31 RX2 yX2_copyFrom wsX2_copyFrom) := goodIn_app (goodIn_of _ (by decide +kernel)) ggX5_makePlan_X2_copyFrom
set_option maxRecDepth 20000 in
theorem ggX5_makePlan_X4_isRest : GoodIn wsX5_makePlan wsX4_isRest := goodIn_r _ [23, 24, 25, 16, 17, 8, 18, 10, 109, 110, 111, 112, 113, 114, 115, 116, 117, 118, 119, 120, 121, 123] (by decide +kernel) (by decide +kernel)
set_option maxRecDepth 20000 in
theorem gX5_makePlan_X4_isRest : GoodIn wsX5_makePlan (wsV RX5 39 RX4 yX4_isRest wsX4_isRest) := goodIn_app (goodIn_of _ (by decide +kernel)) ggX5_makePlan_X4_isRest
set_option maxRecDepth 20000 in
theorem ggX5_makePlan_X4_soloAt : GoodIn wsX5_makePlan wsX4_soloAt := goodIn_r _ [29, 30, 31, 32, 25, 16, 17, 8, 18, 10, 109, 110, 111, 112, 113, 114, 115, 116, 117, 118, 119, 120, 121, 123] (by decide +kernel) (by decide +kernel)
set_option maxRecDepth 20000 in
theorem gX5_makePlan_X4_soloAt : GoodIn wsX5_makePlan (wsV RX5 43 RX4 yX4_soloAt wsX4_soloAt) := goodIn_app (goodIn_of _ (by decide +kernel)) ggX5_makePlan_X4_soloAt
set_option maxRecDepth 20000 in
theorem ggX5_makePlan_X5_chooseFor : GoodIn wsX5_makePlan wsX5_chooseFor := goodIn_r _ [37, 38, 39, 40, 41, 42, 43, 44, 36, 45, 4, 46, 47, 19, 20, 21, 22, 23, 24, 25, 16, 17, 8, 18, 10, 48, 49, 50, 51, 52, 53, 54, 55, 56, 57, 58, 59, 60, 61, 62, 63, 64, 65, 2, 66, 67, 68, 69, 70, 71, 72, 73, 74, 75, 76, 77, 78, 109, 110, 111, 112, 113, 114, 115, 116, 117, 118, 119, 120, 121, 123, 122] (by decide +kernel) (by decide +kernel)
set_option maxRecDepth 20000 in
theorem gX5_makePlan_X5_chooseFor : GoodIn wsX5_makePlan (wsV RX5 47 RX5 yX5_chooseFor wsX5_chooseFor) := goodIn_app (goodIn_of _ (by decide +kernel)) ggX5_makePlan_X5_chooseFor
set_option maxRecDepth 20000 in
theorem ggX5_makePlan_X2_put : GoodIn wsX5_makePlan wsX2_put := goodIn_r _ [82, 10, 123] (by decide +kernel) (by decide +kernel)
set_option maxRecDepth 20000 in
theorem gX5_makePlan_X2_put : GoodIn wsX5_makePlan (wsV RX5 51 RX2 yX2_put wsX2_put) := goodIn_app (goodIn_of _ (by decide +kernel)) ggX5_makePlan_X2_put
set_option maxRecDepth 20000 in
theorem ggX5_makePlan_X5_goThrough : GoodIn wsX5_makePlan wsX5_goThrough := goodIn_r _ [86, 65, 2, 47, 87, 3, 88, 89, 40, 90, 48, 16, 17, 8, 18, 10, 91, 92, 93, 22, 94, 95, 96, 97, 98, 99, 100, 101, 20, 21, 23, 24, 25, 102, 67, 68, 69, 53, 70, 71, 72, 103, 27, 28, 29, 30, 31, 32, 104, 105, 106, 107, 108, 79, 80, 81, 82, 109, 110, 111, 112, 113, 114, 115, 116, 117, 118, 119, 120, 121, 122, 123] (by decide +kernel) (by decide +kernel)
set_option maxRecDepth 20000 in
theorem gX5_makePlan_X5_goThrough : GoodIn wsX5_makePlan (wsV RX5 55 RX5 yX5_goThrough wsX5_goThrough) := goodIn_app (goodIn_of _ (by decide +kernel)) ggX5_makePlan_X5_goThrough
theorem dX5_makePlan_0 : decode cX5_makePlan 0 = .ok (.aload_n 1, 1) := by decide +kernel
theorem dX5_makePlan_1 : decode cX5_makePlan 1 = .ok (.getfield 20, 3) := by decide +kernel
theorem dX5_makePlan_4 : decode cX5_makePlan 4 = .ok (.invokevirtual 25, 3) := by decide +kernel
theorem dX5_makePlan_7 : decode cX5_makePlan 7 = .ok (.aload_n 0, 1) := by decide +kernel
theorem dX5_makePlan_8 : decode cX5_makePlan 8 = .ok (.getfield 14, 3) := by decide +kernel
theorem dX5_makePlan_11 : decode cX5_makePlan 11 = .ok (.aload_n 1, 1) := by decide +kernel
theorem dX5_makePlan_12 : decode cX5_makePlan 12 = .ok (.getfield 28, 3) := by decide +kernel
theorem dX5_makePlan_15 : decode cX5_makePlan 15 = .ok (.invokevirtual 31, 3) := by decide +kernel
theorem dX5_makePlan_18 : decode cX5_makePlan 18 = .ok (.iconst 0, 1) := by decide +kernel
theorem dX5_makePlan_19 : decode cX5_makePlan 19 = .ok (.istore_n 2, 1) := by decide +kernel
theorem dX5_makePlan_20 : decode cX5_makePlan 20 = .ok (.iload_n 2, 1) := by decide +kernel
theorem dX5_makePlan_21 : decode cX5_makePlan 21 = .ok (.aload_n 1, 1) := by decide +kernel
theorem dX5_makePlan_22 : decode cX5_makePlan 22 = .ok (.getfield 35, 3) := by decide +kernel
theorem dX5_makePlan_25 : decode cX5_makePlan 25 = .ok (.if_icmp .ge 47, 3) := by decide +kernel
theorem dX5_makePlan_28 : decode cX5_makePlan 28 = .ok (.aload_n 1, 1) := by decide +kernel
theorem dX5_makePlan_29 : decode cX5_makePlan 29 = .ok (.iload_n 2, 1) := by decide +kernel
theorem dX5_makePlan_30 : decode cX5_makePlan 30 = .ok (.invokevirtual 39, 3) := by decide +kernel
theorem dX5_makePlan_33 : decode cX5_makePlan 33 = .ok (.ifCond .ne 27, 3) := by decide +kernel
theorem dX5_makePlan_36 : decode cX5_makePlan 36 = .ok (.aload_n 1, 1) := by decide +kernel
theorem dX5_makePlan_37 : decode cX5_makePlan 37 = .ok (.iload_n 2, 1) := by decide +kernel
theorem dX5_makePlan_38 : decode cX5_makePlan 38 = .ok (.invokevirtual 43, 3) := by decide +kernel
theorem dX5_makePlan_41 : decode cX5_makePlan 41 = .ok (.bipush (-5), 2) := by decide +kernel
theorem dX5_makePlan_43 : decode cX5_makePlan 43 = .ok (.if_icmp .ne 17, 3) := by decide +kernel
theorem dX5_makePlan_46 : decode cX5_makePlan 46 = .ok (.aload_n 1, 1) := by decide +kernel
theorem dX5_makePlan_47 : decode cX5_makePlan 47 = .ok (.getfield 20, 3) := by decide +kernel
theorem dX5_makePlan_50 : decode cX5_makePlan 50 = .ok (.iload_n 2, 1) := by decide +kernel
theorem dX5_makePlan_51 : decode cX5_makePlan 51 = .ok (.aload_n 0, 1) := by decide +kernel
theorem dX5_makePlan_52 : decode cX5_makePlan 52 = .ok (.aload_n 1, 1) := by decide +kernel
theorem dX5_makePlan_53 : decode cX5_makePlan 53 = .ok (.iload_n 2, 1) := by decide +kernel
theorem dX5_makePlan_54 : decode cX5_makePlan 54 = .ok (.invokevirtual 47, 3) := by decide +kernel
theorem dX5_makePlan_57 : decode cX5_makePlan 57 = .ok (.invokevirtual 51, 3) := by decide +kernel
theorem dX5_makePlan_60 : decode cX5_makePlan 60 = .ok (.aload_n 0, 1) := by decide +kernel
theorem dX5_makePlan_61 : decode cX5_makePlan 61 = .ok (.aload_n 1, 1) := by decide +kernel
theorem dX5_makePlan_62 : decode cX5_makePlan 62 = .ok (.iload_n 2, 1) := by decide +kernel
theorem dX5_makePlan_63 : decode cX5_makePlan 63 = .ok (.invokevirtual 55, 3) := by decide +kernel
theorem dX5_makePlan_66 : decode cX5_makePlan 66 = .ok (.iinc 2 1, 3) := by decide +kernel
theorem dX5_makePlan_69 : decode cX5_makePlan 69 = .ok (.goto (-49), 3) := by decide +kernel
theorem dX5_makePlan_72 : decode cX5_makePlan 72 = .ok (.return_, 1) := by decide +kernel
set_option maxRecDepth 20000 in
theorem ggX5_chooseFor_X5_neededFrom : GoodIn wsX5_chooseFor wsX5_neededFrom := goodIn_r _ [9, 10, 11, 12, 13, 14, 15, 16, 17, 18, 19, 20, 21, 22, 23, 24, 25, 57, 58, 59, 60, 61, 62, 63, 64, 65, 66, 67, 68, 69, 70] (by decide +kernel) (by decide +kernel)
set_option maxRecDepth 20000 in
theorem gX5_chooseFor_X5_neededFrom : GoodIn wsX5_chooseFor (wsV RX5 59 RX5 yX5_neededFrom wsX5_neededFrom) := goodIn_app (goodIn_of _ (by decide +kernel)) ggX5_chooseFor_X5_neededFrom
set_option maxRecDepth 20000 in
theorem ggX5_chooseFor_X4_countPresent : GoodIn wsX5_chooseFor wsX4_countPresent := goodIn_r _ [29, 30, 31, 32, 33, 34, 35, 36, 37, 57, 58, 59, 60, 61, 62, 63, 64, 65, 66, 67, 68, 69] (by decide +kernel) (by decide +kernel)
set_option maxRecDepth 20000 in
theorem gX5_chooseFor_X4_countPresent : GoodIn wsX5_chooseFor (wsV RX5 62 RX4 yX4_countPresent wsX4_countPresent) := goodIn_app (goodIn_of _ (by decide +kernel)) ggX5_chooseFor_X4_countPresent
set_option maxRecDepth 20000 in
theorem ggX5_chooseFor_X5_shortestOfBreath : GoodIn wsX5_chooseFor wsX5_shortestOfBreath := goodIn_r _ [41, 42, 43, 44, 45, 46, 16, 47, 30, 48, 49, 50, 25, 20, 21, 22, 23, 24, 57, 58, 59, 60, 61, 62, 63, 64, 65, 66, 67, 68, 69, 71, 70] (by decide +kernel) (by decide +kernel)
set_option maxRecDepth 20000 in
theorem gX5_chooseFor_X5_shortestOfBreath : GoodIn wsX5_chooseFor (wsV RX5 72 RX5 yX5_shortestOfBreath wsX5_shortestOfBreath) := goodIn_app (goodIn_of _ (by decide +kernel)) ggX5_chooseFor_X5_shortestOfBreath
set_option maxRecDepth 20000 in
theorem ggX5_chooseFor_X7_bit : GoodIn wsX5_chooseFor wsX7_bit := goodIn_r _ [52] (by decide +kernel) (by decide +kernel)
set_option maxRecDepth 20000 in
theorem gX5_chooseFor_X7_bit_n76 : GoodIn wsX5_chooseFor (wsX7_bit) := ggX5_chooseFor_X7_bit
set_option maxRecDepth 20000 in
theorem ggX5_chooseFor_X5_canBeSungWithout : GoodIn wsX5_chooseFor wsX5_canBeSungWithout := goodIn_r _ [56, 42, 43, 12, 44, 45, 46, 16, 47, 30, 48, 49, 50, 25, 20, 21, 22, 23, 24, 57, 58, 59, 60, 61, 62, 63, 64, 65, 66, 67, 68, 69, 71, 70] (by decide +kernel) (by decide +kernel)
set_option maxRecDepth 20000 in
theorem gX5_chooseFor_X5_canBeSungWithout : GoodIn wsX5_chooseFor (wsV RX5 79 RX5 yX5_canBeSungWithout wsX5_canBeSungWithout) := goodIn_app (goodIn_of _ (by decide +kernel)) ggX5_chooseFor_X5_canBeSungWithout
theorem dX5_chooseFor_0 : decode cX5_chooseFor 0 = .ok (.aload_n 0, 1) := by decide +kernel
theorem dX5_chooseFor_1 : decode cX5_chooseFor 1 = .ok (.aload_n 1, 1) := by decide +kernel
theorem dX5_chooseFor_2 : decode cX5_chooseFor 2 = .ok (.iload_n 2, 1) := by decide +kernel
theorem dX5_chooseFor_3 : decode cX5_chooseFor 3 = .ok (.invokevirtual 59, 3) := by decide +kernel
theorem dX5_chooseFor_6 : decode cX5_chooseFor 6 = .ok (.istore_n 3, 1) := by decide +kernel
theorem dX5_chooseFor_7 : decode cX5_chooseFor 7 = .ok (.iconst 1, 1) := by decide +kernel
theorem dX5_chooseFor_8 : decode cX5_chooseFor 8 = .ok (.aload_n 1, 1) := by decide +kernel
theorem dX5_chooseFor_9 : decode cX5_chooseFor 9 = .ok (.invokevirtual 62, 3) := by decide +kernel
theorem dX5_chooseFor_12 : decode cX5_chooseFor 12 = .ok (.iconst 2, 1) := by decide +kernel
theorem dX5_chooseFor_13 : decode cX5_chooseFor 13 = .ok (.idiv, 1) := by decide +kernel
theorem dX5_chooseFor_14 : decode cX5_chooseFor 14 = .ok (.invokestatic 66, 3) := by decide +kernel
theorem dX5_chooseFor_17 : decode cX5_chooseFor 17 = .ok (.istore 4, 2) := by decide +kernel
theorem dX5_chooseFor_19 : decode cX5_chooseFor 19 = .ok (.iconst 0, 1) := by decide +kernel
theorem dX5_chooseFor_20 : decode cX5_chooseFor 20 = .ok (.istore 5, 2) := by decide +kernel
theorem dX5_chooseFor_22 : decode cX5_chooseFor 22 = .ok (.iconst 0, 1) := by decide +kernel
theorem dX5_chooseFor_23 : decode cX5_chooseFor 23 = .ok (.istore 6, 2) := by decide +kernel
theorem dX5_chooseFor_25 : decode cX5_chooseFor 25 = .ok (.iload 6, 2) := by decide +kernel
theorem dX5_chooseFor_27 : decode cX5_chooseFor 27 = .ok (.iload 4, 2) := by decide +kernel
theorem dX5_chooseFor_29 : decode cX5_chooseFor 29 = .ok (.if_icmp .ge 56, 3) := by decide +kernel
theorem dX5_chooseFor_32 : decode cX5_chooseFor 32 = .ok (.aload_n 0, 1) := by decide +kernel
theorem dX5_chooseFor_33 : decode cX5_chooseFor 33 = .ok (.aload_n 1, 1) := by decide +kernel
theorem dX5_chooseFor_34 : decode cX5_chooseFor 34 = .ok (.iload_n 3, 1) := by decide +kernel
theorem dX5_chooseFor_35 : decode cX5_chooseFor 35 = .ok (.iload 5, 2) := by decide +kernel
theorem dX5_chooseFor_37 : decode cX5_chooseFor 37 = .ok (.invokevirtual 72, 3) := by decide +kernel
theorem dX5_chooseFor_40 : decode cX5_chooseFor 40 = .ok (.istore 7, 2) := by decide +kernel
theorem dX5_chooseFor_42 : decode cX5_chooseFor 42 = .ok (.iload 7, 2) := by decide +kernel
theorem dX5_chooseFor_44 : decode cX5_chooseFor 44 = .ok (.bipush (-5), 2) := by decide +kernel
theorem dX5_chooseFor_46 : decode cX5_chooseFor 46 = .ok (.if_icmp .eq 20, 3) := by decide +kernel
theorem dX5_chooseFor_49 : decode cX5_chooseFor 49 = .ok (.aload_n 0, 1) := by decide +kernel
theorem dX5_chooseFor_50 : decode cX5_chooseFor 50 = .ok (.aload_n 1, 1) := by decide +kernel
theorem dX5_chooseFor_51 : decode cX5_chooseFor 51 = .ok (.iload 5, 2) := by decide +kernel
theorem dX5_chooseFor_53 : decode cX5_chooseFor 53 = .ok (.iload 7, 2) := by decide +kernel
theorem dX5_chooseFor_55 : decode cX5_chooseFor 55 = .ok (.invokestatic 76, 3) := by decide +kernel
theorem dX5_chooseFor_58 : decode cX5_chooseFor 58 = .ok (.ior, 1) := by decide +kernel
theorem dX5_chooseFor_59 : decode cX5_chooseFor 59 = .ok (.iload_n 2, 1) := by decide +kernel
theorem dX5_chooseFor_60 : decode cX5_chooseFor 60 = .ok (.invokevirtual 79, 3) := by decide +kernel
theorem dX5_chooseFor_63 : decode cX5_chooseFor 63 = .ok (.ifCond .ne 6, 3) := by decide +kernel
theorem dX5_chooseFor_66 : decode cX5_chooseFor 66 = .ok (.iload 5, 2) := by decide +kernel
theorem dX5_chooseFor_68 : decode cX5_chooseFor 68 = .ok (.ireturn, 1) := by decide +kernel
theorem dX5_chooseFor_69 : decode cX5_chooseFor 69 = .ok (.iload 5, 2) := by decide +kernel
theorem dX5_chooseFor_71 : decode cX5_chooseFor 71 = .ok (.iload 7, 2) := by decide +kernel
theorem dX5_chooseFor_73 : decode cX5_chooseFor 73 = .ok (.invokestatic 76, 3) := by decide +kernel
theorem dX5_chooseFor_76 : decode cX5_chooseFor 76 = .ok (.ior, 1) := by decide +kernel
theorem dX5_chooseFor_77 : decode cX5_chooseFor 77 = .ok (.istore 5, 2) := by decide +kernel
theorem dX5_chooseFor_79 : decode cX5_chooseFor 79 = .ok (.iinc 6 1, 3) := by decide +kernel
theorem dX5_chooseFor_82 : decode cX5_chooseFor 82 = .ok (.goto (-57), 3) := by decide +kernel
theorem dX5_chooseFor_85 : decode cX5_chooseFor 85 = .ok (.iload 5, 2) := by decide +kernel
theorem dX5_chooseFor_87 : decode cX5_chooseFor 87 = .ok (.ireturn, 1) := by decide +kernel
set_option maxRecDepth 20000 in
theorem ggX5_neededFrom_X4_isRest : GoodIn wsX5_neededFrom wsX4_isRest := goodIn_r _ [8, 9, 10, 11, 12, 13, 14, 15, 17, 18, 19, 20, 21, 22, 23, 24, 25, 26, 27, 28, 29, 30] (by decide +kernel) (by decide +kernel)
set_option maxRecDepth 20000 in
theorem gX5_neededFrom_X4_isRest : GoodIn wsX5_neededFrom (wsV RX5 39 RX4 yX4_isRest wsX4_isRest) := goodIn_app (goodIn_of _ (by decide +kernel)) ggX5_neededFrom_X4_isRest
set_option maxRecDepth 20000 in
theorem ggX5_neededFrom_X2_at : GoodIn wsX5_neededFrom wsX2_at := goodIn_r _ [14, 15, 30] (by decide +kernel) (by decide +kernel)
set_option maxRecDepth 20000 in
theorem gX5_neededFrom_X2_at : GoodIn wsX5_neededFrom (wsV RX5 89 RX2 yX2_at wsX2_at) := goodIn_app (goodIn_of _ (by decide +kernel)) ggX5_neededFrom_X2_at
theorem dX5_neededFrom_0 : decode cX5_neededFrom 0 = .ok (.iconst 0, 1) := by decide +kernel
theorem dX5_neededFrom_1 : decode cX5_neededFrom 1 = .ok (.istore_n 3, 1) := by decide +kernel
theorem dX5_neededFrom_2 : decode cX5_neededFrom 2 = .ok (.iconst 0, 1) := by decide +kernel
theorem dX5_neededFrom_3 : decode cX5_neededFrom 3 = .ok (.istore 4, 2) := by decide +kernel
theorem dX5_neededFrom_5 : decode cX5_neededFrom 5 = .ok (.iload_n 2, 1) := by decide +kernel
theorem dX5_neededFrom_6 : decode cX5_neededFrom 6 = .ok (.istore 5, 2) := by decide +kernel
theorem dX5_neededFrom_8 : decode cX5_neededFrom 8 = .ok (.iload 5, 2) := by decide +kernel
theorem dX5_neededFrom_10 : decode cX5_neededFrom 10 = .ok (.aload_n 1, 1) := by decide +kernel
theorem dX5_neededFrom_11 : decode cX5_neededFrom 11 = .ok (.getfield 35, 3) := by decide +kernel
theorem dX5_neededFrom_14 : decode cX5_neededFrom 14 = .ok (.if_icmp .ge 42, 3) := by decide +kernel
theorem dX5_neededFrom_17 : decode cX5_neededFrom 17 = .ok (.iload 4, 2) := by decide +kernel
theorem dX5_neededFrom_19 : decode cX5_neededFrom 19 = .ok (.aload_n 1, 1) := by decide +kernel
theorem dX5_neededFrom_20 : decode cX5_neededFrom 20 = .ok (.getfield 83, 3) := by decide +kernel
theorem dX5_neededFrom_23 : decode cX5_neededFrom 23 = .ok (.if_icmp .ge 33, 3) := by decide +kernel
theorem dX5_neededFrom_26 : decode cX5_neededFrom 26 = .ok (.aload_n 1, 1) := by decide +kernel
theorem dX5_neededFrom_27 : decode cX5_neededFrom 27 = .ok (.iload 5, 2) := by decide +kernel
theorem dX5_neededFrom_29 : decode cX5_neededFrom 29 = .ok (.invokevirtual 39, 3) := by decide +kernel
theorem dX5_neededFrom_32 : decode cX5_neededFrom 32 = .ok (.ifCond .ne 18, 3) := by decide +kernel
theorem dX5_neededFrom_35 : decode cX5_neededFrom 35 = .ok (.iload_n 3, 1) := by decide +kernel
theorem dX5_neededFrom_36 : decode cX5_neededFrom 36 = .ok (.aload_n 1, 1) := by decide +kernel
theorem dX5_neededFrom_37 : decode cX5_neededFrom 37 = .ok (.getfield 86, 3) := by decide +kernel
theorem dX5_neededFrom_40 : decode cX5_neededFrom 40 = .ok (.iload 5, 2) := by decide +kernel
theorem dX5_neededFrom_42 : decode cX5_neededFrom 42 = .ok (.invokevirtual 89, 3) := by decide +kernel
theorem dX5_neededFrom_45 : decode cX5_neededFrom 45 = .ok (.iadd, 1) := by decide +kernel
theorem dX5_neededFrom_46 : decode cX5_neededFrom 46 = .ok (.istore_n 3, 1) := by decide +kernel
theorem dX5_neededFrom_47 : decode cX5_neededFrom 47 = .ok (.iinc 4 1, 3) := by decide +kernel
theorem dX5_neededFrom_50 : decode cX5_neededFrom 50 = .ok (.iinc 5 1, 3) := by decide +kernel
end
section
theorem dX5_neededFrom_53 : decode cX5_neededFrom 53 = .ok (.goto (-45), 3) := by decide +kernel
theorem dX5_neededFrom_56 : decode cX5_neededFrom 56 = .ok (.iload_n 3, 1) := by decide +kernel
theorem dX5_neededFrom_57 : decode cX5_neededFrom 57 = .ok (.ireturn, 1) := by decide +kernel
set_option maxRecDepth 20000 in
theorem ggX5_shortestOfBreath_X4_isPresent : GoodIn wsX5_shortestOfBreath wsX4_isPresent := goodIn_r _ [7, 8, 9, 10, 11, 18, 19, 20, 21, 22, 23, 24, 25, 26, 27, 28, 29, 30] (by decide +kernel) (by decide +kernel)
set_option maxRecDepth 20000 in
theorem gX5_shortestOfBreath_X4_isPresent : GoodIn wsX5_shortestOfBreath (wsV RX5 95 RX4 yX4_isPresent wsX4_isPresent) := goodIn_app (goodIn_of _ (by decide +kernel)) ggX5_shortestOfBreath_X4_isPresent
set_option maxRecDepth 20000 in
theorem ggX5_shortestOfBreath_X7_contains : GoodIn wsX5_shortestOfBreath wsX7_contains := goodIn_r _ [11] (by decide +kernel) (by decide +kernel)
set_option maxRecDepth 20000 in
theorem gX5_shortestOfBreath_X7_contains_n98 : GoodIn wsX5_shortestOfBreath (wsX7_contains) := ggX5_shortestOfBreath_X7_contains
set_option maxRecDepth 20000 in
theorem ggX5_shortestOfBreath_X2_at : GoodIn wsX5_shortestOfBreath wsX2_at := goodIn_r _ [16, 17, 32] (by decide +kernel) (by decide +kernel)
set_option maxRecDepth 20000 in
theorem gX5_shortestOfBreath_X2_at : GoodIn wsX5_shortestOfBreath (wsV RX5 89 RX2 yX2_at wsX2_at) := goodIn_app (goodIn_of _ (by decide +kernel)) ggX5_shortestOfBreath_X2_at
theorem dX5_shortestOfBreath_0 : decode cX5_shortestOfBreath 0 = .ok (.bipush (-5), 2) := by decide +kernel
theorem dX5_shortestOfBreath_2 : decode cX5_shortestOfBreath 2 = .ok (.istore 4, 2) := by decide +kernel
theorem dX5_shortestOfBreath_4 : decode cX5_shortestOfBreath 4 = .ok (.iload_n 2, 1) := by decide +kernel
theorem dX5_shortestOfBreath_5 : decode cX5_shortestOfBreath 5 = .ok (.istore 5, 2) := by decide +kernel
theorem dX5_shortestOfBreath_7 : decode cX5_shortestOfBreath 7 = .ok (.iconst 0, 1) := by decide +kernel
theorem dX5_shortestOfBreath_8 : decode cX5_shortestOfBreath 8 = .ok (.istore 6, 2) := by decide +kernel
theorem dX5_shortestOfBreath_10 : decode cX5_shortestOfBreath 10 = .ok (.iload 6, 2) := by decide +kernel
theorem dX5_shortestOfBreath_12 : decode cX5_shortestOfBreath 12 = .ok (.aload_n 1, 1) := by decide +kernel
theorem dX5_shortestOfBreath_13 : decode cX5_shortestOfBreath 13 = .ok (.getfield 92, 3) := by decide +kernel
theorem dX5_shortestOfBreath_16 : decode cX5_shortestOfBreath 16 = .ok (.if_icmp .ge 68, 3) := by decide +kernel
theorem dX5_shortestOfBreath_19 : decode cX5_shortestOfBreath 19 = .ok (.aload_n 1, 1) := by decide +kernel
theorem dX5_shortestOfBreath_20 : decode cX5_shortestOfBreath 20 = .ok (.iload 6, 2) := by decide +kernel
theorem dX5_shortestOfBreath_22 : decode cX5_shortestOfBreath 22 = .ok (.invokevirtual 95, 3) := by decide +kernel
theorem dX5_shortestOfBreath_25 : decode cX5_shortestOfBreath 25 = .ok (.ifCond .eq 16, 3) := by decide +kernel
theorem dX5_shortestOfBreath_28 : decode cX5_shortestOfBreath 28 = .ok (.iload_n 3, 1) := by decide +kernel
theorem dX5_shortestOfBreath_29 : decode cX5_shortestOfBreath 29 = .ok (.iload 6, 2) := by decide +kernel
theorem dX5_shortestOfBreath_31 : decode cX5_shortestOfBreath 31 = .ok (.invokestatic 98, 3) := by decide +kernel
theorem dX5_shortestOfBreath_34 : decode cX5_shortestOfBreath 34 = .ok (.ifCond .ne 7, 3) := by decide +kernel
theorem dX5_shortestOfBreath_37 : decode cX5_shortestOfBreath 37 = .ok (.iconst 1, 1) := by decide +kernel
theorem dX5_shortestOfBreath_38 : decode cX5_shortestOfBreath 38 = .ok (.goto 4, 3) := by decide +kernel
theorem dX5_shortestOfBreath_41 : decode cX5_shortestOfBreath 41 = .ok (.iconst 0, 1) := by decide +kernel
theorem dX5_shortestOfBreath_42 : decode cX5_shortestOfBreath 42 = .ok (.istore 7, 2) := by decide +kernel
theorem dX5_shortestOfBreath_44 : decode cX5_shortestOfBreath 44 = .ok (.iload 7, 2) := by decide +kernel
theorem dX5_shortestOfBreath_46 : decode cX5_shortestOfBreath 46 = .ok (.ifCond .eq 32, 3) := by decide +kernel
theorem dX5_shortestOfBreath_49 : decode cX5_shortestOfBreath 49 = .ok (.aload_n 0, 1) := by decide +kernel
theorem dX5_shortestOfBreath_50 : decode cX5_shortestOfBreath 50 = .ok (.getfield 14, 3) := by decide +kernel
theorem dX5_shortestOfBreath_53 : decode cX5_shortestOfBreath 53 = .ok (.iload 6, 2) := by decide +kernel
theorem dX5_shortestOfBreath_55 : decode cX5_shortestOfBreath 55 = .ok (.invokevirtual 89, 3) := by decide +kernel
theorem dX5_shortestOfBreath_58 : decode cX5_shortestOfBreath 58 = .ok (.iload 5, 2) := by decide +kernel
theorem dX5_shortestOfBreath_60 : decode cX5_shortestOfBreath 60 = .ok (.if_icmp .ge 18, 3) := by decide +kernel
theorem dX5_shortestOfBreath_63 : decode cX5_shortestOfBreath 63 = .ok (.iload 6, 2) := by decide +kernel
theorem dX5_shortestOfBreath_65 : decode cX5_shortestOfBreath 65 = .ok (.istore 4, 2) := by decide +kernel
theorem dX5_shortestOfBreath_67 : decode cX5_shortestOfBreath 67 = .ok (.aload_n 0, 1) := by decide +kernel
theorem dX5_shortestOfBreath_68 : decode cX5_shortestOfBreath 68 = .ok (.getfield 14, 3) := by decide +kernel
theorem dX5_shortestOfBreath_71 : decode cX5_shortestOfBreath 71 = .ok (.iload 6, 2) := by decide +kernel
theorem dX5_shortestOfBreath_73 : decode cX5_shortestOfBreath 73 = .ok (.invokevirtual 89, 3) := by decide +kernel
theorem dX5_shortestOfBreath_76 : decode cX5_shortestOfBreath 76 = .ok (.istore 5, 2) := by decide +kernel
theorem dX5_shortestOfBreath_78 : decode cX5_shortestOfBreath 78 = .ok (.iinc 6 1, 3) := by decide +kernel
theorem dX5_shortestOfBreath_81 : decode cX5_shortestOfBreath 81 = .ok (.goto (-71), 3) := by decide +kernel
theorem dX5_shortestOfBreath_84 : decode cX5_shortestOfBreath 84 = .ok (.iload 4, 2) := by decide +kernel
theorem dX5_shortestOfBreath_86 : decode cX5_shortestOfBreath 86 = .ok (.ireturn, 1) := by decide +kernel
set_option maxRecDepth 20000 in
theorem ggX5_canBeSungWithout_X4_isPresent : GoodIn wsX5_canBeSungWithout wsX4_isPresent := goodIn_r _ [8, 9, 10, 11, 12, 19, 20, 21, 22, 23, 24, 25, 26, 27, 28, 29, 30, 31] (by decide +kernel) (by decide +kernel)
set_option maxRecDepth 20000 in
theorem gX5_canBeSungWithout_X4_isPresent : GoodIn wsX5_canBeSungWithout (wsV RX5 95 RX4 yX4_isPresent wsX4_isPresent) := goodIn_app (goodIn_of _ (by decide +kernel)) ggX5_canBeSungWithout_X4_isPresent
set_option maxRecDepth 20000 in
theorem ggX5_canBeSungWithout_X7_contains : GoodIn wsX5_canBeSungWithout wsX7_contains := goodIn_r _ [12] (by decide +kernel) (by decide +kernel)
set_option maxRecDepth 20000 in
theorem gX5_canBeSungWithout_X7_contains_n98 : GoodIn wsX5_canBeSungWithout (wsX7_contains) := ggX5_canBeSungWithout_X7_contains
set_option maxRecDepth 20000 in
theorem ggX5_canBeSungWithout_X2_at : GoodIn wsX5_canBeSungWithout wsX2_at := goodIn_r _ [17, 18, 33] (by decide +kernel) (by decide +kernel)
set_option maxRecDepth 20000 in
theorem gX5_canBeSungWithout_X2_at : GoodIn wsX5_canBeSungWithout (wsV RX5 89 RX2 yX2_at wsX2_at) := goodIn_app (goodIn_of _ (by decide +kernel)) ggX5_canBeSungWithout_X2_at
theorem dX5_canBeSungWithout_0 : decode cX5_canBeSungWithout 0 = .ok (.iconst 0, 1) := by decide +kernel
theorem dX5_canBeSungWithout_1 : decode cX5_canBeSungWithout 1 = .ok (.istore 4, 2) := by decide +kernel
theorem dX5_canBeSungWithout_3 : decode cX5_canBeSungWithout 3 = .ok (.iload 4, 2) := by decide +kernel
theorem dX5_canBeSungWithout_5 : decode cX5_canBeSungWithout 5 = .ok (.aload_n 1, 1) := by decide +kernel
theorem dX5_canBeSungWithout_6 : decode cX5_canBeSungWithout 6 = .ok (.getfield 92, 3) := by decide +kernel
theorem dX5_canBeSungWithout_9 : decode cX5_canBeSungWithout 9 = .ok (.if_icmp .ge 61, 3) := by decide +kernel
theorem dX5_canBeSungWithout_12 : decode cX5_canBeSungWithout 12 = .ok (.aload_n 1, 1) := by decide +kernel
theorem dX5_canBeSungWithout_13 : decode cX5_canBeSungWithout 13 = .ok (.iload 4, 2) := by decide +kernel
theorem dX5_canBeSungWithout_15 : decode cX5_canBeSungWithout 15 = .ok (.invokevirtual 95, 3) := by decide +kernel
theorem dX5_canBeSungWithout_18 : decode cX5_canBeSungWithout 18 = .ok (.ifCond .eq 16, 3) := by decide +kernel
theorem dX5_canBeSungWithout_21 : decode cX5_canBeSungWithout 21 = .ok (.iload_n 2, 1) := by decide +kernel
theorem dX5_canBeSungWithout_22 : decode cX5_canBeSungWithout 22 = .ok (.iload 4, 2) := by decide +kernel
theorem dX5_canBeSungWithout_24 : decode cX5_canBeSungWithout 24 = .ok (.invokestatic 98, 3) := by decide +kernel
theorem dX5_canBeSungWithout_27 : decode cX5_canBeSungWithout 27 = .ok (.ifCond .ne 7, 3) := by decide +kernel
theorem dX5_canBeSungWithout_30 : decode cX5_canBeSungWithout 30 = .ok (.iconst 1, 1) := by decide +kernel
theorem dX5_canBeSungWithout_31 : decode cX5_canBeSungWithout 31 = .ok (.goto 4, 3) := by decide +kernel
theorem dX5_canBeSungWithout_34 : decode cX5_canBeSungWithout 34 = .ok (.iconst 0, 1) := by decide +kernel
theorem dX5_canBeSungWithout_35 : decode cX5_canBeSungWithout 35 = .ok (.istore 5, 2) := by decide +kernel
theorem dX5_canBeSungWithout_37 : decode cX5_canBeSungWithout 37 = .ok (.iload 5, 2) := by decide +kernel
theorem dX5_canBeSungWithout_39 : decode cX5_canBeSungWithout 39 = .ok (.ifCond .eq 25, 3) := by decide +kernel
theorem dX5_canBeSungWithout_42 : decode cX5_canBeSungWithout 42 = .ok (.aload_n 0, 1) := by decide +kernel
theorem dX5_canBeSungWithout_43 : decode cX5_canBeSungWithout 43 = .ok (.getfield 14, 3) := by decide +kernel
theorem dX5_canBeSungWithout_46 : decode cX5_canBeSungWithout 46 = .ok (.iload 4, 2) := by decide +kernel
theorem dX5_canBeSungWithout_48 : decode cX5_canBeSungWithout 48 = .ok (.invokevirtual 89, 3) := by decide +kernel
theorem dX5_canBeSungWithout_51 : decode cX5_canBeSungWithout 51 = .ok (.aload_n 1, 1) := by decide +kernel
theorem dX5_canBeSungWithout_52 : decode cX5_canBeSungWithout 52 = .ok (.getfield 86, 3) := by decide +kernel
theorem dX5_canBeSungWithout_55 : decode cX5_canBeSungWithout 55 = .ok (.iload_n 3, 1) := by decide +kernel
theorem dX5_canBeSungWithout_56 : decode cX5_canBeSungWithout 56 = .ok (.invokevirtual 89, 3) := by decide +kernel
theorem dX5_canBeSungWithout_59 : decode cX5_canBeSungWithout 59 = .ok (.if_icmp .lt 5, 3) := by decide +kernel
theorem dX5_canBeSungWithout_62 : decode cX5_canBeSungWithout 62 = .ok (.iconst 1, 1) := by decide +kernel
theorem dX5_canBeSungWithout_63 : decode cX5_canBeSungWithout 63 = .ok (.ireturn, 1) := by decide +kernel
theorem dX5_canBeSungWithout_64 : decode cX5_canBeSungWithout 64 = .ok (.iinc 4 1, 3) := by decide +kernel
theorem dX5_canBeSungWithout_67 : decode cX5_canBeSungWithout 67 = .ok (.goto (-64), 3) := by decide +kernel
theorem dX5_canBeSungWithout_70 : decode cX5_canBeSungWithout 70 = .ok (.iconst 0, 1) := by decide +kernel
theorem dX5_canBeSungWithout_71 : decode cX5_canBeSungWithout 71 = .ok (.ireturn, 1) := by decide +kernel
set_option maxRecDepth 20000 in
theorem ggX5_goThrough_X2_at : GoodIn wsX5_goThrough wsX2_at := goodIn_r _ [14, 15, 71] (by decide +kernel) (by decide +kernel)
set_option maxRecDepth 20000 in
theorem gX5_goThrough_X2_at : GoodIn wsX5_goThrough (wsV RX5 89 RX2 yX2_at wsX2_at) := goodIn_app (goodIn_of _ (by decide +kernel)) ggX5_goThrough_X2_at
set_option maxRecDepth 20000 in
theorem ggX5_goThrough_X4_doing : GoodIn wsX5_goThrough wsX4_doing := goodIn_r _ [20, 21, 22, 23, 24, 19, 25, 26, 27, 28, 29, 30, 31, 32, 11, 12, 13, 14, 15, 33, 34, 35, 36, 37, 38, 39, 40, 41, 42, 43, 44, 45, 46, 47, 48, 49, 50, 51, 52, 57, 58, 59, 60, 61, 62, 63, 64, 65, 66, 67, 68, 69, 71] (by decide +kernel) (by decide +kernel)
set_option maxRecDepth 20000 in
theorem gX5_goThrough_X4_doing : GoodIn wsX5_goThrough (wsV RX5 102 RX4 yX4_doing wsX4_doing) := goodIn_app (goodIn_of _ (by decide +kernel)) ggX5_goThrough_X4_doing
set_option maxRecDepth 20000 in
theorem ggX5_goThrough_X2_put : GoodIn wsX5_goThrough wsX2_put := goodIn_r _ [56, 15, 71] (by decide +kernel) (by decide +kernel)
set_option maxRecDepth 20000 in
theorem gX5_goThrough_X2_put : GoodIn wsX5_goThrough (wsV RX5 51 RX2 yX2_put wsX2_put) := goodIn_app (goodIn_of _ (by decide +kernel)) ggX5_goThrough_X2_put
theorem dX5_goThrough_0 : decode cX5_goThrough 0 = .ok (.iconst 0, 1) := by decide +kernel
theorem dX5_goThrough_1 : decode cX5_goThrough 1 = .ok (.istore_n 3, 1) := by decide +kernel
theorem dX5_goThrough_2 : decode cX5_goThrough 2 = .ok (.iload_n 3, 1) := by decide +kernel
theorem dX5_goThrough_3 : decode cX5_goThrough 3 = .ok (.aload_n 1, 1) := by decide +kernel
theorem dX5_goThrough_4 : decode cX5_goThrough 4 = .ok (.getfield 92, 3) := by decide +kernel
theorem dX5_goThrough_7 : decode cX5_goThrough 7 = .ok (.if_icmp .ge 86, 3) := by decide +kernel
theorem dX5_goThrough_10 : decode cX5_goThrough 10 = .ok (.aload_n 0, 1) := by decide +kernel
theorem dX5_goThrough_11 : decode cX5_goThrough 11 = .ok (.getfield 14, 3) := by decide +kernel
theorem dX5_goThrough_14 : decode cX5_goThrough 14 = .ok (.iload_n 3, 1) := by decide +kernel
theorem dX5_goThrough_15 : decode cX5_goThrough 15 = .ok (.invokevirtual 89, 3) := by decide +kernel
theorem dX5_goThrough_18 : decode cX5_goThrough 18 = .ok (.istore 4, 2) := by decide +kernel
theorem dX5_goThrough_20 : decode cX5_goThrough 20 = .ok (.aload_n 1, 1) := by decide +kernel
theorem dX5_goThrough_21 : decode cX5_goThrough 21 = .ok (.iload_n 3, 1) := by decide +kernel
theorem dX5_goThrough_22 : decode cX5_goThrough 22 = .ok (.iload_n 2, 1) := by decide +kernel
theorem dX5_goThrough_23 : decode cX5_goThrough 23 = .ok (.iload 4, 2) := by decide +kernel
theorem dX5_goThrough_25 : decode cX5_goThrough 25 = .ok (.invokevirtual 102, 3) := by decide +kernel
theorem dX5_goThrough_28 : decode cX5_goThrough 28 = .ok (.ifCond .ne 25, 3) := by decide +kernel
theorem dX5_goThrough_31 : decode cX5_goThrough 31 = .ok (.aload_n 0, 1) := by decide +kernel
theorem dX5_goThrough_32 : decode cX5_goThrough 32 = .ok (.getfield 14, 3) := by decide +kernel
theorem dX5_goThrough_35 : decode cX5_goThrough 35 = .ok (.iload_n 3, 1) := by decide +kernel
theorem dX5_goThrough_36 : decode cX5_goThrough 36 = .ok (.iload 4, 2) := by decide +kernel
theorem dX5_goThrough_38 : decode cX5_goThrough 38 = .ok (.aload_n 1, 1) := by decide +kernel
theorem dX5_goThrough_39 : decode cX5_goThrough 39 = .ok (.getfield 86, 3) := by decide +kernel
theorem dX5_goThrough_42 : decode cX5_goThrough 42 = .ok (.iload_n 2, 1) := by decide +kernel
theorem dX5_goThrough_43 : decode cX5_goThrough 43 = .ok (.invokevirtual 89, 3) := by decide +kernel
theorem dX5_goThrough_46 : decode cX5_goThrough 46 = .ok (.isub, 1) := by decide +kernel
theorem dX5_goThrough_47 : decode cX5_goThrough 47 = .ok (.invokevirtual 51, 3) := by decide +kernel
theorem dX5_goThrough_50 : decode cX5_goThrough 50 = .ok (.goto 37, 3) := by decide +kernel
theorem dX5_goThrough_53 : decode cX5_goThrough 53 = .ok (.iload 4, 2) := by decide +kernel
theorem dX5_goThrough_55 : decode cX5_goThrough 55 = .ok (.aload_n 1, 1) := by decide +kernel
theorem dX5_goThrough_56 : decode cX5_goThrough 56 = .ok (.getfield 106, 3) := by decide +kernel
theorem dX5_goThrough_59 : decode cX5_goThrough 59 = .ok (.iload_n 3, 1) := by decide +kernel
theorem dX5_goThrough_60 : decode cX5_goThrough 60 = .ok (.invokevirtual 89, 3) := by decide +kernel
theorem dX5_goThrough_63 : decode cX5_goThrough 63 = .ok (.iadd, 1) := by decide +kernel
theorem dX5_goThrough_64 : decode cX5_goThrough 64 = .ok (.istore 5, 2) := by decide +kernel
theorem dX5_goThrough_66 : decode cX5_goThrough 66 = .ok (.aload_n 0, 1) := by decide +kernel
theorem dX5_goThrough_67 : decode cX5_goThrough 67 = .ok (.getfield 14, 3) := by decide +kernel
theorem dX5_goThrough_70 : decode cX5_goThrough 70 = .ok (.iload_n 3, 1) := by decide +kernel
theorem dX5_goThrough_71 : decode cX5_goThrough 71 = .ok (.aload_n 1, 1) := by decide +kernel
theorem dX5_goThrough_72 : decode cX5_goThrough 72 = .ok (.getfield 28, 3) := by decide +kernel
theorem dX5_goThrough_75 : decode cX5_goThrough 75 = .ok (.iload_n 3, 1) := by decide +kernel
theorem dX5_goThrough_76 : decode cX5_goThrough 76 = .ok (.invokevirtual 89, 3) := by decide +kernel
theorem dX5_goThrough_79 : decode cX5_goThrough 79 = .ok (.iload 5, 2) := by decide +kernel
theorem dX5_goThrough_81 : decode cX5_goThrough 81 = .ok (.invokestatic 109, 3) := by decide +kernel
theorem dX5_goThrough_84 : decode cX5_goThrough 84 = .ok (.invokevirtual 51, 3) := by decide +kernel
theorem dX5_goThrough_87 : decode cX5_goThrough 87 = .ok (.iinc 3 1, 3) := by decide +kernel
theorem dX5_goThrough_90 : decode cX5_goThrough 90 = .ok (.goto (-88), 3) := by decide +kernel
theorem dX5_goThrough_93 : decode cX5_goThrough 93 = .ok (.return_, 1) := by decide +kernel
set_option maxRecDepth 20000 in
theorem ggX6_init_X2_init : GoodIn wsX6_init wsX2_init := goodIn_r _ [11, 12, 2, 3, 13, 14, 15, 16, 17, 18, 19] (by decide +kernel) (by decide +kernel)
set_option maxRecDepth 20000 in
theorem gX6_init_X2_init : GoodIn wsX6_init (wsX2_init) := ggX6_init_X2_init
theorem dX6_init_0 : decode cX6_init 0 = .ok (.aload_n 0, 1) := by decide +kernel
theorem dX6_init_1 : decode cX6_init 1 = .ok (.invokespecial 3, 3) := by decide +kernel
theorem dX6_init_4 : decode cX6_init 4 = .ok (.aload_n 0, 1) := by decide +kernel
theorem dX6_init_5 : decode cX6_init 5 = .ok (.new 9, 3) := by decide +kernel
theorem dX6_init_8 : decode cX6_init 8 = .ok (.dup, 1) := by decide +kernel
theorem dX6_init_9 : decode cX6_init 9 = .ok (.bipush 96, 2) := by decide +kernel
theorem dX6_init_11 : decode cX6_init 11 = .ok (.invokespecial 11, 3) := by decide +kernel
theorem dX6_init_14 : decode cX6_init 14 = .ok (.putfield 14, 3) := by decide +kernel
theorem dX6_init_17 : decode cX6_init 17 = .ok (.aload_n 0, 1) := by decide +kernel
theorem dX6_init_18 : decode cX6_init 18 = .ok (.new 9, 3) := by decide +kernel
theorem dX6_init_21 : decode cX6_init 21 = .ok (.dup, 1) := by decide +kernel
theorem dX6_init_22 : decode cX6_init 22 = .ok (.bipush 96, 2) := by decide +kernel
theorem dX6_init_24 : decode cX6_init 24 = .ok (.invokespecial 11, 3) := by decide +kernel
theorem dX6_init_27 : decode cX6_init 27 = .ok (.putfield 20, 3) := by decide +kernel
theorem dX6_init_30 : decode cX6_init 30 = .ok (.return_, 1) := by decide +kernel
set_option maxRecDepth 20000 in
theorem ggX6_follow_X2_at : GoodIn wsX6_follow wsX2_at := goodIn_r _ [16, 17, 76] (by decide +kernel) (by decide +kernel)
set_option maxRecDepth 20000 in
theorem gX6_follow_X2_at : GoodIn wsX6_follow (wsV RX6 36 RX2 yX2_at wsX2_at) := goodIn_app (goodIn_of _ (by decide +kernel)) ggX6_follow_X2_at
set_option maxRecDepth 20000 in
theorem ggX6_follow_X4_doing : GoodIn wsX6_follow wsX4_doing := goodIn_r _ [22, 23, 24, 25, 26, 21, 27, 28, 29, 30, 31, 32, 33, 34, 13, 14, 15, 16, 17, 35, 36, 37, 38, 39, 40, 41, 42, 43, 44, 45, 46, 47, 48, 49, 50, 51, 52, 53, 54, 59, 60, 61, 62, 63, 64, 65, 66, 67, 68, 69, 70, 71, 76] (by decide +kernel) (by decide +kernel)
set_option maxRecDepth 20000 in
theorem gX6_follow_X4_doing : GoodIn wsX6_follow (wsV RX6 40 RX4 yX4_doing wsX4_doing) := goodIn_app (goodIn_of _ (by decide +kernel)) ggX6_follow_X4_doing
set_option maxRecDepth 20000 in
theorem ggX6_follow_X2_put : GoodIn wsX6_follow wsX2_put := goodIn_r _ [58, 17, 76] (by decide +kernel) (by decide +kernel)
set_option maxRecDepth 20000 in
theorem gX6_follow_X2_put : GoodIn wsX6_follow (wsV RX6 53 RX2 yX2_put wsX2_put) := goodIn_app (goodIn_of _ (by decide +kernel)) ggX6_follow_X2_put
theorem dX6_follow_0 : decode cX6_follow 0 = .ok (.aload_n 0, 1) := by decide +kernel
theorem dX6_follow_1 : decode cX6_follow 1 = .ok (.aload_n 1, 1) := by decide +kernel
theorem dX6_follow_2 : decode cX6_follow 2 = .ok (.getfield 23, 3) := by decide +kernel
theorem dX6_follow_5 : decode cX6_follow 5 = .ok (.putfield 29, 3) := by decide +kernel
theorem dX6_follow_8 : decode cX6_follow 8 = .ok (.aload_n 0, 1) := by decide +kernel
theorem dX6_follow_9 : decode cX6_follow 9 = .ok (.iload_n 3, 1) := by decide +kernel
theorem dX6_follow_10 : decode cX6_follow 10 = .ok (.putfield 30, 3) := by decide +kernel
theorem dX6_follow_13 : decode cX6_follow 13 = .ok (.aload_n 1, 1) := by decide +kernel
theorem dX6_follow_14 : decode cX6_follow 14 = .ok (.getfield 33, 3) := by decide +kernel
theorem dX6_follow_17 : decode cX6_follow 17 = .ok (.iload_n 2, 1) := by decide +kernel
theorem dX6_follow_18 : decode cX6_follow 18 = .ok (.invokevirtual 36, 3) := by decide +kernel
theorem dX6_follow_21 : decode cX6_follow 21 = .ok (.istore 4, 2) := by decide +kernel
theorem dX6_follow_23 : decode cX6_follow 23 = .ok (.iload_n 3, 1) := by decide +kernel
theorem dX6_follow_24 : decode cX6_follow 24 = .ok (.istore 5, 2) := by decide +kernel
theorem dX6_follow_26 : decode cX6_follow 26 = .ok (.iconst 0, 1) := by decide +kernel
theorem dX6_follow_27 : decode cX6_follow 27 = .ok (.istore 6, 2) := by decide +kernel
theorem dX6_follow_29 : decode cX6_follow 29 = .ok (.iload 6, 2) := by decide +kernel
theorem dX6_follow_31 : decode cX6_follow 31 = .ok (.aload_n 0, 1) := by decide +kernel
theorem dX6_follow_32 : decode cX6_follow 32 = .ok (.getfield 29, 3) := by decide +kernel
theorem dX6_follow_35 : decode cX6_follow 35 = .ok (.if_icmp .ge 75, 3) := by decide +kernel
theorem dX6_follow_38 : decode cX6_follow 38 = .ok (.aload_n 1, 1) := by decide +kernel
theorem dX6_follow_39 : decode cX6_follow 39 = .ok (.iload_n 2, 1) := by decide +kernel
theorem dX6_follow_40 : decode cX6_follow 40 = .ok (.iload 6, 2) := by decide +kernel
theorem dX6_follow_42 : decode cX6_follow 42 = .ok (.iload 5, 2) := by decide +kernel
theorem dX6_follow_44 : decode cX6_follow 44 = .ok (.invokevirtual 40, 3) := by decide +kernel
theorem dX6_follow_47 : decode cX6_follow 47 = .ok (.istore 7, 2) := by decide +kernel
theorem dX6_follow_49 : decode cX6_follow 49 = .ok (.iload 7, 2) := by decide +kernel
theorem dX6_follow_51 : decode cX6_follow 51 = .ok (.ifCond .ne 20, 3) := by decide +kernel
theorem dX6_follow_54 : decode cX6_follow 54 = .ok (.iload 5, 2) := by decide +kernel
theorem dX6_follow_56 : decode cX6_follow 56 = .ok (.aload_n 1, 1) := by decide +kernel
theorem dX6_follow_57 : decode cX6_follow 57 = .ok (.getfield 44, 3) := by decide +kernel
theorem dX6_follow_60 : decode cX6_follow 60 = .ok (.iload 6, 2) := by decide +kernel
theorem dX6_follow_62 : decode cX6_follow 62 = .ok (.invokevirtual 36, 3) := by decide +kernel
theorem dX6_follow_65 : decode cX6_follow 65 = .ok (.isub, 1) := by decide +kernel
theorem dX6_follow_66 : decode cX6_follow 66 = .ok (.istore 5, 2) := by decide +kernel
theorem dX6_follow_68 : decode cX6_follow 68 = .ok (.goto 14, 3) := by decide +kernel
theorem dX6_follow_71 : decode cX6_follow 71 = .ok (.iload_n 3, 1) := by decide +kernel
theorem dX6_follow_72 : decode cX6_follow 72 = .ok (.iload 5, 2) := by decide +kernel
theorem dX6_follow_74 : decode cX6_follow 74 = .ok (.iload 4, 2) := by decide +kernel
theorem dX6_follow_76 : decode cX6_follow 76 = .ok (.iadd, 1) := by decide +kernel
theorem dX6_follow_77 : decode cX6_follow 77 = .ok (.invokestatic 47, 3) := by decide +kernel
theorem dX6_follow_80 : decode cX6_follow 80 = .ok (.istore 5, 2) := by decide +kernel
theorem dX6_follow_82 : decode cX6_follow 82 = .ok (.aload_n 0, 1) := by decide +kernel
theorem dX6_follow_83 : decode cX6_follow 83 = .ok (.getfield 14, 3) := by decide +kernel
theorem dX6_follow_86 : decode cX6_follow 86 = .ok (.iload 6, 2) := by decide +kernel
theorem dX6_follow_88 : decode cX6_follow 88 = .ok (.iload 7, 2) := by decide +kernel
theorem dX6_follow_90 : decode cX6_follow 90 = .ok (.invokevirtual 53, 3) := by decide +kernel
theorem dX6_follow_93 : decode cX6_follow 93 = .ok (.aload_n 0, 1) := by decide +kernel
theorem dX6_follow_94 : decode cX6_follow 94 = .ok (.getfield 20, 3) := by decide +kernel
theorem dX6_follow_97 : decode cX6_follow 97 = .ok (.iload 6, 2) := by decide +kernel
theorem dX6_follow_99 : decode cX6_follow 99 = .ok (.iload 5, 2) := by decide +kernel
theorem dX6_follow_101 : decode cX6_follow 101 = .ok (.invokevirtual 53, 3) := by decide +kernel
theorem dX6_follow_104 : decode cX6_follow 104 = .ok (.iinc 6 1, 3) := by decide +kernel
theorem dX6_follow_107 : decode cX6_follow 107 = .ok (.goto (-78), 3) := by decide +kernel
theorem dX6_follow_110 : decode cX6_follow 110 = .ok (.return_, 1) := by decide +kernel
set_option maxRecDepth 20000 in
theorem ggX6_countDoing_X2_at : GoodIn wsX6_countDoing wsX2_at := goodIn_r _ [7, 8, 13] (by decide +kernel) (by decide +kernel)
set_option maxRecDepth 20000 in
theorem gX6_countDoing_X2_at : GoodIn wsX6_countDoing (wsV RX6 36 RX2 yX2_at wsX2_at) := goodIn_app (goodIn_of _ (by decide +kernel)) ggX6_countDoing_X2_at
theorem dX6_countDoing_0 : decode cX6_countDoing 0 = .ok (.iconst 0, 1) := by decide +kernel
theorem dX6_countDoing_1 : decode cX6_countDoing 1 = .ok (.istore_n 2, 1) := by decide +kernel
theorem dX6_countDoing_2 : decode cX6_countDoing 2 = .ok (.iconst 0, 1) := by decide +kernel
theorem dX6_countDoing_3 : decode cX6_countDoing 3 = .ok (.istore_n 3, 1) := by decide +kernel
theorem dX6_countDoing_4 : decode cX6_countDoing 4 = .ok (.iload_n 3, 1) := by decide +kernel
theorem dX6_countDoing_5 : decode cX6_countDoing 5 = .ok (.aload_n 0, 1) := by decide +kernel
theorem dX6_countDoing_6 : decode cX6_countDoing 6 = .ok (.getfield 29, 3) := by decide +kernel
theorem dX6_countDoing_9 : decode cX6_countDoing 9 = .ok (.if_icmp .ge 24, 3) := by decide +kernel
theorem dX6_countDoing_12 : decode cX6_countDoing 12 = .ok (.aload_n 0, 1) := by decide +kernel
theorem dX6_countDoing_13 : decode cX6_countDoing 13 = .ok (.getfield 14, 3) := by decide +kernel
theorem dX6_countDoing_16 : decode cX6_countDoing 16 = .ok (.iload_n 3, 1) := by decide +kernel
theorem dX6_countDoing_17 : decode cX6_countDoing 17 = .ok (.invokevirtual 36, 3) := by decide +kernel
theorem dX6_countDoing_20 : decode cX6_countDoing 20 = .ok (.iload_n 1, 1) := by decide +kernel
theorem dX6_countDoing_21 : decode cX6_countDoing 21 = .ok (.if_icmp .ne 6, 3) := by decide +kernel
theorem dX6_countDoing_24 : decode cX6_countDoing 24 = .ok (.iinc 2 1, 3) := by decide +kernel
theorem dX6_countDoing_27 : decode cX6_countDoing 27 = .ok (.iinc 3 1, 3) := by decide +kernel
theorem dX6_countDoing_30 : decode cX6_countDoing 30 = .ok (.goto (-26), 3) := by decide +kernel
theorem dX6_countDoing_33 : decode cX6_countDoing 33 = .ok (.iload_n 2, 1) := by decide +kernel
theorem dX6_countDoing_34 : decode cX6_countDoing 34 = .ok (.ireturn, 1) := by decide +kernel
set_option maxRecDepth 20000 in
theorem ggX6_leastLeft_X2_at : GoodIn wsX6_leastLeft wsX2_at := goodIn_r _ [12, 13, 18] (by decide +kernel) (by decide +kernel)
set_option maxRecDepth 20000 in
theorem gX6_leastLeft_X2_at : GoodIn wsX6_leastLeft (wsV RX6 36 RX2 yX2_at wsX2_at) := goodIn_app (goodIn_of _ (by decide +kernel)) ggX6_leastLeft_X2_at
theorem dX6_leastLeft_0 : decode cX6_leastLeft 0 = .ok (.aload_n 0, 1) := by decide +kernel
theorem dX6_leastLeft_1 : decode cX6_leastLeft 1 = .ok (.getfield 30, 3) := by decide +kernel
theorem dX6_leastLeft_4 : decode cX6_leastLeft 4 = .ok (.istore_n 1, 1) := by decide +kernel
theorem dX6_leastLeft_5 : decode cX6_leastLeft 5 = .ok (.iconst 0, 1) := by decide +kernel
theorem dX6_leastLeft_6 : decode cX6_leastLeft 6 = .ok (.istore_n 2, 1) := by decide +kernel
theorem dX6_leastLeft_7 : decode cX6_leastLeft 7 = .ok (.iload_n 2, 1) := by decide +kernel
theorem dX6_leastLeft_8 : decode cX6_leastLeft 8 = .ok (.aload_n 0, 1) := by decide +kernel
theorem dX6_leastLeft_9 : decode cX6_leastLeft 9 = .ok (.getfield 29, 3) := by decide +kernel
theorem dX6_leastLeft_12 : decode cX6_leastLeft 12 = .ok (.if_icmp .ge 22, 3) := by decide +kernel
theorem dX6_leastLeft_15 : decode cX6_leastLeft 15 = .ok (.iload_n 1, 1) := by decide +kernel
theorem dX6_leastLeft_16 : decode cX6_leastLeft 16 = .ok (.aload_n 0, 1) := by decide +kernel
theorem dX6_leastLeft_17 : decode cX6_leastLeft 17 = .ok (.getfield 20, 3) := by decide +kernel
theorem dX6_leastLeft_20 : decode cX6_leastLeft 20 = .ok (.iload_n 2, 1) := by decide +kernel
theorem dX6_leastLeft_21 : decode cX6_leastLeft 21 = .ok (.invokevirtual 36, 3) := by decide +kernel
theorem dX6_leastLeft_24 : decode cX6_leastLeft 24 = .ok (.invokestatic 47, 3) := by decide +kernel
theorem dX6_leastLeft_27 : decode cX6_leastLeft 27 = .ok (.istore_n 1, 1) := by decide +kernel
theorem dX6_leastLeft_28 : decode cX6_leastLeft 28 = .ok (.iinc 2 1, 3) := by decide +kernel
theorem dX6_leastLeft_31 : decode cX6_leastLeft 31 = .ok (.goto (-24), 3) := by decide +kernel
theorem dX6_leastLeft_34 : decode cX6_leastLeft 34 = .ok (.iload_n 1, 1) := by decide +kernel
theorem dX6_leastLeft_35 : decode cX6_leastLeft 35 = .ok (.ireturn, 1) := by decide +kernel
set_option maxRecDepth 20000 in
theorem ggX6_longestSung_X2_at : GoodIn wsX6_longestSung wsX2_at := goodIn_r _ [11, 12, 17] (by decide +kernel) (by decide +kernel)
set_option maxRecDepth 20000 in
theorem gX6_longestSung_X2_at : GoodIn wsX6_longestSung (wsV RX6 36 RX2 yX2_at wsX2_at) := goodIn_app (goodIn_of _ (by decide +kernel)) ggX6_longestSung_X2_at
theorem dX6_longestSung_0 : decode cX6_longestSung 0 = .ok (.iconst 0, 1) := by decide +kernel
theorem dX6_longestSung_1 : decode cX6_longestSung 1 = .ok (.istore_n 1, 1) := by decide +kernel
theorem dX6_longestSung_2 : decode cX6_longestSung 2 = .ok (.iconst 0, 1) := by decide +kernel
theorem dX6_longestSung_3 : decode cX6_longestSung 3 = .ok (.istore_n 2, 1) := by decide +kernel
theorem dX6_longestSung_4 : decode cX6_longestSung 4 = .ok (.iconst 0, 1) := by decide +kernel
theorem dX6_longestSung_5 : decode cX6_longestSung 5 = .ok (.istore_n 3, 1) := by decide +kernel
theorem dX6_longestSung_6 : decode cX6_longestSung 6 = .ok (.iload_n 3, 1) := by decide +kernel
theorem dX6_longestSung_7 : decode cX6_longestSung 7 = .ok (.aload_n 0, 1) := by decide +kernel
theorem dX6_longestSung_8 : decode cX6_longestSung 8 = .ok (.getfield 29, 3) := by decide +kernel
theorem dX6_longestSung_11 : decode cX6_longestSung 11 = .ok (.if_icmp .ge 34, 3) := by decide +kernel
theorem dX6_longestSung_14 : decode cX6_longestSung 14 = .ok (.aload_n 0, 1) := by decide +kernel
theorem dX6_longestSung_15 : decode cX6_longestSung 15 = .ok (.getfield 14, 3) := by decide +kernel
theorem dX6_longestSung_18 : decode cX6_longestSung 18 = .ok (.iload_n 3, 1) := by decide +kernel
theorem dX6_longestSung_19 : decode cX6_longestSung 19 = .ok (.invokevirtual 36, 3) := by decide +kernel
theorem dX6_longestSung_22 : decode cX6_longestSung 22 = .ok (.ifCond .ne 9, 3) := by decide +kernel
theorem dX6_longestSung_25 : decode cX6_longestSung 25 = .ok (.iload_n 2, 1) := by decide +kernel
theorem dX6_longestSung_26 : decode cX6_longestSung 26 = .ok (.iconst 1, 1) := by decide +kernel
theorem dX6_longestSung_27 : decode cX6_longestSung 27 = .ok (.iadd, 1) := by decide +kernel
theorem dX6_longestSung_28 : decode cX6_longestSung 28 = .ok (.goto 4, 3) := by decide +kernel
theorem dX6_longestSung_31 : decode cX6_longestSung 31 = .ok (.iconst 0, 1) := by decide +kernel
theorem dX6_longestSung_32 : decode cX6_longestSung 32 = .ok (.istore_n 2, 1) := by decide +kernel
theorem dX6_longestSung_33 : decode cX6_longestSung 33 = .ok (.iload_n 1, 1) := by decide +kernel
theorem dX6_longestSung_34 : decode cX6_longestSung 34 = .ok (.iload_n 2, 1) := by decide +kernel
theorem dX6_longestSung_35 : decode cX6_longestSung 35 = .ok (.invokestatic 57, 3) := by decide +kernel
theorem dX6_longestSung_38 : decode cX6_longestSung 38 = .ok (.istore_n 1, 1) := by decide +kernel
theorem dX6_longestSung_39 : decode cX6_longestSung 39 = .ok (.iinc 3 1, 3) := by decide +kernel
theorem dX6_longestSung_42 : decode cX6_longestSung 42 = .ok (.goto (-36), 3) := by decide +kernel
theorem dX6_longestSung_45 : decode cX6_longestSung 45 = .ok (.iload_n 1, 1) := by decide +kernel
theorem dX6_longestSung_46 : decode cX6_longestSung 46 = .ok (.ireturn, 1) := by decide +kernel
set_option maxRecDepth 20000 in
theorem ggX7_init_X4_init : GoodIn wsX7_init wsX4_init := goodIn_r _ [31, 32, 2, 3, 33, 34, 35, 36, 37, 38, 39, 40, 41, 42, 43, 44, 45, 46, 47, 48, 49, 50, 51, 52, 53, 54, 123, 87, 88, 89, 90, 91, 92, 93, 94, 95, 96, 97, 98, 99] (by decide +kernel) (by decide +kernel)
set_option maxRecDepth 20000 in
theorem gX7_init_X4_init : GoodIn wsX7_init (wsX4_init) := ggX7_init_X4_init
set_option maxRecDepth 20000 in
theorem ggX7_init_X3_init : GoodIn wsX7_init wsX3_init := goodIn_r _ [56, 57, 2, 3, 58, 34, 35, 59, 60, 46, 47, 48, 49, 50, 51, 52, 53, 54, 123, 107, 108, 109, 110, 111, 112] (by decide +kernel) (by decide +kernel)
set_option maxRecDepth 20000 in
theorem gX7_init_X3_init_n18 : GoodIn wsX7_init (wsX3_init) := ggX7_init_X3_init
set_option maxRecDepth 20000 in
theorem ggX7_init_X1_init : GoodIn wsX7_init wsX1_init := goodIn_r _ [62, 63, 2, 3, 64, 65, 113, 114] (by decide +kernel) (by decide +kernel)
set_option maxRecDepth 20000 in
theorem gX7_init_X1_init_n25 : GoodIn wsX7_init (wsX1_init) := ggX7_init_X1_init
set_option maxRecDepth 20000 in
theorem ggX7_init_X6_init : GoodIn wsX7_init wsX6_init := goodIn_r _ [67, 68, 2, 3, 69, 34, 35, 70, 71, 72, 46, 47, 48, 49, 50, 51, 52, 53, 54, 123, 115, 116, 117, 118] (by decide +kernel) (by decide +kernel)
set_option maxRecDepth 20000 in
theorem gX7_init_X6_init_n36 : GoodIn wsX7_init (wsX6_init) := ggX7_init_X6_init
set_option maxRecDepth 20000 in
theorem ggX7_init_X0_init : GoodIn wsX7_init wsX0_init := goodIn_r _ [74, 75, 2, 3, 76, 34, 35, 77, 78, 79, 80, 46, 47, 48, 49, 50, 51, 52, 53, 54, 123, 119, 120, 121] (by decide +kernel) (by decide +kernel)
set_option maxRecDepth 20000 in
theorem gX7_init_X0_init_n43 : GoodIn wsX7_init (wsX0_init) := ggX7_init_X0_init
set_option maxRecDepth 20000 in
theorem ggX7_init_X5_init : GoodIn wsX7_init wsX5_init := goodIn_r _ [82, 83, 2, 3, 84, 34, 35, 85, 86, 46, 47, 48, 49, 50, 51, 52, 53, 54, 123, 122] (by decide +kernel) (by decide +kernel)
set_option maxRecDepth 20000 in
theorem gX7_init_X5_init_n50 : GoodIn wsX7_init (wsX5_init) := ggX7_init_X5_init
theorem dX7_init_0 : decode cX7_init 0 = .ok (.aload_n 0, 1) := by decide +kernel
theorem dX7_init_1 : decode cX7_init 1 = .ok (.invokespecial 1, 3) := by decide +kernel
theorem dX7_init_4 : decode cX7_init 4 = .ok (.aload_n 0, 1) := by decide +kernel
theorem dX7_init_5 : decode cX7_init 5 = .ok (.new 7, 3) := by decide +kernel
theorem dX7_init_8 : decode cX7_init 8 = .ok (.dup, 1) := by decide +kernel
theorem dX7_init_9 : decode cX7_init 9 = .ok (.invokespecial 9, 3) := by decide +kernel
theorem dX7_init_12 : decode cX7_init 12 = .ok (.putfield 10, 3) := by decide +kernel
theorem dX7_init_15 : decode cX7_init 15 = .ok (.aload_n 0, 1) := by decide +kernel
theorem dX7_init_16 : decode cX7_init 16 = .ok (.new 16, 3) := by decide +kernel
theorem dX7_init_19 : decode cX7_init 19 = .ok (.dup, 1) := by decide +kernel
theorem dX7_init_20 : decode cX7_init 20 = .ok (.invokespecial 18, 3) := by decide +kernel
theorem dX7_init_23 : decode cX7_init 23 = .ok (.putfield 19, 3) := by decide +kernel
theorem dX7_init_26 : decode cX7_init 26 = .ok (.aload_n 0, 1) := by decide +kernel
theorem dX7_init_27 : decode cX7_init 27 = .ok (.new 23, 3) := by decide +kernel
theorem dX7_init_30 : decode cX7_init 30 = .ok (.dup, 1) := by decide +kernel
theorem dX7_init_31 : decode cX7_init 31 = .ok (.invokespecial 25, 3) := by decide +kernel
theorem dX7_init_34 : decode cX7_init 34 = .ok (.putfield 26, 3) := by decide +kernel
theorem dX7_init_37 : decode cX7_init 37 = .ok (.aload_n 0, 1) := by decide +kernel
theorem dX7_init_38 : decode cX7_init 38 = .ok (.iconst 2, 1) := by decide +kernel
theorem dX7_init_39 : decode cX7_init 39 = .ok (.anewarray 7, 3) := by decide +kernel
theorem dX7_init_42 : decode cX7_init 42 = .ok (.putfield 30, 3) := by decide +kernel
theorem dX7_init_45 : decode cX7_init 45 = .ok (.aload_n 0, 1) := by decide +kernel
theorem dX7_init_46 : decode cX7_init 46 = .ok (.new 34, 3) := by decide +kernel
theorem dX7_init_49 : decode cX7_init 49 = .ok (.dup, 1) := by decide +kernel
theorem dX7_init_50 : decode cX7_init 50 = .ok (.invokespecial 36, 3) := by decide +kernel
theorem dX7_init_53 : decode cX7_init 53 = .ok (.putfield 37, 3) := by decide +kernel
theorem dX7_init_56 : decode cX7_init 56 = .ok (.aload_n 0, 1) := by decide +kernel
theorem dX7_init_57 : decode cX7_init 57 = .ok (.new 41, 3) := by decide +kernel
theorem dX7_init_60 : decode cX7_init 60 = .ok (.dup, 1) := by decide +kernel
theorem dX7_init_61 : decode cX7_init 61 = .ok (.invokespecial 43, 3) := by decide +kernel
theorem dX7_init_64 : decode cX7_init 64 = .ok (.putfield 44, 3) := by decide +kernel
theorem dX7_init_67 : decode cX7_init 67 = .ok (.aload_n 0, 1) := by decide +kernel
theorem dX7_init_68 : decode cX7_init 68 = .ok (.new 48, 3) := by decide +kernel
theorem dX7_init_71 : decode cX7_init 71 = .ok (.dup, 1) := by decide +kernel
theorem dX7_init_72 : decode cX7_init 72 = .ok (.invokespecial 50, 3) := by decide +kernel
theorem dX7_init_75 : decode cX7_init 75 = .ok (.putfield 51, 3) := by decide +kernel
theorem dX7_init_78 : decode cX7_init 78 = .ok (.return_, 1) := by decide +kernel
set_option maxRecDepth 20000 in
theorem ggX7_type_X3_append : GoodIn wsX7_type wsX3_append := goodIn_r _ [7, 8, 9, 10, 11, 12, 13, 14, 15, 23, 24, 25, 26, 27, 28, 29] (by decide +kernel) (by decide +kernel)
set_option maxRecDepth 20000 in
theorem gX7_type_X3_append : GoodIn wsX7_type (wsV RX7 55 RX3 yX3_append wsX3_append) := goodIn_app (goodIn_of _ (by decide +kernel)) ggX7_type_X3_append
theorem dX7_type_0 : decode cX7_type 0 = .ok (.aload_n 0, 1) := by decide +kernel
theorem dX7_type_1 : decode cX7_type 1 = .ok (.getfield 19, 3) := by decide +kernel
theorem dX7_type_4 : decode cX7_type 4 = .ok (.iload_n 1, 1) := by decide +kernel
theorem dX7_type_5 : decode cX7_type 5 = .ok (.invokevirtual 55, 3) := by decide +kernel
theorem dX7_type_8 : decode cX7_type 8 = .ok (.ifCond .eq 13, 3) := by decide +kernel
theorem dX7_type_11 : decode cX7_type 11 = .ok (.aload_n 0, 1) := by decide +kernel
theorem dX7_type_12 : decode cX7_type 12 = .ok (.getfield 19, 3) := by decide +kernel
theorem dX7_type_15 : decode cX7_type 15 = .ok (.getfield 59, 3) := by decide +kernel
theorem dX7_type_18 : decode cX7_type 18 = .ok (.goto 5, 3) := by decide +kernel
theorem dX7_type_21 : decode cX7_type 21 = .ok (.bipush (-3), 2) := by decide +kernel
theorem dX7_type_23 : decode cX7_type 23 = .ok (.ireturn, 1) := by decide +kernel
theorem dX7_clearText_0 : decode cX7_clearText 0 = .ok (.aload_n 0, 1) := by decide +kernel
theorem dX7_clearText_1 : decode cX7_clearText 1 = .ok (.getfield 19, 3) := by decide +kernel
theorem dX7_clearText_4 : decode cX7_clearText 4 = .ok (.getfield 59, 3) := by decide +kernel
theorem dX7_clearText_7 : decode cX7_clearText 7 = .ok (.istore_n 1, 1) := by decide +kernel
theorem dX7_clearText_8 : decode cX7_clearText 8 = .ok (.aload_n 0, 1) := by decide +kernel
theorem dX7_clearText_9 : decode cX7_clearText 9 = .ok (.getfield 19, 3) := by decide +kernel
theorem dX7_clearText_12 : decode cX7_clearText 12 = .ok (.iconst 0, 1) := by decide +kernel
theorem dX7_clearText_13 : decode cX7_clearText 13 = .ok (.putfield 59, 3) := by decide +kernel
theorem dX7_clearText_16 : decode cX7_clearText 16 = .ok (.iload_n 1, 1) := by decide +kernel
theorem dX7_clearText_17 : decode cX7_clearText 17 = .ok (.ireturn, 1) := by decide +kernel
set_option maxRecDepth 20000 in
theorem ggX7_read_X3_findFault : GoodIn wsX7_read wsX3_findFault := goodIn_r _ [9, 10, 11, 12, 13, 14, 15, 8, 16, 17, 18, 19, 20, 21, 22, 23, 24, 25, 26, 27, 28, 29, 30, 31, 32, 33, 34, 35, 36, 37, 38, 39, 40, 41, 42, 43, 137, 138, 139, 140, 141, 142, 143] (by decide +kernel) (by decide +kernel)
set_option maxRecDepth 20000 in
theorem gX7_read_X3_findFault : GoodIn wsX7_read (wsV RX7 63 RX3 yX3_findFault wsX3_findFault) := goodIn_app (goodIn_of _ (by decide +kernel)) ggX7_read_X3_findFault
set_option maxRecDepth 20000 in
theorem ggX7_read_X1_record : GoodIn wsX7_read wsX1_record := goodIn_r _ [48, 49, 50, 51, 52, 53, 54, 55, 56, 47, 57, 58, 59, 60, 61, 62, 63, 64, 65, 27, 66, 67, 68, 69, 70, 71, 72, 73, 74, 75, 76, 77, 78, 79, 80, 81, 82, 83, 29, 84, 85, 86, 87, 88, 89, 90, 91, 92, 93, 94, 95, 96, 25, 26, 28, 144, 145, 124, 125, 126, 127, 128, 129, 130, 131, 132, 133, 134, 135, 136, 143] (by decide +kernel) (by decide +kernel)
set_option maxRecDepth 20000 in
theorem gX7_read_X1_record : GoodIn wsX7_read (wsV RX7 67 RX1 yX1_record wsX1_record) := goodIn_app (goodIn_of _ (by decide +kernel)) ggX7_read_X1_record
set_option maxRecDepth 20000 in
theorem ggX7_read_X4_clearScore : GoodIn wsX7_read wsX4_clearScore := goodIn_r _ [100, 88, 91, 68, 101, 102, 103, 27, 104, 29, 124, 125, 126, 127, 128, 129, 130, 131, 132, 133, 134, 135, 136, 143] (by decide +kernel) (by decide +kernel)
set_option maxRecDepth 20000 in
theorem gX7_read_X4_clearScore : GoodIn wsX7_read (wsV RX7 71 RX4 yX4_clearScore wsX4_clearScore) := goodIn_app (goodIn_of _ (by decide +kernel)) ggX7_read_X4_clearScore
set_option maxRecDepth 20000 in
theorem ggX7_read_X3_writeTo : GoodIn wsX7_read wsX3_writeTo := goodIn_r _ [108, 11, 10, 17, 18, 12, 13, 14, 15, 8, 16, 19, 20, 21, 22, 23, 24, 25, 26, 27, 28, 29, 30, 31, 32, 33, 34, 35, 36, 37, 38, 39, 40, 41, 42, 43, 109, 110, 111, 53, 112, 88, 66, 67, 113, 114, 115, 116, 137, 138, 139, 140, 141, 142, 143, 124, 125, 126, 127, 128, 129, 130, 131, 132, 133, 134, 135, 136] (by decide +kernel) (by decide +kernel)
set_option maxRecDepth 20000 in
theorem gX7_read_X3_writeTo : GoodIn wsX7_read (wsV RX7 74 RX3 yX3_writeTo wsX3_writeTo) := goodIn_app (goodIn_of _ (by decide +kernel)) ggX7_read_X3_writeTo
theorem dX7_read_0 : decode cX7_read 0 = .ok (.aload_n 0, 1) := by decide +kernel
theorem dX7_read_1 : decode cX7_read 1 = .ok (.getfield 19, 3) := by decide +kernel
theorem dX7_read_4 : decode cX7_read 4 = .ok (.invokevirtual 63, 3) := by decide +kernel
theorem dX7_read_7 : decode cX7_read 7 = .ok (.istore_n 1, 1) := by decide +kernel
theorem dX7_read_8 : decode cX7_read 8 = .ok (.iload_n 1, 1) := by decide +kernel
theorem dX7_read_9 : decode cX7_read 9 = .ok (.ifCond .lt 8, 3) := by decide +kernel
theorem dX7_read_12 : decode cX7_read 12 = .ok (.bipush (-100), 2) := by decide +kernel
theorem dX7_read_14 : decode cX7_read 14 = .ok (.iload_n 1, 1) := by decide +kernel
theorem dX7_read_15 : decode cX7_read 15 = .ok (.isub, 1) := by decide +kernel
theorem dX7_read_16 : decode cX7_read 16 = .ok (.ireturn, 1) := by decide +kernel
theorem dX7_read_17 : decode cX7_read 17 = .ok (.aload_n 0, 1) := by decide +kernel
theorem dX7_read_18 : decode cX7_read 18 = .ok (.getfield 26, 3) := by decide +kernel
theorem dX7_read_21 : decode cX7_read 21 = .ok (.aload_n 0, 1) := by decide +kernel
theorem dX7_read_22 : decode cX7_read 22 = .ok (.getfield 10, 3) := by decide +kernel
theorem dX7_read_25 : decode cX7_read 25 = .ok (.invokevirtual 67, 3) := by decide +kernel
theorem dX7_read_28 : decode cX7_read 28 = .ok (.aload_n 0, 1) := by decide +kernel
theorem dX7_read_29 : decode cX7_read 29 = .ok (.getfield 10, 3) := by decide +kernel
theorem dX7_read_32 : decode cX7_read 32 = .ok (.invokevirtual 71, 3) := by decide +kernel
theorem dX7_read_35 : decode cX7_read 35 = .ok (.aload_n 0, 1) := by decide +kernel
theorem dX7_read_36 : decode cX7_read 36 = .ok (.getfield 19, 3) := by decide +kernel
theorem dX7_read_39 : decode cX7_read 39 = .ok (.aload_n 0, 1) := by decide +kernel
theorem dX7_read_40 : decode cX7_read 40 = .ok (.getfield 10, 3) := by decide +kernel
theorem dX7_read_43 : decode cX7_read 43 = .ok (.invokevirtual 74, 3) := by decide +kernel
theorem dX7_read_46 : decode cX7_read 46 = .ok (.aload_n 0, 1) := by decide +kernel
theorem dX7_read_47 : decode cX7_read 47 = .ok (.getfield 10, 3) := by decide +kernel
theorem dX7_read_50 : decode cX7_read 50 = .ok (.getfield 77, 3) := by decide +kernel
theorem dX7_read_53 : decode cX7_read 53 = .ok (.ireturn, 1) := by decide +kernel
set_option maxRecDepth 20000 in
theorem ggX7_setLoudness_X4_hasBeat : GoodIn wsX7_setLoudness wsX4_hasBeat := goodIn_r _ [8, 9, 86, 87, 88, 89, 90, 91, 92, 93, 94, 95, 96, 97, 98] (by decide +kernel) (by decide +kernel)
set_option maxRecDepth 20000 in
theorem gX7_setLoudness_X4_hasBeat : GoodIn wsX7_setLoudness (wsV RX7 80 RX4 yX4_hasBeat wsX4_hasBeat) := goodIn_app (goodIn_of _ (by decide +kernel)) ggX7_setLoudness_X4_hasBeat
set_option maxRecDepth 20000 in
theorem ggX7_setLoudness_X7_isWithin : GoodIn wsX7_setLoudness wsX7_isWithin := goodIn_r _ [13] (by decide +kernel) (by decide +kernel)
set_option maxRecDepth 20000 in
theorem gX7_setLoudness_X7_isWithin : GoodIn wsX7_setLoudness (va_wsS RX7 84 yX7_isWithin wsX7_isWithin) := goodIn_app (goodIn_of _ (by decide +kernel)) ggX7_setLoudness_X7_isWithin
set_option maxRecDepth 20000 in
theorem ggX7_setLoudness_X1_record : GoodIn wsX7_setLoudness wsX1_record := goodIn_r _ [18, 19, 20, 21, 22, 7, 23, 24, 25, 17, 26, 27, 28, 29, 30, 31, 32, 33, 34, 35, 36, 37, 38, 39, 40, 41, 42, 43, 44, 45, 46, 47, 48, 49, 50, 51, 52, 53, 54, 55, 56, 57, 58, 9, 59, 60, 61, 62, 63, 64, 65, 66, 67, 68, 69, 99, 100, 86, 87, 88, 89, 90, 91, 92, 93, 94, 95, 96, 97, 98, 101] (by decide +kernel) (by decide +kernel)
set_option maxRecDepth 20000 in
theorem gX7_setLoudness_X1_record : GoodIn wsX7_setLoudness (wsV RX7 67 RX1 yX1_record wsX1_record) := goodIn_app (goodIn_of _ (by decide +kernel)) ggX7_setLoudness_X1_record
set_option maxRecDepth 20000 in
theorem ggX7_setLoudness_X2_put : GoodIn wsX7_setLoudness wsX2_put := goodIn_r _ [73, 54, 101] (by decide +kernel) (by decide +kernel)
set_option maxRecDepth 20000 in
theorem gX7_setLoudness_X2_put : GoodIn wsX7_setLoudness (wsV RX7 92 RX2 yX2_put wsX2_put) := goodIn_app (goodIn_of _ (by decide +kernel)) ggX7_setLoudness_X2_put
set_option maxRecDepth 20000 in
theorem ggX7_setLoudness_X4_isRest : GoodIn wsX7_setLoudness wsX4_isRest := goodIn_r _ [77, 36, 78, 67, 68, 35, 69, 54, 86, 87, 88, 89, 90, 91, 92, 93, 94, 95, 96, 97, 98, 101] (by decide +kernel) (by decide +kernel)
set_option maxRecDepth 20000 in
theorem gX7_setLoudness_X4_isRest : GoodIn wsX7_setLoudness (wsV RX7 98 RX4 yX4_isRest wsX4_isRest) := goodIn_app (goodIn_of _ (by decide +kernel)) ggX7_setLoudness_X4_isRest
theorem dX7_setLoudness_0 : decode cX7_setLoudness 0 = .ok (.aload_n 0, 1) := by decide +kernel
theorem dX7_setLoudness_1 : decode cX7_setLoudness 1 = .ok (.getfield 10, 3) := by decide +kernel
theorem dX7_setLoudness_4 : decode cX7_setLoudness 4 = .ok (.iload_n 1, 1) := by decide +kernel
theorem dX7_setLoudness_5 : decode cX7_setLoudness 5 = .ok (.invokevirtual 80, 3) := by decide +kernel
theorem dX7_setLoudness_8 : decode cX7_setLoudness 8 = .ok (.ifCond .eq 14, 3) := by decide +kernel
theorem dX7_setLoudness_11 : decode cX7_setLoudness 11 = .ok (.aload_n 0, 1) := by decide +kernel
theorem dX7_setLoudness_12 : decode cX7_setLoudness 12 = .ok (.getfield 10, 3) := by decide +kernel
theorem dX7_setLoudness_15 : decode cX7_setLoudness 15 = .ok (.iload_n 2, 1) := by decide +kernel
theorem dX7_setLoudness_16 : decode cX7_setLoudness 16 = .ok (.invokevirtual 80, 3) := by decide +kernel
theorem dX7_setLoudness_19 : decode cX7_setLoudness 19 = .ok (.ifCond .ne 5, 3) := by decide +kernel
theorem dX7_setLoudness_22 : decode cX7_setLoudness 22 = .ok (.iconst (-1), 1) := by decide +kernel
theorem dX7_setLoudness_23 : decode cX7_setLoudness 23 = .ok (.ireturn, 1) := by decide +kernel
theorem dX7_setLoudness_24 : decode cX7_setLoudness 24 = .ok (.iload_n 2, 1) := by decide +kernel
theorem dX7_setLoudness_25 : decode cX7_setLoudness 25 = .ok (.iload_n 1, 1) := by decide +kernel
theorem dX7_setLoudness_26 : decode cX7_setLoudness 26 = .ok (.if_icmp .lt 12, 3) := by decide +kernel
theorem dX7_setLoudness_29 : decode cX7_setLoudness 29 = .ok (.iload_n 3, 1) := by decide +kernel
theorem dX7_setLoudness_30 : decode cX7_setLoudness 30 = .ok (.iconst 1, 1) := by decide +kernel
theorem dX7_setLoudness_31 : decode cX7_setLoudness 31 = .ok (.iconst 5, 1) := by decide +kernel
theorem dX7_setLoudness_32 : decode cX7_setLoudness 32 = .ok (.invokestatic 84, 3) := by decide +kernel
theorem dX7_setLoudness_35 : decode cX7_setLoudness 35 = .ok (.ifCond .ne 6, 3) := by decide +kernel
theorem dX7_setLoudness_38 : decode cX7_setLoudness 38 = .ok (.bipush (-2), 2) := by decide +kernel
theorem dX7_setLoudness_40 : decode cX7_setLoudness 40 = .ok (.ireturn, 1) := by decide +kernel
theorem dX7_setLoudness_41 : decode cX7_setLoudness 41 = .ok (.aload_n 0, 1) := by decide +kernel
theorem dX7_setLoudness_42 : decode cX7_setLoudness 42 = .ok (.getfield 26, 3) := by decide +kernel
theorem dX7_setLoudness_45 : decode cX7_setLoudness 45 = .ok (.aload_n 0, 1) := by decide +kernel
theorem dX7_setLoudness_46 : decode cX7_setLoudness 46 = .ok (.getfield 10, 3) := by decide +kernel
theorem dX7_setLoudness_49 : decode cX7_setLoudness 49 = .ok (.invokevirtual 67, 3) := by decide +kernel
theorem dX7_setLoudness_52 : decode cX7_setLoudness 52 = .ok (.iconst 0, 1) := by decide +kernel
theorem dX7_setLoudness_53 : decode cX7_setLoudness 53 = .ok (.istore 4, 2) := by decide +kernel
theorem dX7_setLoudness_55 : decode cX7_setLoudness 55 = .ok (.iload_n 1, 1) := by decide +kernel
theorem dX7_setLoudness_56 : decode cX7_setLoudness 56 = .ok (.istore 5, 2) := by decide +kernel
theorem dX7_setLoudness_58 : decode cX7_setLoudness 58 = .ok (.iload 5, 2) := by decide +kernel
theorem dX7_setLoudness_60 : decode cX7_setLoudness 60 = .ok (.iload_n 2, 1) := by decide +kernel
theorem dX7_setLoudness_61 : decode cX7_setLoudness 61 = .ok (.if_icmp .gt 37, 3) := by decide +kernel
theorem dX7_setLoudness_64 : decode cX7_setLoudness 64 = .ok (.aload_n 0, 1) := by decide +kernel
theorem dX7_setLoudness_65 : decode cX7_setLoudness 65 = .ok (.getfield 10, 3) := by decide +kernel
theorem dX7_setLoudness_68 : decode cX7_setLoudness 68 = .ok (.getfield 88, 3) := by decide +kernel
theorem dX7_setLoudness_71 : decode cX7_setLoudness 71 = .ok (.iload 5, 2) := by decide +kernel
theorem dX7_setLoudness_73 : decode cX7_setLoudness 73 = .ok (.iload_n 3, 1) := by decide +kernel
theorem dX7_setLoudness_74 : decode cX7_setLoudness 74 = .ok (.invokevirtual 92, 3) := by decide +kernel
theorem dX7_setLoudness_77 : decode cX7_setLoudness 77 = .ok (.aload_n 0, 1) := by decide +kernel
theorem dX7_setLoudness_78 : decode cX7_setLoudness 78 = .ok (.getfield 10, 3) := by decide +kernel
theorem dX7_setLoudness_81 : decode cX7_setLoudness 81 = .ok (.iload 5, 2) := by decide +kernel
theorem dX7_setLoudness_83 : decode cX7_setLoudness 83 = .ok (.invokevirtual 98, 3) := by decide +kernel
theorem dX7_setLoudness_86 : decode cX7_setLoudness 86 = .ok (.ifCond .ne 6, 3) := by decide +kernel
theorem dX7_setLoudness_89 : decode cX7_setLoudness 89 = .ok (.iinc 4 1, 3) := by decide +kernel
theorem dX7_setLoudness_92 : decode cX7_setLoudness 92 = .ok (.iinc 5 1, 3) := by decide +kernel
theorem dX7_setLoudness_95 : decode cX7_setLoudness 95 = .ok (.goto (-37), 3) := by decide +kernel
theorem dX7_setLoudness_98 : decode cX7_setLoudness 98 = .ok (.iload 4, 2) := by decide +kernel
theorem dX7_setLoudness_100 : decode cX7_setLoudness 100 = .ok (.ireturn, 1) := by decide +kernel
set_option maxRecDepth 20000 in
theorem ggX7_setSort_X4_hasBeat : GoodIn wsX7_setSort wsX4_hasBeat := goodIn_r _ [8, 9, 82, 83, 84, 85, 86, 87, 88, 89, 90, 91, 92, 93, 94] (by decide +kernel) (by decide +kernel)
set_option maxRecDepth 20000 in
theorem gX7_setSort_X4_hasBeat : GoodIn wsX7_setSort (wsV RX7 80 RX4 yX4_hasBeat wsX4_hasBeat) := goodIn_app (goodIn_of _ (by decide +kernel)) ggX7_setSort_X4_hasBeat
set_option maxRecDepth 20000 in
theorem ggX7_setSort_X7_isWithin : GoodIn wsX7_setSort wsX7_isWithin := goodIn_r _ [13] (by decide +kernel) (by decide +kernel)
set_option maxRecDepth 20000 in
theorem gX7_setSort_X7_isWithin : GoodIn wsX7_setSort (va_wsS RX7 84 yX7_isWithin wsX7_isWithin) := goodIn_app (goodIn_of _ (by decide +kernel)) ggX7_setSort_X7_isWithin
set_option maxRecDepth 20000 in
theorem ggX7_setSort_X1_record : GoodIn wsX7_setSort wsX1_record := goodIn_r _ [18, 19, 20, 21, 22, 7, 23, 24, 25, 17, 26, 27, 28, 29, 30, 31, 32, 33, 34, 35, 36, 37, 38, 39, 40, 41, 42, 43, 44, 45, 46, 47, 48, 49, 50, 51, 52, 53, 54, 55, 56, 57, 58, 9, 59, 60, 61, 62, 63, 64, 65, 66, 67, 68, 69, 95, 96, 82, 83, 84, 85, 86, 87, 88, 89, 90, 91, 92, 93, 94, 97] (by decide +kernel) (by decide +kernel)
set_option maxRecDepth 20000 in
theorem gX7_setSort_X1_record : GoodIn wsX7_setSort (wsV RX7 67 RX1 yX1_record wsX1_record) := goodIn_app (goodIn_of _ (by decide +kernel)) ggX7_setSort_X1_record
set_option maxRecDepth 20000 in
theorem ggX7_setSort_X2_at : GoodIn wsX7_setSort wsX2_at := goodIn_r _ [69, 54, 97] (by decide +kernel) (by decide +kernel)
set_option maxRecDepth 20000 in
theorem gX7_setSort_X2_at : GoodIn wsX7_setSort (wsV RX7 104 RX2 yX2_at wsX2_at) := goodIn_app (goodIn_of _ (by decide +kernel)) ggX7_setSort_X2_at
set_option maxRecDepth 20000 in
theorem ggX7_setSort_X2_put : GoodIn wsX7_setSort wsX2_put := goodIn_r _ [74, 54, 97] (by decide +kernel) (by decide +kernel)
set_option maxRecDepth 20000 in
theorem gX7_setSort_X2_put : GoodIn wsX7_setSort (wsV RX7 92 RX2 yX2_put wsX2_put) := goodIn_app (goodIn_of _ (by decide +kernel)) ggX7_setSort_X2_put
theorem dX7_setSort_0 : decode cX7_setSort 0 = .ok (.aload_n 0, 1) := by decide +kernel
theorem dX7_setSort_1 : decode cX7_setSort 1 = .ok (.getfield 10, 3) := by decide +kernel
theorem dX7_setSort_4 : decode cX7_setSort 4 = .ok (.iload_n 1, 1) := by decide +kernel
theorem dX7_setSort_5 : decode cX7_setSort 5 = .ok (.invokevirtual 80, 3) := by decide +kernel
theorem dX7_setSort_8 : decode cX7_setSort 8 = .ok (.ifCond .ne 5, 3) := by decide +kernel
theorem dX7_setSort_11 : decode cX7_setSort 11 = .ok (.iconst (-1), 1) := by decide +kernel
theorem dX7_setSort_12 : decode cX7_setSort 12 = .ok (.ireturn, 1) := by decide +kernel
theorem dX7_setSort_13 : decode cX7_setSort 13 = .ok (.iload_n 2, 1) := by decide +kernel
theorem dX7_setSort_14 : decode cX7_setSort 14 = .ok (.iconst 0, 1) := by decide +kernel
theorem dX7_setSort_15 : decode cX7_setSort 15 = .ok (.iconst 2, 1) := by decide +kernel
theorem dX7_setSort_16 : decode cX7_setSort 16 = .ok (.invokestatic 84, 3) := by decide +kernel
theorem dX7_setSort_19 : decode cX7_setSort 19 = .ok (.ifCond .ne 6, 3) := by decide +kernel
theorem dX7_setSort_22 : decode cX7_setSort 22 = .ok (.bipush (-2), 2) := by decide +kernel
theorem dX7_setSort_24 : decode cX7_setSort 24 = .ok (.ireturn, 1) := by decide +kernel
theorem dX7_setSort_25 : decode cX7_setSort 25 = .ok (.aload_n 0, 1) := by decide +kernel
theorem dX7_setSort_26 : decode cX7_setSort 26 = .ok (.getfield 26, 3) := by decide +kernel
theorem dX7_setSort_29 : decode cX7_setSort 29 = .ok (.aload_n 0, 1) := by decide +kernel
theorem dX7_setSort_30 : decode cX7_setSort 30 = .ok (.getfield 10, 3) := by decide +kernel
theorem dX7_setSort_33 : decode cX7_setSort 33 = .ok (.invokevirtual 67, 3) := by decide +kernel
theorem dX7_setSort_36 : decode cX7_setSort 36 = .ok (.aload_n 0, 1) := by decide +kernel
theorem dX7_setSort_37 : decode cX7_setSort 37 = .ok (.getfield 10, 3) := by decide +kernel
theorem dX7_setSort_40 : decode cX7_setSort 40 = .ok (.getfield 101, 3) := by decide +kernel
theorem dX7_setSort_43 : decode cX7_setSort 43 = .ok (.iload_n 1, 1) := by decide +kernel
theorem dX7_setSort_44 : decode cX7_setSort 44 = .ok (.invokevirtual 104, 3) := by decide +kernel
theorem dX7_setSort_47 : decode cX7_setSort 47 = .ok (.istore_n 3, 1) := by decide +kernel
theorem dX7_setSort_48 : decode cX7_setSort 48 = .ok (.aload_n 0, 1) := by decide +kernel
theorem dX7_setSort_49 : decode cX7_setSort 49 = .ok (.getfield 10, 3) := by decide +kernel
theorem dX7_setSort_52 : decode cX7_setSort 52 = .ok (.getfield 101, 3) := by decide +kernel
theorem dX7_setSort_55 : decode cX7_setSort 55 = .ok (.iload_n 1, 1) := by decide +kernel
theorem dX7_setSort_56 : decode cX7_setSort 56 = .ok (.iload_n 2, 1) := by decide +kernel
theorem dX7_setSort_57 : decode cX7_setSort 57 = .ok (.invokevirtual 92, 3) := by decide +kernel
theorem dX7_setSort_60 : decode cX7_setSort 60 = .ok (.iload_n 3, 1) := by decide +kernel
theorem dX7_setSort_61 : decode cX7_setSort 61 = .ok (.ireturn, 1) := by decide +kernel
set_option maxRecDepth 20000 in
theorem ggX7_addSinger_X7_isWithin : GoodIn wsX7_addSinger wsX7_isWithin := goodIn_r _ [7] (by decide +kernel) (by decide +kernel)
set_option maxRecDepth 20000 in
theorem gX7_addSinger_X7_isWithin : GoodIn wsX7_addSinger (va_wsS RX7 84 yX7_isWithin wsX7_isWithin) := goodIn_app (goodIn_of _ (by decide +kernel)) ggX7_addSinger_X7_isWithin
set_option maxRecDepth 20000 in
theorem ggX7_addSinger_X1_record : GoodIn wsX7_addSinger wsX1_record := goodIn_r _ [12, 13, 14, 15, 16, 17, 18, 19, 20, 11, 21, 22, 23, 24, 25, 26, 27, 28, 29, 30, 31, 32, 33, 34, 35, 36, 37, 38, 39, 40, 41, 42, 43, 44, 45, 46, 47, 48, 49, 50, 51, 52, 53, 54, 55, 56, 57, 58, 59, 60, 61, 62, 63, 64, 65, 96, 97, 83, 84, 85, 86, 87, 88, 89, 90, 91, 92, 93, 94, 95, 98] (by decide +kernel) (by decide +kernel)
set_option maxRecDepth 20000 in
theorem gX7_addSinger_X1_record : GoodIn wsX7_addSinger (wsV RX7 67 RX1 yX1_record wsX1_record) := goodIn_app (goodIn_of _ (by decide +kernel)) ggX7_addSinger_X1_record
set_option maxRecDepth 20000 in
theorem ggX7_addSinger_X4_appendSinger : GoodIn wsX7_addSinger wsX4_appendSinger := goodIn_r _ [69, 55, 34, 35, 56, 70, 71, 72, 30, 73, 49, 74, 6, 75, 83, 84, 85, 86, 87, 88, 89, 90, 91, 92, 93, 94, 95, 98] (by decide +kernel) (by decide +kernel)
set_option maxRecDepth 20000 in
theorem gX7_addSinger_X4_appendSinger : GoodIn wsX7_addSinger (wsV RX7 111 RX4 yX4_appendSinger wsX4_appendSinger) := goodIn_app (goodIn_of _ (by decide +kernel)) ggX7_addSinger_X4_appendSinger
theorem dX7_addSinger_0 : decode cX7_addSinger 0 = .ok (.iload_n 1, 1) := by decide +kernel
theorem dX7_addSinger_1 : decode cX7_addSinger 1 = .ok (.iconst 4, 1) := by decide +kernel
theorem dX7_addSinger_2 : decode cX7_addSinger 2 = .ok (.bipush 40, 2) := by decide +kernel
theorem dX7_addSinger_4 : decode cX7_addSinger 4 = .ok (.invokestatic 84, 3) := by decide +kernel
theorem dX7_addSinger_7 : decode cX7_addSinger 7 = .ok (.ifCond .eq 13, 3) := by decide +kernel
theorem dX7_addSinger_10 : decode cX7_addSinger 10 = .ok (.iload_n 2, 1) := by decide +kernel
theorem dX7_addSinger_11 : decode cX7_addSinger 11 = .ok (.iconst 1, 1) := by decide +kernel
theorem dX7_addSinger_12 : decode cX7_addSinger 12 = .ok (.bipush 10, 2) := by decide +kernel
theorem dX7_addSinger_14 : decode cX7_addSinger 14 = .ok (.invokestatic 84, 3) := by decide +kernel
theorem dX7_addSinger_17 : decode cX7_addSinger 17 = .ok (.ifCond .ne 6, 3) := by decide +kernel
theorem dX7_addSinger_20 : decode cX7_addSinger 20 = .ok (.bipush (-2), 2) := by decide +kernel
theorem dX7_addSinger_22 : decode cX7_addSinger 22 = .ok (.ireturn, 1) := by decide +kernel
theorem dX7_addSinger_23 : decode cX7_addSinger 23 = .ok (.aload_n 0, 1) := by decide +kernel
theorem dX7_addSinger_24 : decode cX7_addSinger 24 = .ok (.getfield 10, 3) := by decide +kernel
theorem dX7_addSinger_27 : decode cX7_addSinger 27 = .ok (.getfield 108, 3) := by decide +kernel
theorem dX7_addSinger_30 : decode cX7_addSinger 30 = .ok (.bipush 12, 2) := by decide +kernel
theorem dX7_addSinger_32 : decode cX7_addSinger 32 = .ok (.if_icmp .lt 6, 3) := by decide +kernel
theorem dX7_addSinger_35 : decode cX7_addSinger 35 = .ok (.bipush (-3), 2) := by decide +kernel
theorem dX7_addSinger_37 : decode cX7_addSinger 37 = .ok (.ireturn, 1) := by decide +kernel
theorem dX7_addSinger_38 : decode cX7_addSinger 38 = .ok (.aload_n 0, 1) := by decide +kernel
theorem dX7_addSinger_39 : decode cX7_addSinger 39 = .ok (.getfield 26, 3) := by decide +kernel
theorem dX7_addSinger_42 : decode cX7_addSinger 42 = .ok (.aload_n 0, 1) := by decide +kernel
theorem dX7_addSinger_43 : decode cX7_addSinger 43 = .ok (.getfield 10, 3) := by decide +kernel
theorem dX7_addSinger_46 : decode cX7_addSinger 46 = .ok (.invokevirtual 67, 3) := by decide +kernel
theorem dX7_addSinger_49 : decode cX7_addSinger 49 = .ok (.aload_n 0, 1) := by decide +kernel
theorem dX7_addSinger_50 : decode cX7_addSinger 50 = .ok (.getfield 10, 3) := by decide +kernel
theorem dX7_addSinger_53 : decode cX7_addSinger 53 = .ok (.iload_n 1, 1) := by decide +kernel
theorem dX7_addSinger_54 : decode cX7_addSinger 54 = .ok (.iload_n 2, 1) := by decide +kernel
theorem dX7_addSinger_55 : decode cX7_addSinger 55 = .ok (.invokevirtual 111, 3) := by decide +kernel
theorem dX7_addSinger_58 : decode cX7_addSinger 58 = .ok (.ireturn, 1) := by decide +kernel
set_option maxRecDepth 20000 in
theorem ggX7_setPresent_X4_hasSinger : GoodIn wsX7_setPresent wsX4_hasSinger := goodIn_r _ [8, 9, 94, 95, 96, 97, 98, 99, 100, 101, 102, 103, 104, 105, 106] (by decide +kernel) (by decide +kernel)
set_option maxRecDepth 20000 in
theorem gX7_setPresent_X4_hasSinger : GoodIn wsX7_setPresent (wsV RX7 115 RX4 yX4_hasSinger wsX4_hasSinger) := goodIn_app (goodIn_of _ (by decide +kernel)) ggX7_setPresent_X4_hasSinger
set_option maxRecDepth 20000 in
theorem ggX7_setPresent_X4_isPresent : GoodIn wsX7_setPresent wsX4_isPresent := goodIn_r _ [13, 14, 15, 16, 17, 94, 95, 96, 97, 98, 99, 100, 101, 102, 103, 104, 105, 106] (by decide +kernel) (by decide +kernel)
set_option maxRecDepth 20000 in
theorem gX7_setPresent_X4_isPresent : GoodIn wsX7_setPresent (wsV RX7 118 RX4 yX4_isPresent wsX4_isPresent) := goodIn_app (goodIn_of _ (by decide +kernel)) ggX7_setPresent_X4_isPresent
set_option maxRecDepth 20000 in
theorem ggX7_setPresent_X1_record : GoodIn wsX7_setPresent wsX1_record := goodIn_r _ [22, 23, 24, 25, 26, 7, 27, 28, 29, 21, 30, 31, 32, 33, 34, 35, 36, 37, 38, 39, 40, 41, 42, 43, 44, 45, 46, 47, 48, 49, 50, 51, 52, 53, 54, 55, 56, 57, 58, 59, 60, 61, 62, 63, 9, 14, 64, 65, 66, 67, 68, 69, 70, 71, 72, 107, 108, 94, 95, 96, 97, 98, 99, 100, 101, 102, 103, 104, 105, 106, 109] (by decide +kernel) (by decide +kernel)
set_option maxRecDepth 20000 in
theorem gX7_setPresent_X1_record : GoodIn wsX7_setPresent (wsV RX7 67 RX1 yX1_record wsX1_record) := goodIn_app (goodIn_of _ (by decide +kernel)) ggX7_setPresent_X1_record
set_option maxRecDepth 20000 in
theorem ggX7_setPresent_X7_bit : GoodIn wsX7_setPresent wsX7_bit := goodIn_r _ [75] (by decide +kernel) (by decide +kernel)
set_option maxRecDepth 20000 in
theorem gX7_setPresent_X7_bit : GoodIn wsX7_setPresent (va_wsS RX7 124 yX7_bit wsX7_bit) := goodIn_app (goodIn_of _ (by decide +kernel)) ggX7_setPresent_X7_bit
set_option maxRecDepth 20000 in
theorem ggX7_setPresent_X4_countPresent : GoodIn wsX7_setPresent wsX4_countPresent := goodIn_r _ [79, 14, 80, 81, 82, 83, 84, 85, 86, 94, 95, 96, 97, 98, 99, 100, 101, 102, 103, 104, 105, 106] (by decide +kernel) (by decide +kernel)
set_option maxRecDepth 20000 in
theorem gX7_setPresent_X4_countPresent : GoodIn wsX7_setPresent (wsV RX7 127 RX4 yX4_countPresent wsX4_countPresent) := goodIn_app (goodIn_of _ (by decide +kernel)) ggX7_setPresent_X4_countPresent
theorem dX7_setPresent_0 : decode cX7_setPresent 0 = .ok (.aload_n 0, 1) := by decide +kernel
theorem dX7_setPresent_1 : decode cX7_setPresent 1 = .ok (.getfield 10, 3) := by decide +kernel
theorem dX7_setPresent_4 : decode cX7_setPresent 4 = .ok (.iload_n 1, 1) := by decide +kernel
theorem dX7_setPresent_5 : decode cX7_setPresent 5 = .ok (.invokevirtual 115, 3) := by decide +kernel
theorem dX7_setPresent_8 : decode cX7_setPresent 8 = .ok (.ifCond .ne 5, 3) := by decide +kernel
theorem dX7_setPresent_11 : decode cX7_setPresent 11 = .ok (.iconst (-1), 1) := by decide +kernel
theorem dX7_setPresent_12 : decode cX7_setPresent 12 = .ok (.ireturn, 1) := by decide +kernel
theorem dX7_setPresent_13 : decode cX7_setPresent 13 = .ok (.aload_n 0, 1) := by decide +kernel
theorem dX7_setPresent_14 : decode cX7_setPresent 14 = .ok (.getfield 10, 3) := by decide +kernel
theorem dX7_setPresent_17 : decode cX7_setPresent 17 = .ok (.iload_n 1, 1) := by decide +kernel
theorem dX7_setPresent_18 : decode cX7_setPresent 18 = .ok (.invokevirtual 118, 3) := by decide +kernel
theorem dX7_setPresent_21 : decode cX7_setPresent 21 = .ok (.iload_n 2, 1) := by decide +kernel
theorem dX7_setPresent_22 : decode cX7_setPresent 22 = .ok (.if_icmp .ne 6, 3) := by decide +kernel
theorem dX7_setPresent_25 : decode cX7_setPresent 25 = .ok (.bipush (-5), 2) := by decide +kernel
theorem dX7_setPresent_27 : decode cX7_setPresent 27 = .ok (.ireturn, 1) := by decide +kernel
theorem dX7_setPresent_28 : decode cX7_setPresent 28 = .ok (.aload_n 0, 1) := by decide +kernel
theorem dX7_setPresent_29 : decode cX7_setPresent 29 = .ok (.getfield 26, 3) := by decide +kernel
theorem dX7_setPresent_32 : decode cX7_setPresent 32 = .ok (.aload_n 0, 1) := by decide +kernel
theorem dX7_setPresent_33 : decode cX7_setPresent 33 = .ok (.getfield 10, 3) := by decide +kernel
theorem dX7_setPresent_36 : decode cX7_setPresent 36 = .ok (.invokevirtual 67, 3) := by decide +kernel
theorem dX7_setPresent_39 : decode cX7_setPresent 39 = .ok (.aload_n 0, 1) := by decide +kernel
theorem dX7_setPresent_40 : decode cX7_setPresent 40 = .ok (.getfield 10, 3) := by decide +kernel
theorem dX7_setPresent_43 : decode cX7_setPresent 43 = .ok (.dup, 1) := by decide +kernel
theorem dX7_setPresent_44 : decode cX7_setPresent 44 = .ok (.getfield 121, 3) := by decide +kernel
theorem dX7_setPresent_47 : decode cX7_setPresent 47 = .ok (.iload_n 1, 1) := by decide +kernel
theorem dX7_setPresent_48 : decode cX7_setPresent 48 = .ok (.invokestatic 124, 3) := by decide +kernel
theorem dX7_setPresent_51 : decode cX7_setPresent 51 = .ok (.ixor, 1) := by decide +kernel
theorem dX7_setPresent_52 : decode cX7_setPresent 52 = .ok (.putfield 121, 3) := by decide +kernel
theorem dX7_setPresent_55 : decode cX7_setPresent 55 = .ok (.aload_n 0, 1) := by decide +kernel
theorem dX7_setPresent_56 : decode cX7_setPresent 56 = .ok (.getfield 10, 3) := by decide +kernel
theorem dX7_setPresent_59 : decode cX7_setPresent 59 = .ok (.invokevirtual 127, 3) := by decide +kernel
theorem dX7_setPresent_62 : decode cX7_setPresent 62 = .ok (.ireturn, 1) := by decide +kernel
set_option maxRecDepth 20000 in
theorem ggX7_addSolo_X4_hasSinger : GoodIn wsX7_addSolo wsX4_hasSinger := goodIn_r _ [8, 9, 94, 95, 96, 97, 98, 99, 100, 101, 102, 103, 104, 105, 106] (by decide +kernel) (by decide +kernel)
set_option maxRecDepth 20000 in
theorem gX7_addSolo_X4_hasSinger : GoodIn wsX7_addSolo (wsV RX7 115 RX4 yX4_hasSinger wsX4_hasSinger) := goodIn_app (goodIn_of _ (by decide +kernel)) ggX7_addSolo_X4_hasSinger
set_option maxRecDepth 20000 in
theorem ggX7_addSolo_X4_hasBeat : GoodIn wsX7_addSolo wsX4_hasBeat := goodIn_r _ [13, 14, 94, 95, 96, 97, 98, 99, 100, 101, 102, 103, 104, 105, 106] (by decide +kernel) (by decide +kernel)
set_option maxRecDepth 20000 in
theorem gX7_addSolo_X4_hasBeat : GoodIn wsX7_addSolo (wsV RX7 80 RX4 yX4_hasBeat wsX4_hasBeat) := goodIn_app (goodIn_of _ (by decide +kernel)) ggX7_addSolo_X4_hasBeat
set_option maxRecDepth 20000 in
theorem ggX7_addSolo_X4_overlapsSolo : GoodIn wsX7_addSolo wsX4_overlapsSolo := goodIn_r _ [18, 19, 20, 21, 22, 23, 24, 25, 26, 27, 94, 95, 96, 97, 98, 99, 100, 101, 102, 103, 104, 105, 106, 107] (by decide +kernel) (by decide +kernel)
set_option maxRecDepth 20000 in
theorem gX7_addSolo_X4_overlapsSolo : GoodIn wsX7_addSolo (wsV RX7 130 RX4 yX4_overlapsSolo wsX4_overlapsSolo) := goodIn_app (goodIn_of _ (by decide +kernel)) ggX7_addSolo_X4_overlapsSolo
set_option maxRecDepth 20000 in
theorem ggX7_addSolo_X1_record : GoodIn wsX7_addSolo wsX1_record := goodIn_r _ [32, 33, 34, 35, 36, 7, 37, 38, 39, 31, 40, 41, 42, 43, 44, 45, 46, 47, 48, 25, 49, 50, 51, 52, 53, 54, 20, 21, 55, 56, 57, 58, 59, 60, 61, 62, 63, 64, 27, 65, 66, 67, 68, 14, 9, 69, 19, 70, 71, 72, 73, 74, 23, 24, 26, 108, 109, 94, 95, 96, 97, 98, 99, 100, 101, 102, 103, 104, 105, 106, 107] (by decide +kernel) (by decide +kernel)
set_option maxRecDepth 20000 in
theorem gX7_addSolo_X1_record : GoodIn wsX7_addSolo (wsV RX7 67 RX1 yX1_record wsX1_record) := goodIn_app (goodIn_of _ (by decide +kernel)) ggX7_addSolo_X1_record
set_option maxRecDepth 20000 in
theorem ggX7_addSolo_X4_insertSolo : GoodIn wsX7_addSolo wsX4_insertSolo := goodIn_r _ [78, 19, 20, 54, 21, 22, 23, 24, 25, 26, 27, 79, 80, 81, 7, 82, 83, 84, 85, 86, 94, 95, 96, 97, 98, 99, 100, 101, 102, 103, 104, 105, 106, 107] (by decide +kernel) (by decide +kernel)
set_option maxRecDepth 20000 in
theorem gX7_addSolo_X4_insertSolo : GoodIn wsX7_addSolo (wsV RX7 137 RX4 yX4_insertSolo wsX4_insertSolo) := goodIn_app (goodIn_of _ (by decide +kernel)) ggX7_addSolo_X4_insertSolo
theorem dX7_addSolo_0 : decode cX7_addSolo 0 = .ok (.aload_n 0, 1) := by decide +kernel
theorem dX7_addSolo_1 : decode cX7_addSolo 1 = .ok (.getfield 10, 3) := by decide +kernel
theorem dX7_addSolo_4 : decode cX7_addSolo 4 = .ok (.iload_n 1, 1) := by decide +kernel
theorem dX7_addSolo_5 : decode cX7_addSolo 5 = .ok (.invokevirtual 115, 3) := by decide +kernel
theorem dX7_addSolo_8 : decode cX7_addSolo 8 = .ok (.ifCond .eq 25, 3) := by decide +kernel
theorem dX7_addSolo_11 : decode cX7_addSolo 11 = .ok (.aload_n 0, 1) := by decide +kernel
theorem dX7_addSolo_12 : decode cX7_addSolo 12 = .ok (.getfield 10, 3) := by decide +kernel
theorem dX7_addSolo_15 : decode cX7_addSolo 15 = .ok (.iload_n 2, 1) := by decide +kernel
theorem dX7_addSolo_16 : decode cX7_addSolo 16 = .ok (.invokevirtual 80, 3) := by decide +kernel
theorem dX7_addSolo_19 : decode cX7_addSolo 19 = .ok (.ifCond .eq 14, 3) := by decide +kernel
theorem dX7_addSolo_22 : decode cX7_addSolo 22 = .ok (.aload_n 0, 1) := by decide +kernel
theorem dX7_addSolo_23 : decode cX7_addSolo 23 = .ok (.getfield 10, 3) := by decide +kernel
theorem dX7_addSolo_26 : decode cX7_addSolo 26 = .ok (.iload_n 3, 1) := by decide +kernel
theorem dX7_addSolo_27 : decode cX7_addSolo 27 = .ok (.invokevirtual 80, 3) := by decide +kernel
theorem dX7_addSolo_30 : decode cX7_addSolo 30 = .ok (.ifCond .ne 5, 3) := by decide +kernel
theorem dX7_addSolo_33 : decode cX7_addSolo 33 = .ok (.iconst (-1), 1) := by decide +kernel
theorem dX7_addSolo_34 : decode cX7_addSolo 34 = .ok (.ireturn, 1) := by decide +kernel
theorem dX7_addSolo_35 : decode cX7_addSolo 35 = .ok (.iload_n 3, 1) := by decide +kernel
theorem dX7_addSolo_36 : decode cX7_addSolo 36 = .ok (.iload_n 2, 1) := by decide +kernel
theorem dX7_addSolo_37 : decode cX7_addSolo 37 = .ok (.if_icmp .ge 6, 3) := by decide +kernel
theorem dX7_addSolo_40 : decode cX7_addSolo 40 = .ok (.bipush (-2), 2) := by decide +kernel
theorem dX7_addSolo_42 : decode cX7_addSolo 42 = .ok (.ireturn, 1) := by decide +kernel
theorem dX7_addSolo_43 : decode cX7_addSolo 43 = .ok (.aload_n 0, 1) := by decide +kernel
theorem dX7_addSolo_44 : decode cX7_addSolo 44 = .ok (.getfield 10, 3) := by decide +kernel
theorem dX7_addSolo_47 : decode cX7_addSolo 47 = .ok (.iload_n 2, 1) := by decide +kernel
theorem dX7_addSolo_48 : decode cX7_addSolo 48 = .ok (.iload_n 3, 1) := by decide +kernel
theorem dX7_addSolo_49 : decode cX7_addSolo 49 = .ok (.invokevirtual 130, 3) := by decide +kernel
theorem dX7_addSolo_52 : decode cX7_addSolo 52 = .ok (.ifCond .eq 6, 3) := by decide +kernel
theorem dX7_addSolo_55 : decode cX7_addSolo 55 = .ok (.bipush (-4), 2) := by decide +kernel
theorem dX7_addSolo_57 : decode cX7_addSolo 57 = .ok (.ireturn, 1) := by decide +kernel
theorem dX7_addSolo_58 : decode cX7_addSolo 58 = .ok (.aload_n 0, 1) := by decide +kernel
theorem dX7_addSolo_59 : decode cX7_addSolo 59 = .ok (.getfield 10, 3) := by decide +kernel
theorem dX7_addSolo_62 : decode cX7_addSolo 62 = .ok (.getfield 134, 3) := by decide +kernel
theorem dX7_addSolo_65 : decode cX7_addSolo 65 = .ok (.bipush 8, 2) := by decide +kernel
theorem dX7_addSolo_67 : decode cX7_addSolo 67 = .ok (.if_icmp .lt 6, 3) := by decide +kernel
theorem dX7_addSolo_70 : decode cX7_addSolo 70 = .ok (.bipush (-3), 2) := by decide +kernel
theorem dX7_addSolo_72 : decode cX7_addSolo 72 = .ok (.ireturn, 1) := by decide +kernel
theorem dX7_addSolo_73 : decode cX7_addSolo 73 = .ok (.aload_n 0, 1) := by decide +kernel
theorem dX7_addSolo_74 : decode cX7_addSolo 74 = .ok (.getfield 26, 3) := by decide +kernel
theorem dX7_addSolo_77 : decode cX7_addSolo 77 = .ok (.aload_n 0, 1) := by decide +kernel
theorem dX7_addSolo_78 : decode cX7_addSolo 78 = .ok (.getfield 10, 3) := by decide +kernel
theorem dX7_addSolo_81 : decode cX7_addSolo 81 = .ok (.invokevirtual 67, 3) := by decide +kernel
theorem dX7_addSolo_84 : decode cX7_addSolo 84 = .ok (.aload_n 0, 1) := by decide +kernel
theorem dX7_addSolo_85 : decode cX7_addSolo 85 = .ok (.getfield 10, 3) := by decide +kernel
theorem dX7_addSolo_88 : decode cX7_addSolo 88 = .ok (.iload_n 1, 1) := by decide +kernel
theorem dX7_addSolo_89 : decode cX7_addSolo 89 = .ok (.iload_n 2, 1) := by decide +kernel
theorem dX7_addSolo_90 : decode cX7_addSolo 90 = .ok (.iload_n 3, 1) := by decide +kernel
theorem dX7_addSolo_91 : decode cX7_addSolo 91 = .ok (.invokevirtual 137, 3) := by decide +kernel
theorem dX7_addSolo_94 : decode cX7_addSolo 94 = .ok (.ireturn, 1) := by decide +kernel
set_option maxRecDepth 20000 in
theorem ggX7_removeSolo_X4_hasSolo : GoodIn wsX7_removeSolo wsX4_hasSolo := goodIn_r _ [8, 9, 86, 87, 88, 89, 90, 91, 92, 93, 94, 95, 96, 97, 98] (by decide +kernel) (by decide +kernel)
set_option maxRecDepth 20000 in
theorem gX7_removeSolo_X4_hasSolo : GoodIn wsX7_removeSolo (wsV RX7 141 RX4 yX4_hasSolo wsX4_hasSolo) := goodIn_app (goodIn_of _ (by decide +kernel)) ggX7_removeSolo_X4_hasSolo
set_option maxRecDepth 20000 in
theorem ggX7_removeSolo_X1_record : GoodIn wsX7_removeSolo wsX1_record := goodIn_r _ [14, 15, 16, 17, 18, 7, 19, 20, 21, 13, 22, 23, 24, 25, 26, 27, 28, 29, 30, 31, 32, 33, 34, 35, 36, 37, 38, 39, 40, 41, 42, 43, 44, 45, 46, 47, 48, 49, 50, 51, 52, 53, 54, 55, 56, 57, 9, 58, 59, 60, 61, 62, 63, 64, 65, 99, 100, 86, 87, 88, 89, 90, 91, 92, 93, 94, 95, 96, 97, 98, 101] (by decide +kernel) (by decide +kernel)
set_option maxRecDepth 20000 in
theorem gX7_removeSolo_X1_record : GoodIn wsX7_removeSolo (wsV RX7 67 RX1 yX1_record wsX1_record) := goodIn_app (goodIn_of _ (by decide +kernel)) ggX7_removeSolo_X1_record
set_option maxRecDepth 20000 in
theorem ggX7_removeSolo_X4_dropSolo : GoodIn wsX7_removeSolo wsX4_dropSolo := goodIn_r _ [69, 9, 70, 71, 72, 7, 73, 37, 38, 39, 74, 63, 64, 31, 65, 50, 75, 76, 77, 78, 86, 87, 88, 89, 90, 91, 92, 93, 94, 95, 96, 97, 98, 101] (by decide +kernel) (by decide +kernel)
set_option maxRecDepth 20000 in
theorem gX7_removeSolo_X4_dropSolo : GoodIn wsX7_removeSolo (wsV RX7 144 RX4 yX4_dropSolo wsX4_dropSolo) := goodIn_app (goodIn_of _ (by decide +kernel)) ggX7_removeSolo_X4_dropSolo
theorem dX7_removeSolo_0 : decode cX7_removeSolo 0 = .ok (.aload_n 0, 1) := by decide +kernel
theorem dX7_removeSolo_1 : decode cX7_removeSolo 1 = .ok (.getfield 10, 3) := by decide +kernel
theorem dX7_removeSolo_4 : decode cX7_removeSolo 4 = .ok (.iload_n 1, 1) := by decide +kernel
theorem dX7_removeSolo_5 : decode cX7_removeSolo 5 = .ok (.invokevirtual 141, 3) := by decide +kernel
theorem dX7_removeSolo_8 : decode cX7_removeSolo 8 = .ok (.ifCond .ne 5, 3) := by decide +kernel
theorem dX7_removeSolo_11 : decode cX7_removeSolo 11 = .ok (.iconst (-1), 1) := by decide +kernel
theorem dX7_removeSolo_12 : decode cX7_removeSolo 12 = .ok (.ireturn, 1) := by decide +kernel
theorem dX7_removeSolo_13 : decode cX7_removeSolo 13 = .ok (.aload_n 0, 1) := by decide +kernel
theorem dX7_removeSolo_14 : decode cX7_removeSolo 14 = .ok (.getfield 26, 3) := by decide +kernel
theorem dX7_removeSolo_17 : decode cX7_removeSolo 17 = .ok (.aload_n 0, 1) := by decide +kernel
theorem dX7_removeSolo_18 : decode cX7_removeSolo 18 = .ok (.getfield 10, 3) := by decide +kernel
theorem dX7_removeSolo_21 : decode cX7_removeSolo 21 = .ok (.invokevirtual 67, 3) := by decide +kernel
theorem dX7_removeSolo_24 : decode cX7_removeSolo 24 = .ok (.aload_n 0, 1) := by decide +kernel
theorem dX7_removeSolo_25 : decode cX7_removeSolo 25 = .ok (.getfield 10, 3) := by decide +kernel
theorem dX7_removeSolo_28 : decode cX7_removeSolo 28 = .ok (.iload_n 1, 1) := by decide +kernel
theorem dX7_removeSolo_29 : decode cX7_removeSolo 29 = .ok (.invokevirtual 144, 3) := by decide +kernel
theorem dX7_removeSolo_32 : decode cX7_removeSolo 32 = .ok (.aload_n 0, 1) := by decide +kernel
theorem dX7_removeSolo_33 : decode cX7_removeSolo 33 = .ok (.getfield 10, 3) := by decide +kernel
theorem dX7_removeSolo_36 : decode cX7_removeSolo 36 = .ok (.getfield 134, 3) := by decide +kernel
theorem dX7_removeSolo_39 : decode cX7_removeSolo 39 = .ok (.ireturn, 1) := by decide +kernel
set_option maxRecDepth 20000 in
theorem ggX7_mark_X4_hasSinger : GoodIn wsX7_mark wsX4_hasSinger := goodIn_r _ [8, 9, 98, 99, 100, 101, 102, 103, 104, 105, 106, 107, 108, 109, 110] (by decide +kernel) (by decide +kernel)
set_option maxRecDepth 20000 in
theorem gX7_mark_X4_hasSinger : GoodIn wsX7_mark (wsV RX7 115 RX4 yX4_hasSinger wsX4_hasSinger) := goodIn_app (goodIn_of _ (by decide +kernel)) ggX7_mark_X4_hasSinger
set_option maxRecDepth 20000 in
theorem ggX7_mark_X4_hasBeat : GoodIn wsX7_mark wsX4_hasBeat := goodIn_r _ [13, 14, 98, 99, 100, 101, 102, 103, 104, 105, 106, 107, 108, 109, 110] (by decide +kernel) (by decide +kernel)
set_option maxRecDepth 20000 in
theorem gX7_mark_X4_hasBeat : GoodIn wsX7_mark (wsV RX7 80 RX4 yX4_hasBeat wsX4_hasBeat) := goodIn_app (goodIn_of _ (by decide +kernel)) ggX7_mark_X4_hasBeat
set_option maxRecDepth 20000 in
theorem ggX7_mark_X4_isMarked : GoodIn wsX7_mark wsX4_isMarked := goodIn_r _ [18, 19, 20, 21, 22, 23, 24, 25, 26, 27, 28, 98, 99, 100, 101, 102, 103, 104, 105, 106, 107, 108, 109, 110, 111] (by decide +kernel) (by decide +kernel)
set_option maxRecDepth 20000 in
theorem gX7_mark_X4_isMarked : GoodIn wsX7_mark (wsV RX7 148 RX4 yX4_isMarked wsX4_isMarked) := goodIn_app (goodIn_of _ (by decide +kernel)) ggX7_mark_X4_isMarked
set_option maxRecDepth 20000 in
theorem ggX7_mark_X1_record : GoodIn wsX7_mark wsX1_record := goodIn_r _ [33, 34, 35, 36, 37, 7, 38, 39, 40, 32, 41, 42, 43, 44, 45, 46, 47, 48, 49, 23, 50, 51, 19, 52, 53, 54, 55, 56, 57, 58, 59, 60, 61, 62, 63, 64, 65, 66, 25, 67, 68, 69, 70, 14, 9, 71, 72, 73, 74, 75, 76, 77, 21, 22, 24, 112, 113, 98, 99, 100, 101, 102, 103, 104, 105, 106, 107, 108, 109, 110, 111] (by decide +kernel) (by decide +kernel)
set_option maxRecDepth 20000 in
theorem gX7_mark_X1_record : GoodIn wsX7_mark (wsV RX7 67 RX1 yX1_record wsX1_record) := goodIn_app (goodIn_of _ (by decide +kernel)) ggX7_mark_X1_record
set_option maxRecDepth 20000 in
theorem ggX7_mark_X2_at : GoodIn wsX7_mark wsX2_at := goodIn_r _ [24, 25, 111] (by decide +kernel) (by decide +kernel)
set_option maxRecDepth 20000 in
theorem gX7_mark_X2_at : GoodIn wsX7_mark (wsV RX7 104 RX2 yX2_at wsX2_at) := goodIn_app (goodIn_of _ (by decide +kernel)) ggX7_mark_X2_at
set_option maxRecDepth 20000 in
theorem ggX7_mark_X7_bit : GoodIn wsX7_mark wsX7_bit := goodIn_r _ [81] (by decide +kernel) (by decide +kernel)
set_option maxRecDepth 20000 in
theorem gX7_mark_X7_bit : GoodIn wsX7_mark (va_wsS RX7 124 yX7_bit wsX7_bit) := goodIn_app (goodIn_of _ (by decide +kernel)) ggX7_mark_X7_bit
set_option maxRecDepth 20000 in
theorem ggX7_mark_X2_put : GoodIn wsX7_mark wsX2_put := goodIn_r _ [85, 25, 111] (by decide +kernel) (by decide +kernel)
set_option maxRecDepth 20000 in
theorem gX7_mark_X2_put : GoodIn wsX7_mark (wsV RX7 92 RX2 yX2_put wsX2_put) := goodIn_app (goodIn_of _ (by decide +kernel)) ggX7_mark_X2_put
set_option maxRecDepth 20000 in
theorem ggX7_mark_X4_countMarksOf : GoodIn wsX7_mark wsX4_countMarksOf := goodIn_r _ [89, 14, 90, 16, 17, 7, 18, 19, 20, 21, 22, 23, 24, 25, 26, 27, 28, 98, 99, 100, 101, 102, 103, 104, 105, 106, 107, 108, 109, 110, 111] (by decide +kernel) (by decide +kernel)
set_option maxRecDepth 20000 in
theorem gX7_mark_X4_countMarksOf : GoodIn wsX7_mark (wsV RX7 154 RX4 yX4_countMarksOf wsX4_countMarksOf) := goodIn_app (goodIn_of _ (by decide +kernel)) ggX7_mark_X4_countMarksOf
theorem dX7_mark_0 : decode cX7_mark 0 = .ok (.aload_n 0, 1) := by decide +kernel
theorem dX7_mark_1 : decode cX7_mark 1 = .ok (.getfield 10, 3) := by decide +kernel
theorem dX7_mark_4 : decode cX7_mark 4 = .ok (.iload_n 1, 1) := by decide +kernel
theorem dX7_mark_5 : decode cX7_mark 5 = .ok (.invokevirtual 115, 3) := by decide +kernel
theorem dX7_mark_8 : decode cX7_mark 8 = .ok (.ifCond .eq 14, 3) := by decide +kernel
theorem dX7_mark_11 : decode cX7_mark 11 = .ok (.aload_n 0, 1) := by decide +kernel
theorem dX7_mark_12 : decode cX7_mark 12 = .ok (.getfield 10, 3) := by decide +kernel
theorem dX7_mark_15 : decode cX7_mark 15 = .ok (.iload_n 2, 1) := by decide +kernel
theorem dX7_mark_16 : decode cX7_mark 16 = .ok (.invokevirtual 80, 3) := by decide +kernel
theorem dX7_mark_19 : decode cX7_mark 19 = .ok (.ifCond .ne 5, 3) := by decide +kernel
theorem dX7_mark_22 : decode cX7_mark 22 = .ok (.iconst (-1), 1) := by decide +kernel
theorem dX7_mark_23 : decode cX7_mark 23 = .ok (.ireturn, 1) := by decide +kernel
theorem dX7_mark_24 : decode cX7_mark 24 = .ok (.aload_n 0, 1) := by decide +kernel
theorem dX7_mark_25 : decode cX7_mark 25 = .ok (.getfield 10, 3) := by decide +kernel
theorem dX7_mark_28 : decode cX7_mark 28 = .ok (.iload_n 1, 1) := by decide +kernel
theorem dX7_mark_29 : decode cX7_mark 29 = .ok (.iload_n 2, 1) := by decide +kernel
theorem dX7_mark_30 : decode cX7_mark 30 = .ok (.invokevirtual 148, 3) := by decide +kernel
theorem dX7_mark_33 : decode cX7_mark 33 = .ok (.iload_n 3, 1) := by decide +kernel
theorem dX7_mark_34 : decode cX7_mark 34 = .ok (.if_icmp .ne 6, 3) := by decide +kernel
theorem dX7_mark_37 : decode cX7_mark 37 = .ok (.bipush (-5), 2) := by decide +kernel
theorem dX7_mark_39 : decode cX7_mark 39 = .ok (.ireturn, 1) := by decide +kernel
theorem dX7_mark_40 : decode cX7_mark 40 = .ok (.aload_n 0, 1) := by decide +kernel
theorem dX7_mark_41 : decode cX7_mark 41 = .ok (.getfield 26, 3) := by decide +kernel
theorem dX7_mark_44 : decode cX7_mark 44 = .ok (.aload_n 0, 1) := by decide +kernel
theorem dX7_mark_45 : decode cX7_mark 45 = .ok (.getfield 10, 3) := by decide +kernel
theorem dX7_mark_48 : decode cX7_mark 48 = .ok (.invokevirtual 67, 3) := by decide +kernel
theorem dX7_mark_51 : decode cX7_mark 51 = .ok (.aload_n 0, 1) := by decide +kernel
theorem dX7_mark_52 : decode cX7_mark 52 = .ok (.getfield 10, 3) := by decide +kernel
theorem dX7_mark_55 : decode cX7_mark 55 = .ok (.getfield 151, 3) := by decide +kernel
theorem dX7_mark_58 : decode cX7_mark 58 = .ok (.iload_n 2, 1) := by decide +kernel
theorem dX7_mark_59 : decode cX7_mark 59 = .ok (.aload_n 0, 1) := by decide +kernel
theorem dX7_mark_60 : decode cX7_mark 60 = .ok (.getfield 10, 3) := by decide +kernel
theorem dX7_mark_63 : decode cX7_mark 63 = .ok (.getfield 151, 3) := by decide +kernel
theorem dX7_mark_66 : decode cX7_mark 66 = .ok (.iload_n 2, 1) := by decide +kernel
theorem dX7_mark_67 : decode cX7_mark 67 = .ok (.invokevirtual 104, 3) := by decide +kernel
theorem dX7_mark_70 : decode cX7_mark 70 = .ok (.iload_n 1, 1) := by decide +kernel
theorem dX7_mark_71 : decode cX7_mark 71 = .ok (.invokestatic 124, 3) := by decide +kernel
theorem dX7_mark_74 : decode cX7_mark 74 = .ok (.ixor, 1) := by decide +kernel
theorem dX7_mark_75 : decode cX7_mark 75 = .ok (.invokevirtual 92, 3) := by decide +kernel
theorem dX7_mark_78 : decode cX7_mark 78 = .ok (.aload_n 0, 1) := by decide +kernel
theorem dX7_mark_79 : decode cX7_mark 79 = .ok (.getfield 10, 3) := by decide +kernel
theorem dX7_mark_82 : decode cX7_mark 82 = .ok (.iload_n 1, 1) := by decide +kernel
theorem dX7_mark_83 : decode cX7_mark 83 = .ok (.invokevirtual 154, 3) := by decide +kernel
theorem dX7_mark_86 : decode cX7_mark 86 = .ok (.ireturn, 1) := by decide +kernel
set_option maxRecDepth 20000 in
theorem ggX7_setReserve_X7_isWithin : GoodIn wsX7_setReserve wsX7_isWithin := goodIn_r _ [7] (by decide +kernel) (by decide +kernel)
set_option maxRecDepth 20000 in
theorem gX7_setReserve_X7_isWithin : GoodIn wsX7_setReserve (va_wsS RX7 84 yX7_isWithin wsX7_isWithin) := goodIn_app (goodIn_of _ (by decide +kernel)) ggX7_setReserve_X7_isWithin
set_option maxRecDepth 20000 in
theorem ggX7_setReserve_X1_record : GoodIn wsX7_setReserve wsX1_record := goodIn_r _ [12, 13, 14, 15, 16, 17, 18, 19, 20, 11, 21, 22, 23, 24, 25, 26, 27, 28, 29, 30, 31, 32, 33, 34, 35, 36, 37, 38, 39, 40, 41, 42, 43, 44, 45, 46, 47, 48, 49, 50, 51, 52, 53, 54, 55, 56, 57, 58, 59, 60, 61, 62, 63, 64, 65, 86, 87, 73, 74, 75, 76, 77, 78, 79, 80, 81, 82, 83, 84, 85, 88] (by decide +kernel) (by decide +kernel)
set_option maxRecDepth 20000 in
theorem gX7_setReserve_X1_record : GoodIn wsX7_setReserve (wsV RX7 67 RX1 yX1_record wsX1_record) := goodIn_app (goodIn_of _ (by decide +kernel)) ggX7_setReserve_X1_record
theorem dX7_setReserve_0 : decode cX7_setReserve 0 = .ok (.iload_n 1, 1) := by decide +kernel
theorem dX7_setReserve_1 : decode cX7_setReserve 1 = .ok (.iconst 1, 1) := by decide +kernel
theorem dX7_setReserve_2 : decode cX7_setReserve 2 = .ok (.bipush 8, 2) := by decide +kernel
theorem dX7_setReserve_4 : decode cX7_setReserve 4 = .ok (.invokestatic 84, 3) := by decide +kernel
theorem dX7_setReserve_7 : decode cX7_setReserve 7 = .ok (.ifCond .ne 6, 3) := by decide +kernel
theorem dX7_setReserve_10 : decode cX7_setReserve 10 = .ok (.bipush (-2), 2) := by decide +kernel
theorem dX7_setReserve_12 : decode cX7_setReserve 12 = .ok (.ireturn, 1) := by decide +kernel
theorem dX7_setReserve_13 : decode cX7_setReserve 13 = .ok (.aload_n 0, 1) := by decide +kernel
theorem dX7_setReserve_14 : decode cX7_setReserve 14 = .ok (.getfield 26, 3) := by decide +kernel
theorem dX7_setReserve_17 : decode cX7_setReserve 17 = .ok (.aload_n 0, 1) := by decide +kernel
theorem dX7_setReserve_18 : decode cX7_setReserve 18 = .ok (.getfield 10, 3) := by decide +kernel
theorem dX7_setReserve_21 : decode cX7_setReserve 21 = .ok (.invokevirtual 67, 3) := by decide +kernel
theorem dX7_setReserve_24 : decode cX7_setReserve 24 = .ok (.aload_n 0, 1) := by decide +kernel
theorem dX7_setReserve_25 : decode cX7_setReserve 25 = .ok (.getfield 10, 3) := by decide +kernel
theorem dX7_setReserve_28 : decode cX7_setReserve 28 = .ok (.getfield 157, 3) := by decide +kernel
theorem dX7_setReserve_31 : decode cX7_setReserve 31 = .ok (.istore_n 2, 1) := by decide +kernel
theorem dX7_setReserve_32 : decode cX7_setReserve 32 = .ok (.aload_n 0, 1) := by decide +kernel
theorem dX7_setReserve_33 : decode cX7_setReserve 33 = .ok (.getfield 10, 3) := by decide +kernel
theorem dX7_setReserve_36 : decode cX7_setReserve 36 = .ok (.iload_n 1, 1) := by decide +kernel
theorem dX7_setReserve_37 : decode cX7_setReserve 37 = .ok (.putfield 157, 3) := by decide +kernel
theorem dX7_setReserve_40 : decode cX7_setReserve 40 = .ok (.iload_n 2, 1) := by decide +kernel
theorem dX7_setReserve_41 : decode cX7_setReserve 41 = .ok (.ireturn, 1) := by decide +kernel
set_option maxRecDepth 20000 in
theorem ggX7_make_X1_record : GoodIn wsX7_make wsX1_record := goodIn_r _ [10, 11, 12, 13, 14, 15, 16, 17, 18, 9, 19, 20, 21, 22, 23, 24, 25, 26, 27, 28, 29, 30, 31, 32, 33, 34, 35, 36, 37, 38, 39, 40, 41, 42, 43, 44, 45, 46, 47, 48, 49, 50, 51, 52, 53, 54, 55, 56, 57, 58, 59, 60, 61, 62, 63, 179, 180, 166, 167, 168, 169, 170, 171, 172, 173, 174, 175, 176, 177, 178, 181] (by decide +kernel) (by decide +kernel)
set_option maxRecDepth 20000 in
theorem gX7_make_X1_record : GoodIn wsX7_make (wsV RX7 67 RX1 yX1_record wsX1_record) := goodIn_app (goodIn_of _ (by decide +kernel)) ggX7_make_X1_record
set_option maxRecDepth 20000 in
theorem ggX7_make_X5_makePlan : GoodIn wsX7_make wsX5_makePlan := goodIn_r _ [68, 69, 70, 71, 72, 73, 74, 75, 28, 76, 47, 77, 57, 58, 59, 60, 61, 62, 63, 78, 79, 80, 15, 81, 29, 82, 83, 84, 85, 86, 55, 35, 36, 87, 88, 89, 67, 90, 91, 43, 44, 45, 92, 93, 94, 95, 96, 97, 98, 99, 100, 101, 102, 54, 103, 104, 105, 106, 107, 108, 109, 110, 111, 112, 113, 114, 115, 116, 117, 118, 119, 120, 121, 122, 123, 124, 125, 126, 127, 128, 129, 130, 131, 132, 133, 134, 135, 136, 137, 138, 139, 140, 141, 142, 143, 30, 144, 145, 146, 147, 34, 148, 149, 150, 151, 152, 153, 154, 31, 166, 167, 168, 169, 170, 171, 172, 173, 174, 175, 176, 177, 178, 182, 181] (by decide +kernel) (by decide +kernel)
set_option maxRecDepth 20000 in
theorem gX7_make_X5_makePlan : GoodIn wsX7_make (wsV RX7 160 RX5 yX5_makePlan wsX5_makePlan) := goodIn_app (goodIn_of _ (by decide +kernel)) ggX7_make_X5_makePlan
set_option maxRecDepth 20000 in
theorem ggX7_make_X4_countMarks : GoodIn wsX7_make wsX4_countMarks := goodIn_r _ [158, 52, 31, 82, 61, 62, 28, 63, 47, 103, 104, 105, 106, 107, 108, 109, 166, 167, 168, 169, 170, 171, 172, 173, 174, 175, 176, 177, 178, 181] (by decide +kernel) (by decide +kernel)
set_option maxRecDepth 20000 in
theorem gX7_make_X4_countMarks : GoodIn wsX7_make (wsV RX7 163 RX4 yX4_countMarks wsX4_countMarks) := goodIn_app (goodIn_of _ (by decide +kernel)) ggX7_make_X4_countMarks
theorem dX7_make_0 : decode cX7_make 0 = .ok (.aload_n 0, 1) := by decide +kernel
theorem dX7_make_1 : decode cX7_make 1 = .ok (.getfield 10, 3) := by decide +kernel
theorem dX7_make_4 : decode cX7_make 4 = .ok (.getfield 121, 3) := by decide +kernel
theorem dX7_make_7 : decode cX7_make 7 = .ok (.ifCond .eq 13, 3) := by decide +kernel
theorem dX7_make_10 : decode cX7_make 10 = .ok (.aload_n 0, 1) := by decide +kernel
theorem dX7_make_11 : decode cX7_make 11 = .ok (.getfield 10, 3) := by decide +kernel
theorem dX7_make_14 : decode cX7_make 14 = .ok (.getfield 77, 3) := by decide +kernel
theorem dX7_make_17 : decode cX7_make 17 = .ok (.ifCond .ne 6, 3) := by decide +kernel
theorem dX7_make_20 : decode cX7_make 20 = .ok (.bipush (-4), 2) := by decide +kernel
theorem dX7_make_22 : decode cX7_make 22 = .ok (.ireturn, 1) := by decide +kernel
theorem dX7_make_23 : decode cX7_make 23 = .ok (.aload_n 0, 1) := by decide +kernel
theorem dX7_make_24 : decode cX7_make 24 = .ok (.getfield 26, 3) := by decide +kernel
theorem dX7_make_27 : decode cX7_make 27 = .ok (.aload_n 0, 1) := by decide +kernel
theorem dX7_make_28 : decode cX7_make 28 = .ok (.getfield 10, 3) := by decide +kernel
theorem dX7_make_31 : decode cX7_make 31 = .ok (.invokevirtual 67, 3) := by decide +kernel
theorem dX7_make_34 : decode cX7_make 34 = .ok (.aload_n 0, 1) := by decide +kernel
theorem dX7_make_35 : decode cX7_make 35 = .ok (.getfield 51, 3) := by decide +kernel
theorem dX7_make_38 : decode cX7_make 38 = .ok (.aload_n 0, 1) := by decide +kernel
theorem dX7_make_39 : decode cX7_make 39 = .ok (.getfield 10, 3) := by decide +kernel
theorem dX7_make_42 : decode cX7_make 42 = .ok (.invokevirtual 160, 3) := by decide +kernel
theorem dX7_make_45 : decode cX7_make 45 = .ok (.aload_n 0, 1) := by decide +kernel
theorem dX7_make_46 : decode cX7_make 46 = .ok (.getfield 10, 3) := by decide +kernel
theorem dX7_make_49 : decode cX7_make 49 = .ok (.invokevirtual 163, 3) := by decide +kernel
theorem dX7_make_52 : decode cX7_make 52 = .ok (.ireturn, 1) := by decide +kernel
set_option maxRecDepth 20000 in
theorem ggX7_undo_X1_takeBack : GoodIn wsX7_undo wsX1_takeBack := goodIn_r _ [8, 9, 10, 11, 12, 13, 14, 15, 16, 17, 18, 19, 20, 21, 22, 23, 24, 25, 26, 27, 28, 29, 30, 31, 32, 33, 34, 35, 36, 37, 38, 46, 47, 48, 49, 50, 51, 52, 53, 54, 55, 56, 57, 58, 59, 60, 61] (by decide +kernel) (by decide +kernel)
set_option maxRecDepth 20000 in
theorem gX7_undo_X1_takeBack : GoodIn wsX7_undo (wsV RX7 169 RX1 yX1_takeBack wsX1_takeBack) := goodIn_app (goodIn_of _ (by decide +kernel)) ggX7_undo_X1_takeBack
theorem dX7_undo_0 : decode cX7_undo 0 = .ok (.aload_n 0, 1) := by decide +kernel
theorem dX7_undo_1 : decode cX7_undo 1 = .ok (.getfield 26, 3) := by decide +kernel
theorem dX7_undo_4 : decode cX7_undo 4 = .ok (.getfield 166, 3) := by decide +kernel
theorem dX7_undo_7 : decode cX7_undo 7 = .ok (.ifCond .ne 6, 3) := by decide +kernel
theorem dX7_undo_10 : decode cX7_undo 10 = .ok (.bipush (-5), 2) := by decide +kernel
theorem dX7_undo_12 : decode cX7_undo 12 = .ok (.ireturn, 1) := by decide +kernel
theorem dX7_undo_13 : decode cX7_undo 13 = .ok (.aload_n 0, 1) := by decide +kernel
theorem dX7_undo_14 : decode cX7_undo 14 = .ok (.getfield 26, 3) := by decide +kernel
theorem dX7_undo_17 : decode cX7_undo 17 = .ok (.aload_n 0, 1) := by decide +kernel
theorem dX7_undo_18 : decode cX7_undo 18 = .ok (.getfield 10, 3) := by decide +kernel
theorem dX7_undo_21 : decode cX7_undo 21 = .ok (.invokevirtual 169, 3) := by decide +kernel
theorem dX7_undo_24 : decode cX7_undo 24 = .ok (.aload_n 0, 1) := by decide +kernel
theorem dX7_undo_25 : decode cX7_undo 25 = .ok (.getfield 26, 3) := by decide +kernel
theorem dX7_undo_28 : decode cX7_undo 28 = .ok (.getfield 166, 3) := by decide +kernel
theorem dX7_undo_31 : decode cX7_undo 31 = .ok (.ireturn, 1) := by decide +kernel
set_option maxRecDepth 20000 in
theorem ggX7_keep_X4_init : GoodIn wsX7_keep wsX4_init := goodIn_r _ [9, 10, 11, 12, 13, 14, 15, 16, 17, 18, 19, 20, 21, 22, 23, 24, 25, 26, 27, 28, 29, 30, 31, 32, 33, 34, 71, 58, 59, 60, 61, 62, 63, 64, 65, 66, 67, 68, 69, 70] (by decide +kernel) (by decide +kernel)
set_option maxRecDepth 20000 in
theorem gX7_keep_X4_init : GoodIn wsX7_keep (wsX4_init) := ggX7_keep_X4_init
set_option maxRecDepth 20000 in
theorem ggX7_keep_X4_copyFrom : GoodIn wsX7_keep wsX4_copyFrom := goodIn_r _ [38, 39, 40, 41, 42, 24, 16, 17, 18, 19, 20, 21, 22, 23, 43, 44, 45, 15, 46, 34, 47, 48, 49, 50, 58, 59, 60, 61, 62, 63, 64, 65, 66, 67, 68, 69, 70, 71] (by decide +kernel) (by decide +kernel)
set_option maxRecDepth 20000 in
theorem gX7_keep_X4_copyFrom : GoodIn wsX7_keep (wsV RX7 172 RX4 yX4_copyFrom wsX4_copyFrom) := goodIn_app (goodIn_of _ (by decide +kernel)) ggX7_keep_X4_copyFrom
theorem dX7_keep_0 : decode cX7_keep 0 = .ok (.iload_n 1, 1) := by decide +kernel
theorem dX7_keep_1 : decode cX7_keep 1 = .ok (.ifCond .lt 12, 3) := by decide +kernel
theorem dX7_keep_4 : decode cX7_keep 4 = .ok (.iload_n 1, 1) := by decide +kernel
theorem dX7_keep_5 : decode cX7_keep 5 = .ok (.aload_n 0, 1) := by decide +kernel
theorem dX7_keep_6 : decode cX7_keep 6 = .ok (.getfield 30, 3) := by decide +kernel
theorem dX7_keep_9 : decode cX7_keep 9 = .ok (.arraylength, 1) := by decide +kernel
theorem dX7_keep_10 : decode cX7_keep 10 = .ok (.if_icmp .lt 5, 3) := by decide +kernel
theorem dX7_keep_13 : decode cX7_keep 13 = .ok (.iconst (-1), 1) := by decide +kernel
theorem dX7_keep_14 : decode cX7_keep 14 = .ok (.ireturn, 1) := by decide +kernel
theorem dX7_keep_15 : decode cX7_keep 15 = .ok (.aload_n 0, 1) := by decide +kernel
theorem dX7_keep_16 : decode cX7_keep 16 = .ok (.getfield 30, 3) := by decide +kernel
theorem dX7_keep_19 : decode cX7_keep 19 = .ok (.iload_n 1, 1) := by decide +kernel
theorem dX7_keep_20 : decode cX7_keep 20 = .ok (.aaload, 1) := by decide +kernel
theorem dX7_keep_21 : decode cX7_keep 21 = .ok (.astore_n 2, 1) := by decide +kernel
theorem dX7_keep_22 : decode cX7_keep 22 = .ok (.aload_n 2, 1) := by decide +kernel
theorem dX7_keep_23 : decode cX7_keep 23 = .ok (.ifnonnull 18, 3) := by decide +kernel
theorem dX7_keep_26 : decode cX7_keep 26 = .ok (.new 7, 3) := by decide +kernel
theorem dX7_keep_29 : decode cX7_keep 29 = .ok (.dup, 1) := by decide +kernel
theorem dX7_keep_30 : decode cX7_keep 30 = .ok (.invokespecial 9, 3) := by decide +kernel
theorem dX7_keep_33 : decode cX7_keep 33 = .ok (.astore_n 2, 1) := by decide +kernel
theorem dX7_keep_34 : decode cX7_keep 34 = .ok (.aload_n 0, 1) := by decide +kernel
theorem dX7_keep_35 : decode cX7_keep 35 = .ok (.getfield 30, 3) := by decide +kernel
theorem dX7_keep_38 : decode cX7_keep 38 = .ok (.iload_n 1, 1) := by decide +kernel
theorem dX7_keep_39 : decode cX7_keep 39 = .ok (.aload_n 2, 1) := by decide +kernel
theorem dX7_keep_40 : decode cX7_keep 40 = .ok (.aastore, 1) := by decide +kernel
theorem dX7_keep_41 : decode cX7_keep 41 = .ok (.aload_n 2, 1) := by decide +kernel
theorem dX7_keep_42 : decode cX7_keep 42 = .ok (.aload_n 0, 1) := by decide +kernel
theorem dX7_keep_43 : decode cX7_keep 43 = .ok (.getfield 10, 3) := by decide +kernel
theorem dX7_keep_46 : decode cX7_keep 46 = .ok (.invokevirtual 172, 3) := by decide +kernel
theorem dX7_keep_49 : decode cX7_keep 49 = .ok (.aload_n 0, 1) := by decide +kernel
theorem dX7_keep_50 : decode cX7_keep 50 = .ok (.getfield 10, 3) := by decide +kernel
theorem dX7_keep_53 : decode cX7_keep 53 = .ok (.getfield 77, 3) := by decide +kernel
theorem dX7_keep_56 : decode cX7_keep 56 = .ok (.ireturn, 1) := by decide +kernel
set_option maxRecDepth 20000 in
theorem ggX7_restore_X1_record : GoodIn wsX7_restore wsX1_record := goodIn_r _ [9, 10, 11, 12, 13, 14, 15, 16, 17, 8, 18, 19, 20, 21, 22, 23, 24, 25, 26, 27, 28, 29, 30, 31, 32, 33, 34, 35, 36, 37, 38, 39, 40, 41, 42, 43, 44, 45, 46, 47, 48, 49, 50, 51, 52, 53, 54, 55, 56, 57, 58, 59, 60, 61, 62, 84, 85, 71, 72, 73, 74, 75, 76, 77, 78, 79, 80, 81, 82, 83, 86] (by decide +kernel) (by decide +kernel)
set_option maxRecDepth 20000 in
theorem gX7_restore_X1_record : GoodIn wsX7_restore (wsV RX7 67 RX1 yX1_record wsX1_record) := goodIn_app (goodIn_of _ (by decide +kernel)) ggX7_restore_X1_record
set_option maxRecDepth 20000 in
theorem ggX7_restore_X4_copyFrom : GoodIn wsX7_restore wsX4_copyFrom := goodIn_r _ [50, 51, 52, 53, 54, 36, 28, 29, 30, 31, 32, 33, 34, 35, 55, 56, 57, 27, 58, 46, 59, 60, 61, 62, 71, 72, 73, 74, 75, 76, 77, 78, 79, 80, 81, 82, 83, 86] (by decide +kernel) (by decide +kernel)
set_option maxRecDepth 20000 in
theorem gX7_restore_X4_copyFrom : GoodIn wsX7_restore (wsV RX7 172 RX4 yX4_copyFrom wsX4_copyFrom) := goodIn_app (goodIn_of _ (by decide +kernel)) ggX7_restore_X4_copyFrom
theorem dX7_restore_0 : decode cX7_restore 0 = .ok (.iload_n 1, 1) := by decide +kernel
theorem dX7_restore_1 : decode cX7_restore 1 = .ok (.ifCond .lt 12, 3) := by decide +kernel
theorem dX7_restore_4 : decode cX7_restore 4 = .ok (.iload_n 1, 1) := by decide +kernel
theorem dX7_restore_5 : decode cX7_restore 5 = .ok (.aload_n 0, 1) := by decide +kernel
theorem dX7_restore_6 : decode cX7_restore 6 = .ok (.getfield 30, 3) := by decide +kernel
theorem dX7_restore_9 : decode cX7_restore 9 = .ok (.arraylength, 1) := by decide +kernel
theorem dX7_restore_10 : decode cX7_restore 10 = .ok (.if_icmp .lt 5, 3) := by decide +kernel
theorem dX7_restore_13 : decode cX7_restore 13 = .ok (.iconst (-1), 1) := by decide +kernel
theorem dX7_restore_14 : decode cX7_restore 14 = .ok (.ireturn, 1) := by decide +kernel
theorem dX7_restore_15 : decode cX7_restore 15 = .ok (.aload_n 0, 1) := by decide +kernel
theorem dX7_restore_16 : decode cX7_restore 16 = .ok (.getfield 30, 3) := by decide +kernel
theorem dX7_restore_19 : decode cX7_restore 19 = .ok (.iload_n 1, 1) := by decide +kernel
theorem dX7_restore_20 : decode cX7_restore 20 = .ok (.aaload, 1) := by decide +kernel
theorem dX7_restore_21 : decode cX7_restore 21 = .ok (.astore_n 2, 1) := by decide +kernel
theorem dX7_restore_22 : decode cX7_restore 22 = .ok (.aload_n 2, 1) := by decide +kernel
theorem dX7_restore_23 : decode cX7_restore 23 = .ok (.ifnonnull 6, 3) := by decide +kernel
theorem dX7_restore_26 : decode cX7_restore 26 = .ok (.bipush (-5), 2) := by decide +kernel
theorem dX7_restore_28 : decode cX7_restore 28 = .ok (.ireturn, 1) := by decide +kernel
theorem dX7_restore_29 : decode cX7_restore 29 = .ok (.aload_n 0, 1) := by decide +kernel
theorem dX7_restore_30 : decode cX7_restore 30 = .ok (.getfield 26, 3) := by decide +kernel
theorem dX7_restore_33 : decode cX7_restore 33 = .ok (.aload_n 0, 1) := by decide +kernel
theorem dX7_restore_34 : decode cX7_restore 34 = .ok (.getfield 10, 3) := by decide +kernel
theorem dX7_restore_37 : decode cX7_restore 37 = .ok (.invokevirtual 67, 3) := by decide +kernel
theorem dX7_restore_40 : decode cX7_restore 40 = .ok (.aload_n 0, 1) := by decide +kernel
theorem dX7_restore_41 : decode cX7_restore 41 = .ok (.getfield 10, 3) := by decide +kernel
theorem dX7_restore_44 : decode cX7_restore 44 = .ok (.aload_n 2, 1) := by decide +kernel
theorem dX7_restore_45 : decode cX7_restore 45 = .ok (.invokevirtual 172, 3) := by decide +kernel
theorem dX7_restore_48 : decode cX7_restore 48 = .ok (.aload_n 0, 1) := by decide +kernel
theorem dX7_restore_49 : decode cX7_restore 49 = .ok (.getfield 10, 3) := by decide +kernel
theorem dX7_restore_52 : decode cX7_restore 52 = .ok (.getfield 77, 3) := by decide +kernel
theorem dX7_restore_55 : decode cX7_restore 55 = .ok (.ireturn, 1) := by decide +kernel
set_option maxRecDepth 20000 in
theorem ggX7_beat_X4_hasBeat : GoodIn wsX7_beat wsX4_hasBeat := goodIn_r _ [10, 11, 125, 126, 127, 128, 129, 130, 131, 132, 133, 134, 135, 136, 137] (by decide +kernel) (by decide +kernel)
set_option maxRecDepth 20000 in
theorem gX7_beat_X4_hasBeat : GoodIn wsX7_beat (wsV RX7 80 RX4 yX4_hasBeat wsX4_hasBeat) := goodIn_app (goodIn_of _ (by decide +kernel)) ggX7_beat_X4_hasBeat
set_option maxRecDepth 20000 in
theorem ggX7_beat_X2_at : GoodIn wsX7_beat wsX2_at := goodIn_r _ [16, 17, 138] (by decide +kernel) (by decide +kernel)
set_option maxRecDepth 20000 in
theorem gX7_beat_X2_at : GoodIn wsX7_beat (wsV RX7 104 RX2 yX2_at wsX2_at) := goodIn_app (goodIn_of _ (by decide +kernel)) ggX7_beat_X2_at
set_option maxRecDepth 20000 in
theorem ggX7_beat_X4_firstOfSyllable : GoodIn wsX7_beat wsX4_firstOfSyllable := goodIn_r _ [21, 22, 23, 24, 25, 9, 26, 27, 13, 14, 15, 16, 17, 125, 126, 127, 128, 129, 130, 131, 132, 133, 134, 135, 136, 137, 138] (by decide +kernel) (by decide +kernel)
set_option maxRecDepth 20000 in
theorem gX7_beat_X4_firstOfSyllable : GoodIn wsX7_beat (wsV RX7 175 RX4 yX4_firstOfSyllable wsX4_firstOfSyllable) := goodIn_app (goodIn_of _ (by decide +kernel)) ggX7_beat_X4_firstOfSyllable
set_option maxRecDepth 20000 in
theorem ggX7_beat_X4_soloAt : GoodIn wsX7_beat wsX4_soloAt := goodIn_r _ [31, 32, 33, 34, 27, 13, 14, 15, 16, 17, 125, 126, 127, 128, 129, 130, 131, 132, 133, 134, 135, 136, 137, 138] (by decide +kernel) (by decide +kernel)
set_option maxRecDepth 20000 in
theorem gX7_beat_X4_soloAt : GoodIn wsX7_beat (wsV RX7 178 RX4 yX4_soloAt wsX4_soloAt) := goodIn_app (goodIn_of _ (by decide +kernel)) ggX7_beat_X4_soloAt
set_option maxRecDepth 20000 in
theorem ggX7_beat_X0_follow : GoodIn wsX7_beat wsX0_follow := goodIn_r _ [39, 40, 41, 42, 43, 44, 45, 46, 47, 48, 49, 15, 50, 17, 51, 13, 14, 16, 52, 53, 54, 55, 56, 57, 58, 59, 60, 61, 62, 63, 64, 65, 66, 67, 68, 69, 70, 71, 9, 72, 73, 74, 75, 76, 77, 78, 23, 24, 25, 26, 22, 27, 79, 80, 81, 82, 83, 84, 85, 86, 87, 29, 30, 31, 32, 33, 34, 88, 89, 90, 91, 92, 93, 94, 95, 96, 97, 98, 99, 38, 100, 101, 102, 103, 139, 140, 141, 125, 126, 127, 128, 129, 130, 131, 132, 133, 134, 135, 136, 137, 142, 143, 144, 145, 138] (by decide +kernel) (by decide +kernel)
set_option maxRecDepth 20000 in
theorem gX7_beat_X0_follow : GoodIn wsX7_beat (wsV RX7 181 RX0 yX0_follow wsX0_follow) := goodIn_app (goodIn_of _ (by decide +kernel)) ggX7_beat_X0_follow
set_option maxRecDepth 20000 in
theorem ggX7_beat_X7_performed : GoodIn wsX7_beat wsX7_performed := goodIn_r _ [107, 4, 108, 109, 110, 1, 3, 12, 13, 14, 15, 16, 17, 111, 112, 113, 114, 115, 116, 117, 118, 119, 120, 121, 122, 123, 124, 139, 140, 141, 125, 126, 127, 128, 129, 130, 131, 132, 133, 134, 135, 136, 137, 138] (by decide +kernel) (by decide +kernel)
set_option maxRecDepth 20000 in
theorem gX7_beat_X7_performed : GoodIn wsX7_beat (wsV RX7 185 RX7 yX7_performed wsX7_performed) := goodIn_app (goodIn_of _ (by decide +kernel)) ggX7_beat_X7_performed
theorem dX7_beat_0 : decode cX7_beat 0 = .ok (.aload_n 0, 1) := by decide +kernel
theorem dX7_beat_1 : decode cX7_beat 1 = .ok (.getfield 10, 3) := by decide +kernel
theorem dX7_beat_4 : decode cX7_beat 4 = .ok (.iload_n 1, 1) := by decide +kernel
theorem dX7_beat_5 : decode cX7_beat 5 = .ok (.invokevirtual 80, 3) := by decide +kernel
theorem dX7_beat_8 : decode cX7_beat 8 = .ok (.ifCond .ne 5, 3) := by decide +kernel
theorem dX7_beat_11 : decode cX7_beat 11 = .ok (.iconst (-1), 1) := by decide +kernel
theorem dX7_beat_12 : decode cX7_beat 12 = .ok (.ireturn, 1) := by decide +kernel
theorem dX7_beat_13 : decode cX7_beat 13 = .ok (.iload_n 2, 1) := by decide +kernel
theorem dX7_beat_14 : decode cX7_beat 14 = .ok (.tableswitch 76 0 4 #[34, 46, 58, 76, 67], 34) := by decide +kernel
theorem dX7_beat_48 : decode cX7_beat 48 = .ok (.aload_n 0, 1) := by decide +kernel
theorem dX7_beat_49 : decode cX7_beat 49 = .ok (.getfield 10, 3) := by decide +kernel
theorem dX7_beat_52 : decode cX7_beat 52 = .ok (.getfield 101, 3) := by decide +kernel
theorem dX7_beat_55 : decode cX7_beat 55 = .ok (.iload_n 1, 1) := by decide +kernel
theorem dX7_beat_56 : decode cX7_beat 56 = .ok (.invokevirtual 104, 3) := by decide +kernel
theorem dX7_beat_59 : decode cX7_beat 59 = .ok (.ireturn, 1) := by decide +kernel
theorem dX7_beat_60 : decode cX7_beat 60 = .ok (.aload_n 0, 1) := by decide +kernel
theorem dX7_beat_61 : decode cX7_beat 61 = .ok (.getfield 10, 3) := by decide +kernel
theorem dX7_beat_64 : decode cX7_beat 64 = .ok (.getfield 88, 3) := by decide +kernel
theorem dX7_beat_67 : decode cX7_beat 67 = .ok (.iload_n 1, 1) := by decide +kernel
theorem dX7_beat_68 : decode cX7_beat 68 = .ok (.invokevirtual 104, 3) := by decide +kernel
theorem dX7_beat_71 : decode cX7_beat 71 = .ok (.ireturn, 1) := by decide +kernel
theorem dX7_beat_72 : decode cX7_beat 72 = .ok (.aload_n 0, 1) := by decide +kernel
theorem dX7_beat_73 : decode cX7_beat 73 = .ok (.getfield 10, 3) := by decide +kernel
theorem dX7_beat_76 : decode cX7_beat 76 = .ok (.iload_n 1, 1) := by decide +kernel
theorem dX7_beat_77 : decode cX7_beat 77 = .ok (.invokevirtual 175, 3) := by decide +kernel
theorem dX7_beat_80 : decode cX7_beat 80 = .ok (.ireturn, 1) := by decide +kernel
theorem dX7_beat_81 : decode cX7_beat 81 = .ok (.aload_n 0, 1) := by decide +kernel
theorem dX7_beat_82 : decode cX7_beat 82 = .ok (.getfield 10, 3) := by decide +kernel
theorem dX7_beat_85 : decode cX7_beat 85 = .ok (.iload_n 1, 1) := by decide +kernel
theorem dX7_beat_86 : decode cX7_beat 86 = .ok (.invokevirtual 178, 3) := by decide +kernel
theorem dX7_beat_89 : decode cX7_beat 89 = .ok (.ireturn, 1) := by decide +kernel
theorem dX7_beat_90 : decode cX7_beat 90 = .ok (.aload_n 0, 1) := by decide +kernel
theorem dX7_beat_91 : decode cX7_beat 91 = .ok (.getfield 44, 3) := by decide +kernel
theorem dX7_beat_94 : decode cX7_beat 94 = .ok (.aload_n 0, 1) := by decide +kernel
theorem dX7_beat_95 : decode cX7_beat 95 = .ok (.getfield 10, 3) := by decide +kernel
theorem dX7_beat_98 : decode cX7_beat 98 = .ok (.aload_n 0, 1) := by decide +kernel
theorem dX7_beat_99 : decode cX7_beat 99 = .ok (.getfield 37, 3) := by decide +kernel
theorem dX7_beat_102 : decode cX7_beat 102 = .ok (.invokevirtual 181, 3) := by decide +kernel
theorem dX7_beat_105 : decode cX7_beat 105 = .ok (.aload_n 0, 1) := by decide +kernel
theorem dX7_beat_106 : decode cX7_beat 106 = .ok (.iload_n 1, 1) := by decide +kernel
theorem dX7_beat_107 : decode cX7_beat 107 = .ok (.iload_n 2, 1) := by decide +kernel
theorem dX7_beat_108 : decode cX7_beat 108 = .ok (.invokevirtual 185, 3) := by decide +kernel
theorem dX7_beat_111 : decode cX7_beat 111 = .ok (.ireturn, 1) := by decide +kernel
set_option maxRecDepth 20000 in
theorem ggX7_singer_X4_hasSinger : GoodIn wsX7_singer wsX4_hasSinger := goodIn_r _ [9, 10, 106, 107, 108, 109, 110, 111, 112, 113, 114, 115, 116, 117, 118] (by decide +kernel) (by decide +kernel)
set_option maxRecDepth 20000 in
theorem gX7_singer_X4_hasSinger : GoodIn wsX7_singer (wsV RX7 115 RX4 yX4_hasSinger wsX4_hasSinger) := goodIn_app (goodIn_of _ (by decide +kernel)) ggX7_singer_X4_hasSinger
set_option maxRecDepth 20000 in
theorem ggX7_singer_X2_at : GoodIn wsX7_singer wsX2_at := goodIn_r _ [15, 16, 119] (by decide +kernel) (by decide +kernel)
set_option maxRecDepth 20000 in
theorem gX7_singer_X2_at : GoodIn wsX7_singer (wsV RX7 104 RX2 yX2_at wsX2_at) := goodIn_app (goodIn_of _ (by decide +kernel)) ggX7_singer_X2_at
set_option maxRecDepth 20000 in
theorem ggX7_singer_X4_isPresent : GoodIn wsX7_singer wsX4_isPresent := goodIn_r _ [20, 21, 22, 23, 24, 106, 107, 108, 109, 110, 111, 112, 113, 114, 115, 116, 117, 118] (by decide +kernel) (by decide +kernel)
set_option maxRecDepth 20000 in
theorem gX7_singer_X4_isPresent : GoodIn wsX7_singer (wsV RX7 118 RX4 yX4_isPresent wsX4_isPresent) := goodIn_app (goodIn_of _ (by decide +kernel)) ggX7_singer_X4_isPresent
set_option maxRecDepth 20000 in
theorem ggX7_singer_X4_countMarksOf : GoodIn wsX7_singer wsX4_countMarksOf := goodIn_r _ [28, 29, 30, 31, 32, 8, 33, 34, 35, 12, 13, 14, 15, 16, 22, 23, 24, 106, 107, 108, 109, 110, 111, 112, 113, 114, 115, 116, 117, 118, 119] (by decide +kernel) (by decide +kernel)
set_option maxRecDepth 20000 in
theorem gX7_singer_X4_countMarksOf : GoodIn wsX7_singer (wsV RX7 154 RX4 yX4_countMarksOf wsX4_countMarksOf) := goodIn_app (goodIn_of _ (by decide +kernel)) ggX7_singer_X4_countMarksOf
set_option maxRecDepth 20000 in
theorem ggX7_singer_X6_follow : GoodIn wsX7_singer wsX6_follow := goodIn_r _ [40, 41, 42, 43, 44, 45, 46, 47, 48, 49, 50, 51, 52, 12, 13, 14, 15, 16, 53, 54, 55, 8, 56, 57, 58, 59, 60, 61, 62, 63, 64, 65, 66, 67, 35, 68, 18, 19, 20, 21, 22, 23, 24, 69, 70, 71, 72, 73, 74, 75, 30, 31, 32, 33, 34, 76, 77, 78, 79, 106, 107, 108, 109, 110, 111, 112, 113, 114, 115, 116, 117, 118, 120, 121, 122, 123, 119] (by decide +kernel) (by decide +kernel)
set_option maxRecDepth 20000 in
theorem gX7_singer_X6_follow : GoodIn wsX7_singer (wsV RX7 194 RX6 yX6_follow wsX6_follow) := goodIn_app (goodIn_of _ (by decide +kernel)) ggX7_singer_X6_follow
set_option maxRecDepth 20000 in
theorem ggX7_singer_X7_performedBy : GoodIn wsX7_singer wsX7_performedBy := goodIn_r _ [83, 4, 84, 85, 86, 39, 87, 42, 50, 52, 12, 13, 14, 15, 16, 88, 89, 90, 91, 43, 51, 46, 47, 48, 49, 92, 93, 94, 95, 96, 97, 98, 99, 100, 101, 102, 103, 104, 105, 120, 121, 122, 123, 119] (by decide +kernel) (by decide +kernel)
set_option maxRecDepth 20000 in
theorem gX7_singer_X7_performedBy : GoodIn wsX7_singer (wsV RX7 197 RX7 yX7_performedBy wsX7_performedBy) := goodIn_app (goodIn_of _ (by decide +kernel)) ggX7_singer_X7_performedBy
theorem dX7_singer_0 : decode cX7_singer 0 = .ok (.aload_n 0, 1) := by decide +kernel
theorem dX7_singer_1 : decode cX7_singer 1 = .ok (.getfield 10, 3) := by decide +kernel
theorem dX7_singer_4 : decode cX7_singer 4 = .ok (.iload_n 1, 1) := by decide +kernel
theorem dX7_singer_5 : decode cX7_singer 5 = .ok (.invokevirtual 115, 3) := by decide +kernel
theorem dX7_singer_8 : decode cX7_singer 8 = .ok (.ifCond .ne 5, 3) := by decide +kernel
theorem dX7_singer_11 : decode cX7_singer 11 = .ok (.iconst (-1), 1) := by decide +kernel
theorem dX7_singer_12 : decode cX7_singer 12 = .ok (.ireturn, 1) := by decide +kernel
theorem dX7_singer_13 : decode cX7_singer 13 = .ok (.iload_n 2, 1) := by decide +kernel
theorem dX7_singer_14 : decode cX7_singer 14 = .ok (.tableswitch 80 0 3 #[30, 42, 54, 71], 30) := by decide +kernel
theorem dX7_singer_44 : decode cX7_singer 44 = .ok (.aload_n 0, 1) := by decide +kernel
theorem dX7_singer_45 : decode cX7_singer 45 = .ok (.getfield 10, 3) := by decide +kernel
theorem dX7_singer_48 : decode cX7_singer 48 = .ok (.getfield 188, 3) := by decide +kernel
theorem dX7_singer_51 : decode cX7_singer 51 = .ok (.iload_n 1, 1) := by decide +kernel
theorem dX7_singer_52 : decode cX7_singer 52 = .ok (.invokevirtual 104, 3) := by decide +kernel
theorem dX7_singer_55 : decode cX7_singer 55 = .ok (.ireturn, 1) := by decide +kernel
theorem dX7_singer_56 : decode cX7_singer 56 = .ok (.aload_n 0, 1) := by decide +kernel
theorem dX7_singer_57 : decode cX7_singer 57 = .ok (.getfield 10, 3) := by decide +kernel
theorem dX7_singer_60 : decode cX7_singer 60 = .ok (.getfield 191, 3) := by decide +kernel
theorem dX7_singer_63 : decode cX7_singer 63 = .ok (.iload_n 1, 1) := by decide +kernel
theorem dX7_singer_64 : decode cX7_singer 64 = .ok (.invokevirtual 104, 3) := by decide +kernel
theorem dX7_singer_67 : decode cX7_singer 67 = .ok (.ireturn, 1) := by decide +kernel
theorem dX7_singer_68 : decode cX7_singer 68 = .ok (.aload_n 0, 1) := by decide +kernel
theorem dX7_singer_69 : decode cX7_singer 69 = .ok (.getfield 10, 3) := by decide +kernel
theorem dX7_singer_72 : decode cX7_singer 72 = .ok (.iload_n 1, 1) := by decide +kernel
theorem dX7_singer_73 : decode cX7_singer 73 = .ok (.invokevirtual 118, 3) := by decide +kernel
theorem dX7_singer_76 : decode cX7_singer 76 = .ok (.ifCond .eq 7, 3) := by decide +kernel
theorem dX7_singer_79 : decode cX7_singer 79 = .ok (.iconst 1, 1) := by decide +kernel
theorem dX7_singer_80 : decode cX7_singer 80 = .ok (.goto 4, 3) := by decide +kernel
theorem dX7_singer_83 : decode cX7_singer 83 = .ok (.iconst 0, 1) := by decide +kernel
theorem dX7_singer_84 : decode cX7_singer 84 = .ok (.ireturn, 1) := by decide +kernel
theorem dX7_singer_85 : decode cX7_singer 85 = .ok (.aload_n 0, 1) := by decide +kernel
theorem dX7_singer_86 : decode cX7_singer 86 = .ok (.getfield 10, 3) := by decide +kernel
theorem dX7_singer_89 : decode cX7_singer 89 = .ok (.iload_n 1, 1) := by decide +kernel
theorem dX7_singer_90 : decode cX7_singer 90 = .ok (.invokevirtual 154, 3) := by decide +kernel
theorem dX7_singer_93 : decode cX7_singer 93 = .ok (.ireturn, 1) := by decide +kernel
theorem dX7_singer_94 : decode cX7_singer 94 = .ok (.aload_n 0, 1) := by decide +kernel
theorem dX7_singer_95 : decode cX7_singer 95 = .ok (.getfield 37, 3) := by decide +kernel
theorem dX7_singer_98 : decode cX7_singer 98 = .ok (.aload_n 0, 1) := by decide +kernel
theorem dX7_singer_99 : decode cX7_singer 99 = .ok (.getfield 10, 3) := by decide +kernel
theorem dX7_singer_102 : decode cX7_singer 102 = .ok (.iload_n 1, 1) := by decide +kernel
theorem dX7_singer_103 : decode cX7_singer 103 = .ok (.aload_n 0, 1) := by decide +kernel
theorem dX7_singer_104 : decode cX7_singer 104 = .ok (.getfield 10, 3) := by decide +kernel
theorem dX7_singer_107 : decode cX7_singer 107 = .ok (.getfield 188, 3) := by decide +kernel
theorem dX7_singer_110 : decode cX7_singer 110 = .ok (.iload_n 1, 1) := by decide +kernel
theorem dX7_singer_111 : decode cX7_singer 111 = .ok (.invokevirtual 104, 3) := by decide +kernel
theorem dX7_singer_114 : decode cX7_singer 114 = .ok (.invokevirtual 194, 3) := by decide +kernel
theorem dX7_singer_117 : decode cX7_singer 117 = .ok (.aload_n 0, 1) := by decide +kernel
theorem dX7_singer_118 : decode cX7_singer 118 = .ok (.iload_n 2, 1) := by decide +kernel
theorem dX7_singer_119 : decode cX7_singer 119 = .ok (.invokevirtual 197, 3) := by decide +kernel
theorem dX7_singer_122 : decode cX7_singer 122 = .ok (.ireturn, 1) := by decide +kernel
set_option maxRecDepth 20000 in
theorem ggX7_does_X4_hasSinger : GoodIn wsX7_does wsX4_hasSinger := goodIn_r _ [9, 10, 86, 87, 88, 89, 90, 91, 92, 93, 94, 95, 96, 97, 98] (by decide +kernel) (by decide +kernel)
set_option maxRecDepth 20000 in
theorem gX7_does_X4_hasSinger : GoodIn wsX7_does (wsV RX7 115 RX4 yX4_hasSinger wsX4_hasSinger) := goodIn_app (goodIn_of _ (by decide +kernel)) ggX7_does_X4_hasSinger
set_option maxRecDepth 20000 in
theorem ggX7_does_X4_hasBeat : GoodIn wsX7_does wsX4_hasBeat := goodIn_r _ [14, 15, 86, 87, 88, 89, 90, 91, 92, 93, 94, 95, 96, 97, 98] (by decide +kernel) (by decide +kernel)
set_option maxRecDepth 20000 in
theorem gX7_does_X4_hasBeat : GoodIn wsX7_does (wsV RX7 80 RX4 yX4_hasBeat wsX4_hasBeat) := goodIn_app (goodIn_of _ (by decide +kernel)) ggX7_does_X4_hasBeat
set_option maxRecDepth 20000 in
theorem ggX7_does_X2_at : GoodIn wsX7_does wsX2_at := goodIn_r _ [20, 21, 103] (by decide +kernel) (by decide +kernel)
set_option maxRecDepth 20000 in
theorem gX7_does_X2_at : GoodIn wsX7_does (wsV RX7 104 RX2 yX2_at wsX2_at) := goodIn_app (goodIn_of _ (by decide +kernel)) ggX7_does_X2_at
set_option maxRecDepth 20000 in
theorem ggX7_does_X6_follow : GoodIn wsX7_does wsX6_follow := goodIn_r _ [26, 27, 28, 29, 30, 31, 32, 33, 34, 35, 36, 37, 38, 17, 18, 19, 20, 21, 39, 40, 41, 8, 42, 43, 44, 45, 46, 47, 48, 49, 50, 51, 52, 53, 54, 55, 56, 57, 58, 59, 60, 61, 62, 63, 64, 65, 66, 67, 68, 69, 70, 71, 72, 73, 74, 75, 76, 77, 78, 86, 87, 88, 89, 90, 91, 92, 93, 94, 95, 96, 97, 98, 99, 100, 101, 102, 103] (by decide +kernel) (by decide +kernel)
set_option maxRecDepth 20000 in
theorem gX7_does_X6_follow : GoodIn wsX7_does (wsV RX7 194 RX6 yX6_follow wsX6_follow) := goodIn_app (goodIn_of _ (by decide +kernel)) ggX7_does_X6_follow
theorem dX7_does_0 : decode cX7_does 0 = .ok (.aload_n 0, 1) := by decide +kernel
theorem dX7_does_1 : decode cX7_does 1 = .ok (.getfield 10, 3) := by decide +kernel
theorem dX7_does_4 : decode cX7_does 4 = .ok (.iload_n 1, 1) := by decide +kernel
theorem dX7_does_5 : decode cX7_does 5 = .ok (.invokevirtual 115, 3) := by decide +kernel
theorem dX7_does_8 : decode cX7_does 8 = .ok (.ifCond .eq 14, 3) := by decide +kernel
theorem dX7_does_11 : decode cX7_does 11 = .ok (.aload_n 0, 1) := by decide +kernel
theorem dX7_does_12 : decode cX7_does 12 = .ok (.getfield 10, 3) := by decide +kernel
theorem dX7_does_15 : decode cX7_does 15 = .ok (.iload_n 2, 1) := by decide +kernel
theorem dX7_does_16 : decode cX7_does 16 = .ok (.invokevirtual 80, 3) := by decide +kernel
theorem dX7_does_19 : decode cX7_does 19 = .ok (.ifCond .ne 5, 3) := by decide +kernel
theorem dX7_does_22 : decode cX7_does 22 = .ok (.iconst (-1), 1) := by decide +kernel
theorem dX7_does_23 : decode cX7_does 23 = .ok (.ireturn, 1) := by decide +kernel
theorem dX7_does_24 : decode cX7_does 24 = .ok (.aload_n 0, 1) := by decide +kernel
theorem dX7_does_25 : decode cX7_does 25 = .ok (.getfield 37, 3) := by decide +kernel
theorem dX7_does_28 : decode cX7_does 28 = .ok (.aload_n 0, 1) := by decide +kernel
theorem dX7_does_29 : decode cX7_does 29 = .ok (.getfield 10, 3) := by decide +kernel
theorem dX7_does_32 : decode cX7_does 32 = .ok (.iload_n 1, 1) := by decide +kernel
theorem dX7_does_33 : decode cX7_does 33 = .ok (.aload_n 0, 1) := by decide +kernel
theorem dX7_does_34 : decode cX7_does 34 = .ok (.getfield 10, 3) := by decide +kernel
theorem dX7_does_37 : decode cX7_does 37 = .ok (.getfield 188, 3) := by decide +kernel
theorem dX7_does_40 : decode cX7_does 40 = .ok (.iload_n 1, 1) := by decide +kernel
theorem dX7_does_41 : decode cX7_does 41 = .ok (.invokevirtual 104, 3) := by decide +kernel
theorem dX7_does_44 : decode cX7_does 44 = .ok (.invokevirtual 194, 3) := by decide +kernel
theorem dX7_does_47 : decode cX7_does 47 = .ok (.aload_n 0, 1) := by decide +kernel
theorem dX7_does_48 : decode cX7_does 48 = .ok (.getfield 37, 3) := by decide +kernel
theorem dX7_does_51 : decode cX7_does 51 = .ok (.getfield 200, 3) := by decide +kernel
theorem dX7_does_54 : decode cX7_does 54 = .ok (.iload_n 2, 1) := by decide +kernel
theorem dX7_does_55 : decode cX7_does 55 = .ok (.invokevirtual 104, 3) := by decide +kernel
theorem dX7_does_58 : decode cX7_does 58 = .ok (.ireturn, 1) := by decide +kernel
set_option maxRecDepth 20000 in
theorem ggX7_left_X4_hasSinger : GoodIn wsX7_left wsX4_hasSinger := goodIn_r _ [9, 10, 86, 87, 88, 89, 90, 91, 92, 93, 94, 95, 96, 97, 98] (by decide +kernel) (by decide +kernel)
set_option maxRecDepth 20000 in
theorem gX7_left_X4_hasSinger : GoodIn wsX7_left (wsV RX7 115 RX4 yX4_hasSinger wsX4_hasSinger) := goodIn_app (goodIn_of _ (by decide +kernel)) ggX7_left_X4_hasSinger
set_option maxRecDepth 20000 in
theorem ggX7_left_X4_hasBeat : GoodIn wsX7_left wsX4_hasBeat := goodIn_r _ [14, 15, 86, 87, 88, 89, 90, 91, 92, 93, 94, 95, 96, 97, 98] (by decide +kernel) (by decide +kernel)
set_option maxRecDepth 20000 in
theorem gX7_left_X4_hasBeat : GoodIn wsX7_left (wsV RX7 80 RX4 yX4_hasBeat wsX4_hasBeat) := goodIn_app (goodIn_of _ (by decide +kernel)) ggX7_left_X4_hasBeat
set_option maxRecDepth 20000 in
theorem ggX7_left_X2_at : GoodIn wsX7_left wsX2_at := goodIn_r _ [20, 21, 103] (by decide +kernel) (by decide +kernel)
set_option maxRecDepth 20000 in
theorem gX7_left_X2_at : GoodIn wsX7_left (wsV RX7 104 RX2 yX2_at wsX2_at) := goodIn_app (goodIn_of _ (by decide +kernel)) ggX7_left_X2_at
set_option maxRecDepth 20000 in
theorem ggX7_left_X6_follow : GoodIn wsX7_left wsX6_follow := goodIn_r _ [26, 27, 28, 29, 30, 31, 32, 33, 34, 35, 36, 37, 38, 17, 18, 19, 20, 21, 39, 40, 41, 8, 42, 43, 44, 45, 46, 47, 48, 49, 50, 51, 52, 53, 54, 55, 56, 57, 58, 59, 60, 61, 62, 63, 64, 65, 66, 67, 68, 69, 70, 71, 72, 73, 74, 75, 76, 77, 78, 86, 87, 88, 89, 90, 91, 92, 93, 94, 95, 96, 97, 98, 99, 100, 101, 102, 103] (by decide +kernel) (by decide +kernel)
set_option maxRecDepth 20000 in
theorem gX7_left_X6_follow : GoodIn wsX7_left (wsV RX7 194 RX6 yX6_follow wsX6_follow) := goodIn_app (goodIn_of _ (by decide +kernel)) ggX7_left_X6_follow
theorem dX7_left_0 : decode cX7_left 0 = .ok (.aload_n 0, 1) := by decide +kernel
theorem dX7_left_1 : decode cX7_left 1 = .ok (.getfield 10, 3) := by decide +kernel
theorem dX7_left_4 : decode cX7_left 4 = .ok (.iload_n 1, 1) := by decide +kernel
theorem dX7_left_5 : decode cX7_left 5 = .ok (.invokevirtual 115, 3) := by decide +kernel
theorem dX7_left_8 : decode cX7_left 8 = .ok (.ifCond .eq 14, 3) := by decide +kernel
theorem dX7_left_11 : decode cX7_left 11 = .ok (.aload_n 0, 1) := by decide +kernel
theorem dX7_left_12 : decode cX7_left 12 = .ok (.getfield 10, 3) := by decide +kernel
theorem dX7_left_15 : decode cX7_left 15 = .ok (.iload_n 2, 1) := by decide +kernel
theorem dX7_left_16 : decode cX7_left 16 = .ok (.invokevirtual 80, 3) := by decide +kernel
theorem dX7_left_19 : decode cX7_left 19 = .ok (.ifCond .ne 5, 3) := by decide +kernel
theorem dX7_left_22 : decode cX7_left 22 = .ok (.iconst (-1), 1) := by decide +kernel
theorem dX7_left_23 : decode cX7_left 23 = .ok (.ireturn, 1) := by decide +kernel
theorem dX7_left_24 : decode cX7_left 24 = .ok (.aload_n 0, 1) := by decide +kernel
theorem dX7_left_25 : decode cX7_left 25 = .ok (.getfield 37, 3) := by decide +kernel
theorem dX7_left_28 : decode cX7_left 28 = .ok (.aload_n 0, 1) := by decide +kernel
theorem dX7_left_29 : decode cX7_left 29 = .ok (.getfield 10, 3) := by decide +kernel
theorem dX7_left_32 : decode cX7_left 32 = .ok (.iload_n 1, 1) := by decide +kernel
theorem dX7_left_33 : decode cX7_left 33 = .ok (.aload_n 0, 1) := by decide +kernel
theorem dX7_left_34 : decode cX7_left 34 = .ok (.getfield 10, 3) := by decide +kernel
theorem dX7_left_37 : decode cX7_left 37 = .ok (.getfield 188, 3) := by decide +kernel
theorem dX7_left_40 : decode cX7_left 40 = .ok (.iload_n 1, 1) := by decide +kernel
theorem dX7_left_41 : decode cX7_left 41 = .ok (.invokevirtual 104, 3) := by decide +kernel
theorem dX7_left_44 : decode cX7_left 44 = .ok (.invokevirtual 194, 3) := by decide +kernel
theorem dX7_left_47 : decode cX7_left 47 = .ok (.aload_n 0, 1) := by decide +kernel
theorem dX7_left_48 : decode cX7_left 48 = .ok (.getfield 37, 3) := by decide +kernel
theorem dX7_left_51 : decode cX7_left 51 = .ok (.getfield 203, 3) := by decide +kernel
theorem dX7_left_54 : decode cX7_left 54 = .ok (.iload_n 2, 1) := by decide +kernel
theorem dX7_left_55 : decode cX7_left 55 = .ok (.invokevirtual 104, 3) := by decide +kernel
theorem dX7_left_58 : decode cX7_left 58 = .ok (.ireturn, 1) := by decide +kernel
set_option maxRecDepth 20000 in
theorem ggX7_solo_X4_hasSolo : GoodIn wsX7_solo wsX4_hasSolo := goodIn_r _ [9, 10, 24, 25, 26, 27, 28, 29, 30, 31, 32, 33, 34, 35, 36] (by decide +kernel) (by decide +kernel)
set_option maxRecDepth 20000 in
theorem gX7_solo_X4_hasSolo : GoodIn wsX7_solo (wsV RX7 141 RX4 yX4_hasSolo wsX4_hasSolo) := goodIn_app (goodIn_of _ (by decide +kernel)) ggX7_solo_X4_hasSolo
set_option maxRecDepth 20000 in
theorem ggX7_solo_X2_at : GoodIn wsX7_solo wsX2_at := goodIn_r _ [15, 16, 37] (by decide +kernel) (by decide +kernel)
set_option maxRecDepth 20000 in
theorem gX7_solo_X2_at : GoodIn wsX7_solo (wsV RX7 104 RX2 yX2_at wsX2_at) := goodIn_app (goodIn_of _ (by decide +kernel)) ggX7_solo_X2_at
theorem dX7_solo_0 : decode cX7_solo 0 = .ok (.aload_n 0, 1) := by decide +kernel
theorem dX7_solo_1 : decode cX7_solo 1 = .ok (.getfield 10, 3) := by decide +kernel
theorem dX7_solo_4 : decode cX7_solo 4 = .ok (.iload_n 1, 1) := by decide +kernel
theorem dX7_solo_5 : decode cX7_solo 5 = .ok (.invokevirtual 141, 3) := by decide +kernel
theorem dX7_solo_8 : decode cX7_solo 8 = .ok (.ifCond .ne 5, 3) := by decide +kernel
theorem dX7_solo_11 : decode cX7_solo 11 = .ok (.iconst (-1), 1) := by decide +kernel
theorem dX7_solo_12 : decode cX7_solo 12 = .ok (.ireturn, 1) := by decide +kernel
theorem dX7_solo_13 : decode cX7_solo 13 = .ok (.iload_n 2, 1) := by decide +kernel
theorem dX7_solo_14 : decode cX7_solo 14 = .ok (.tableswitch 62 0 2 #[26, 38, 50], 26) := by decide +kernel
theorem dX7_solo_40 : decode cX7_solo 40 = .ok (.aload_n 0, 1) := by decide +kernel
theorem dX7_solo_41 : decode cX7_solo 41 = .ok (.getfield 10, 3) := by decide +kernel
theorem dX7_solo_44 : decode cX7_solo 44 = .ok (.getfield 206, 3) := by decide +kernel
theorem dX7_solo_47 : decode cX7_solo 47 = .ok (.iload_n 1, 1) := by decide +kernel
theorem dX7_solo_48 : decode cX7_solo 48 = .ok (.invokevirtual 104, 3) := by decide +kernel
theorem dX7_solo_51 : decode cX7_solo 51 = .ok (.ireturn, 1) := by decide +kernel
theorem dX7_solo_52 : decode cX7_solo 52 = .ok (.aload_n 0, 1) := by decide +kernel
theorem dX7_solo_53 : decode cX7_solo 53 = .ok (.getfield 10, 3) := by decide +kernel
theorem dX7_solo_56 : decode cX7_solo 56 = .ok (.getfield 209, 3) := by decide +kernel
theorem dX7_solo_59 : decode cX7_solo 59 = .ok (.iload_n 1, 1) := by decide +kernel
theorem dX7_solo_60 : decode cX7_solo 60 = .ok (.invokevirtual 104, 3) := by decide +kernel
theorem dX7_solo_63 : decode cX7_solo 63 = .ok (.ireturn, 1) := by decide +kernel
theorem dX7_solo_64 : decode cX7_solo 64 = .ok (.aload_n 0, 1) := by decide +kernel
theorem dX7_solo_65 : decode cX7_solo 65 = .ok (.getfield 10, 3) := by decide +kernel
theorem dX7_solo_68 : decode cX7_solo 68 = .ok (.getfield 212, 3) := by decide +kernel
theorem dX7_solo_71 : decode cX7_solo 71 = .ok (.iload_n 1, 1) := by decide +kernel
theorem dX7_solo_72 : decode cX7_solo 72 = .ok (.invokevirtual 104, 3) := by decide +kernel
theorem dX7_solo_75 : decode cX7_solo 75 = .ok (.ireturn, 1) := by decide +kernel
theorem dX7_solo_76 : decode cX7_solo 76 = .ok (.bipush (-2), 2) := by decide +kernel
theorem dX7_solo_78 : decode cX7_solo 78 = .ok (.ireturn, 1) := by decide +kernel
set_option maxRecDepth 20000 in
theorem ggX7_fault_X7_isWithin : GoodIn wsX7_fault wsX7_isWithin := goodIn_r _ [7] (by decide +kernel) (by decide +kernel)
set_option maxRecDepth 20000 in
theorem gX7_fault_X7_isWithin : GoodIn wsX7_fault (va_wsS RX7 84 yX7_isWithin wsX7_isWithin) := goodIn_app (goodIn_of _ (by decide +kernel)) ggX7_fault_X7_isWithin
set_option maxRecDepth 20000 in
theorem ggX7_fault_X0_follow : GoodIn wsX7_fault wsX0_follow := goodIn_r _ [12, 13, 14, 15, 16, 17, 18, 19, 20, 21, 22, 23, 24, 25, 26, 27, 28, 29, 30, 31, 32, 33, 34, 35, 36, 37, 38, 39, 40, 41, 42, 43, 44, 45, 46, 47, 48, 49, 50, 51, 52, 53, 54, 55, 56, 57, 58, 59, 60, 61, 62, 63, 64, 65, 66, 67, 68, 69, 6, 70, 71, 72, 73, 74, 75, 76, 77, 78, 79, 80, 81, 82, 83, 84, 85, 86, 87, 88, 89, 11, 90, 91, 92, 93, 132, 133, 134, 135, 136, 137, 138, 139, 140, 141, 142, 143, 144, 145, 146, 147, 148, 149, 150, 151, 152] (by decide +kernel) (by decide +kernel)
set_option maxRecDepth 20000 in
theorem gX7_fault_X0_follow : GoodIn wsX7_fault (wsV RX7 181 RX0 yX0_follow wsX0_follow) := goodIn_app (goodIn_of _ (by decide +kernel)) ggX7_fault_X0_follow
set_option maxRecDepth 20000 in
theorem ggX7_fault_X0_tellFault : GoodIn wsX7_fault wsX0_tellFault := goodIn_r _ [97, 18, 98, 99, 100, 11, 101, 13, 15, 14, 102, 59, 60, 50, 61, 62, 63, 27, 28, 23, 29, 25, 26, 103, 104, 105, 106, 107, 72, 73, 74, 75, 76, 77, 108, 109, 110, 111, 58, 112, 113, 114, 115, 116, 117, 118, 119, 120, 121, 69, 6, 70, 122, 123, 124, 135, 136, 137, 138, 139, 140, 141, 142, 143, 144, 145, 146, 147, 132, 133, 134, 152] (by decide +kernel) (by decide +kernel)
set_option maxRecDepth 20000 in
theorem gX7_fault_X0_tellFault : GoodIn wsX7_fault (wsV RX7 215 RX0 yX0_tellFault wsX0_tellFault) := goodIn_app (goodIn_of _ (by decide +kernel)) ggX7_fault_X0_tellFault
theorem dX7_fault_0 : decode cX7_fault 0 = .ok (.iload_n 1, 1) := by decide +kernel
theorem dX7_fault_1 : decode cX7_fault 1 = .ok (.ifCond .lt 12, 3) := by decide +kernel
theorem dX7_fault_4 : decode cX7_fault 4 = .ok (.iload_n 2, 1) := by decide +kernel
theorem dX7_fault_5 : decode cX7_fault 5 = .ok (.iconst 0, 1) := by decide +kernel
theorem dX7_fault_6 : decode cX7_fault 6 = .ok (.iconst 2, 1) := by decide +kernel
theorem dX7_fault_7 : decode cX7_fault 7 = .ok (.invokestatic 84, 3) := by decide +kernel
theorem dX7_fault_10 : decode cX7_fault 10 = .ok (.ifCond .ne 6, 3) := by decide +kernel
theorem dX7_fault_13 : decode cX7_fault 13 = .ok (.bipush (-2), 2) := by decide +kernel
theorem dX7_fault_15 : decode cX7_fault 15 = .ok (.ireturn, 1) := by decide +kernel
theorem dX7_fault_16 : decode cX7_fault 16 = .ok (.aload_n 0, 1) := by decide +kernel
theorem dX7_fault_17 : decode cX7_fault 17 = .ok (.getfield 44, 3) := by decide +kernel
theorem dX7_fault_20 : decode cX7_fault 20 = .ok (.aload_n 0, 1) := by decide +kernel
theorem dX7_fault_21 : decode cX7_fault 21 = .ok (.getfield 10, 3) := by decide +kernel
theorem dX7_fault_24 : decode cX7_fault 24 = .ok (.aload_n 0, 1) := by decide +kernel
theorem dX7_fault_25 : decode cX7_fault 25 = .ok (.getfield 37, 3) := by decide +kernel
theorem dX7_fault_28 : decode cX7_fault 28 = .ok (.invokevirtual 181, 3) := by decide +kernel
theorem dX7_fault_31 : decode cX7_fault 31 = .ok (.aload_n 0, 1) := by decide +kernel
theorem dX7_fault_32 : decode cX7_fault 32 = .ok (.getfield 44, 3) := by decide +kernel
theorem dX7_fault_35 : decode cX7_fault 35 = .ok (.aload_n 0, 1) := by decide +kernel
theorem dX7_fault_36 : decode cX7_fault 36 = .ok (.getfield 10, 3) := by decide +kernel
theorem dX7_fault_39 : decode cX7_fault 39 = .ok (.iload_n 1, 1) := by decide +kernel
theorem dX7_fault_40 : decode cX7_fault 40 = .ok (.iload_n 2, 1) := by decide +kernel
theorem dX7_fault_41 : decode cX7_fault 41 = .ok (.invokevirtual 215, 3) := by decide +kernel
theorem dX7_fault_44 : decode cX7_fault 44 = .ok (.ireturn, 1) := by decide +kernel
set_option maxRecDepth 20000 in
theorem ggX7_silentWithout_X4_hasSinger : GoodIn wsX7_silentWithout wsX4_hasSinger := goodIn_r _ [8, 9, 108, 109, 110, 111, 112, 113, 114, 115, 116, 117, 118, 119, 120] (by decide +kernel) (by decide +kernel)
set_option maxRecDepth 20000 in
theorem gX7_silentWithout_X4_hasSinger : GoodIn wsX7_silentWithout (wsV RX7 115 RX4 yX4_hasSinger wsX4_hasSinger) := goodIn_app (goodIn_of _ (by decide +kernel)) ggX7_silentWithout_X4_hasSinger
set_option maxRecDepth 20000 in
theorem ggX7_silentWithout_X0_follow : GoodIn wsX7_silentWithout wsX0_follow := goodIn_r _ [14, 15, 16, 17, 18, 19, 20, 21, 22, 23, 24, 25, 26, 27, 28, 29, 30, 31, 32, 33, 34, 35, 36, 37, 38, 39, 40, 41, 42, 43, 44, 45, 46, 47, 48, 49, 50, 51, 7, 52, 53, 54, 55, 56, 57, 58, 59, 60, 61, 62, 63, 64, 65, 66, 67, 68, 69, 70, 71, 72, 73, 74, 75, 76, 77, 78, 79, 80, 81, 82, 83, 84, 85, 86, 87, 88, 89, 90, 91, 13, 92, 93, 94, 95, 121, 122, 123, 108, 109, 110, 111, 112, 113, 114, 115, 116, 117, 118, 119, 120, 124, 125, 126, 127, 128] (by decide +kernel) (by decide +kernel)
set_option maxRecDepth 20000 in
theorem gX7_silentWithout_X0_follow : GoodIn wsX7_silentWithout (wsV RX7 181 RX0 yX0_follow wsX0_follow) := goodIn_app (goodIn_of _ (by decide +kernel)) ggX7_silentWithout_X0_follow
set_option maxRecDepth 20000 in
theorem ggX7_silentWithout_X0_countSilentWithout : GoodIn wsX7_silentWithout wsX0_countSilentWithout := goodIn_r _ [99, 20, 15, 100, 60, 61, 7, 62, 63, 64, 29, 30, 25, 31, 27, 28, 93, 71, 94, 108, 109, 110, 111, 112, 113, 114, 115, 116, 117, 118, 119, 120, 121, 122, 123, 128] (by decide +kernel) (by decide +kernel)
set_option maxRecDepth 20000 in
theorem gX7_silentWithout_X0_countSilentWithout : GoodIn wsX7_silentWithout (wsV RX7 219 RX0 yX0_countSilentWithout wsX0_countSilentWithout) := goodIn_app (goodIn_of _ (by decide +kernel)) ggX7_silentWithout_X0_countSilentWithout
theorem dX7_silentWithout_0 : decode cX7_silentWithout 0 = .ok (.aload_n 0, 1) := by decide +kernel
theorem dX7_silentWithout_1 : decode cX7_silentWithout 1 = .ok (.getfield 10, 3) := by decide +kernel
theorem dX7_silentWithout_4 : decode cX7_silentWithout 4 = .ok (.iload_n 1, 1) := by decide +kernel
theorem dX7_silentWithout_5 : decode cX7_silentWithout 5 = .ok (.invokevirtual 115, 3) := by decide +kernel
theorem dX7_silentWithout_8 : decode cX7_silentWithout 8 = .ok (.ifCond .ne 5, 3) := by decide +kernel
theorem dX7_silentWithout_11 : decode cX7_silentWithout 11 = .ok (.iconst (-1), 1) := by decide +kernel
theorem dX7_silentWithout_12 : decode cX7_silentWithout 12 = .ok (.ireturn, 1) := by decide +kernel
theorem dX7_silentWithout_13 : decode cX7_silentWithout 13 = .ok (.aload_n 0, 1) := by decide +kernel
theorem dX7_silentWithout_14 : decode cX7_silentWithout 14 = .ok (.getfield 44, 3) := by decide +kernel
theorem dX7_silentWithout_17 : decode cX7_silentWithout 17 = .ok (.aload_n 0, 1) := by decide +kernel
theorem dX7_silentWithout_18 : decode cX7_silentWithout 18 = .ok (.getfield 10, 3) := by decide +kernel
theorem dX7_silentWithout_21 : decode cX7_silentWithout 21 = .ok (.aload_n 0, 1) := by decide +kernel
theorem dX7_silentWithout_22 : decode cX7_silentWithout 22 = .ok (.getfield 37, 3) := by decide +kernel
theorem dX7_silentWithout_25 : decode cX7_silentWithout 25 = .ok (.invokevirtual 181, 3) := by decide +kernel
theorem dX7_silentWithout_28 : decode cX7_silentWithout 28 = .ok (.aload_n 0, 1) := by decide +kernel
theorem dX7_silentWithout_29 : decode cX7_silentWithout 29 = .ok (.getfield 44, 3) := by decide +kernel
theorem dX7_silentWithout_32 : decode cX7_silentWithout 32 = .ok (.aload_n 0, 1) := by decide +kernel
theorem dX7_silentWithout_33 : decode cX7_silentWithout 33 = .ok (.getfield 10, 3) := by decide +kernel
theorem dX7_silentWithout_36 : decode cX7_silentWithout 36 = .ok (.iload_n 1, 1) := by decide +kernel
theorem dX7_silentWithout_37 : decode cX7_silentWithout 37 = .ok (.invokevirtual 219, 3) := by decide +kernel
theorem dX7_silentWithout_40 : decode cX7_silentWithout 40 = .ok (.ireturn, 1) := by decide +kernel
set_option maxRecDepth 20000 in
theorem ggX7_breathFor_X4_hasSinger : GoodIn wsX7_breathFor wsX4_hasSinger := goodIn_r _ [7, 8, 82, 83, 84, 85, 86, 87, 88, 89, 90, 91, 92, 93, 94] (by decide +kernel) (by decide +kernel)
set_option maxRecDepth 20000 in
theorem gX7_breathFor_X4_hasSinger : GoodIn wsX7_breathFor (wsV RX7 115 RX4 yX4_hasSinger wsX4_hasSinger) := goodIn_app (goodIn_of _ (by decide +kernel)) ggX7_breathFor_X4_hasSinger
set_option maxRecDepth 20000 in
theorem ggX7_breathFor_X6_follow : GoodIn wsX7_breathFor wsX6_follow := goodIn_r _ [13, 14, 15, 16, 17, 18, 19, 20, 21, 22, 23, 24, 25, 26, 27, 28, 29, 30, 31, 32, 33, 6, 34, 35, 36, 37, 38, 39, 40, 41, 42, 43, 44, 45, 46, 47, 48, 49, 50, 51, 52, 53, 54, 55, 56, 57, 58, 59, 60, 61, 62, 63, 64, 65, 66, 67, 68, 69, 70, 82, 83, 84, 85, 86, 87, 88, 89, 90, 91, 92, 93, 94, 95, 96, 97, 98, 99] (by decide +kernel) (by decide +kernel)
set_option maxRecDepth 20000 in
theorem gX7_breathFor_X6_follow : GoodIn wsX7_breathFor (wsV RX7 194 RX6 yX6_follow wsX6_follow) := goodIn_app (goodIn_of _ (by decide +kernel)) ggX7_breathFor_X6_follow
set_option maxRecDepth 20000 in
theorem ggX7_breathFor_X6_countDoing : GoodIn wsX7_breathFor wsX6_countDoing := goodIn_r _ [74, 15, 23, 25, 26, 27, 28, 29, 30, 95, 96, 97, 98, 99] (by decide +kernel) (by decide +kernel)
set_option maxRecDepth 20000 in
theorem gX7_breathFor_X6_countDoing : GoodIn wsX7_breathFor (wsV RX7 223 RX6 yX6_countDoing wsX6_countDoing) := goodIn_app (goodIn_of _ (by decide +kernel)) ggX7_breathFor_X6_countDoing
theorem dX7_breathFor_0 : decode cX7_breathFor 0 = .ok (.aload_n 0, 1) := by decide +kernel
theorem dX7_breathFor_1 : decode cX7_breathFor 1 = .ok (.getfield 10, 3) := by decide +kernel
theorem dX7_breathFor_4 : decode cX7_breathFor 4 = .ok (.iload_n 1, 1) := by decide +kernel
theorem dX7_breathFor_5 : decode cX7_breathFor 5 = .ok (.invokevirtual 115, 3) := by decide +kernel
theorem dX7_breathFor_8 : decode cX7_breathFor 8 = .ok (.ifCond .ne 5, 3) := by decide +kernel
theorem dX7_breathFor_11 : decode cX7_breathFor 11 = .ok (.iconst (-1), 1) := by decide +kernel
theorem dX7_breathFor_12 : decode cX7_breathFor 12 = .ok (.ireturn, 1) := by decide +kernel
theorem dX7_breathFor_13 : decode cX7_breathFor 13 = .ok (.iconst 4, 1) := by decide +kernel
theorem dX7_breathFor_14 : decode cX7_breathFor 14 = .ok (.istore_n 2, 1) := by decide +kernel
theorem dX7_breathFor_15 : decode cX7_breathFor 15 = .ok (.iload_n 2, 1) := by decide +kernel
theorem dX7_breathFor_16 : decode cX7_breathFor 16 = .ok (.bipush 40, 2) := by decide +kernel
theorem dX7_breathFor_18 : decode cX7_breathFor 18 = .ok (.if_icmp .gt 35, 3) := by decide +kernel
theorem dX7_breathFor_21 : decode cX7_breathFor 21 = .ok (.aload_n 0, 1) := by decide +kernel
theorem dX7_breathFor_22 : decode cX7_breathFor 22 = .ok (.getfield 37, 3) := by decide +kernel
theorem dX7_breathFor_25 : decode cX7_breathFor 25 = .ok (.aload_n 0, 1) := by decide +kernel
theorem dX7_breathFor_26 : decode cX7_breathFor 26 = .ok (.getfield 10, 3) := by decide +kernel
theorem dX7_breathFor_29 : decode cX7_breathFor 29 = .ok (.iload_n 1, 1) := by decide +kernel
theorem dX7_breathFor_30 : decode cX7_breathFor 30 = .ok (.iload_n 2, 1) := by decide +kernel
theorem dX7_breathFor_31 : decode cX7_breathFor 31 = .ok (.invokevirtual 194, 3) := by decide +kernel
theorem dX7_breathFor_34 : decode cX7_breathFor 34 = .ok (.aload_n 0, 1) := by decide +kernel
theorem dX7_breathFor_35 : decode cX7_breathFor 35 = .ok (.getfield 37, 3) := by decide +kernel
theorem dX7_breathFor_38 : decode cX7_breathFor 38 = .ok (.iconst 2, 1) := by decide +kernel
theorem dX7_breathFor_39 : decode cX7_breathFor 39 = .ok (.invokevirtual 223, 3) := by decide +kernel
theorem dX7_breathFor_42 : decode cX7_breathFor 42 = .ok (.ifCond .ne 5, 3) := by decide +kernel
theorem dX7_breathFor_45 : decode cX7_breathFor 45 = .ok (.iload_n 2, 1) := by decide +kernel
theorem dX7_breathFor_46 : decode cX7_breathFor 46 = .ok (.ireturn, 1) := by decide +kernel
theorem dX7_breathFor_47 : decode cX7_breathFor 47 = .ok (.iinc 2 1, 3) := by decide +kernel
theorem dX7_breathFor_50 : decode cX7_breathFor 50 = .ok (.goto (-35), 3) := by decide +kernel
theorem dX7_breathFor_53 : decode cX7_breathFor 53 = .ok (.bipush (-5), 2) := by decide +kernel
theorem dX7_breathFor_55 : decode cX7_breathFor 55 = .ok (.ireturn, 1) := by decide +kernel
set_option maxRecDepth 20000 in
theorem ggX7_count_X4_countRests : GoodIn wsX7_count wsX4_countRests := goodIn_r _ [16, 17, 18, 19, 20, 15, 21, 22, 23, 24, 25, 26, 27, 28, 157, 158, 159, 160, 161, 162, 163, 164, 165, 166, 167, 168, 169, 178] (by decide +kernel) (by decide +kernel)
set_option maxRecDepth 20000 in
theorem gX7_count_X4_countRests : GoodIn wsX7_count (wsV RX7 226 RX4 yX4_countRests wsX4_countRests) := goodIn_app (goodIn_of _ (by decide +kernel)) ggX7_count_X4_countRests
set_option maxRecDepth 20000 in
theorem ggX7_count_X4_countSyllables : GoodIn wsX7_count wsX4_countSyllables := goodIn_r _ [32, 17, 33, 34, 35, 15, 36, 22, 18, 19, 20, 21, 23, 24, 25, 26, 27, 28, 157, 158, 159, 160, 161, 162, 163, 164, 165, 166, 167, 168, 169, 178] (by decide +kernel) (by decide +kernel)
set_option maxRecDepth 20000 in
theorem gX7_count_X4_countSyllables : GoodIn wsX7_count (wsV RX7 229 RX4 yX4_countSyllables wsX4_countSyllables) := goodIn_app (goodIn_of _ (by decide +kernel)) ggX7_count_X4_countSyllables
set_option maxRecDepth 20000 in
theorem ggX7_count_X4_countPresent : GoodIn wsX7_count wsX4_countPresent := goodIn_r _ [40, 41, 42, 43, 44, 45, 46, 47, 48, 157, 158, 159, 160, 161, 162, 163, 164, 165, 166, 167, 168, 169] (by decide +kernel) (by decide +kernel)
set_option maxRecDepth 20000 in
theorem gX7_count_X4_countPresent : GoodIn wsX7_count (wsV RX7 127 RX4 yX4_countPresent wsX4_countPresent) := goodIn_app (goodIn_of _ (by decide +kernel)) ggX7_count_X4_countPresent
set_option maxRecDepth 20000 in
theorem ggX7_count_X4_countMarks : GoodIn wsX7_count wsX4_countMarks := goodIn_r _ [52, 17, 53, 23, 24, 25, 26, 27, 28, 42, 43, 44, 45, 46, 47, 48, 157, 158, 159, 160, 161, 162, 163, 164, 165, 166, 167, 168, 169, 178] (by decide +kernel) (by decide +kernel)
set_option maxRecDepth 20000 in
theorem gX7_count_X4_countMarks : GoodIn wsX7_count (wsV RX7 163 RX4 yX4_countMarks wsX4_countMarks) := goodIn_app (goodIn_of _ (by decide +kernel)) ggX7_count_X4_countMarks
set_option maxRecDepth 20000 in
theorem ggX7_count_X0_follow : GoodIn wsX7_count wsX0_follow := goodIn_r _ [58, 59, 60, 61, 62, 63, 64, 65, 66, 67, 68, 26, 69, 28, 70, 24, 25, 27, 71, 72, 73, 74, 75, 76, 77, 78, 79, 80, 81, 82, 83, 84, 85, 86, 87, 88, 89, 90, 15, 91, 92, 93, 94, 95, 96, 97, 18, 19, 20, 21, 22, 23, 98, 99, 100, 101, 41, 102, 103, 104, 105, 106, 107, 108, 109, 110, 111, 112, 113, 114, 115, 53, 116, 117, 118, 119, 120, 121, 122, 57, 123, 124, 125, 126, 179, 180, 181, 157, 158, 159, 160, 161, 162, 163, 164, 165, 166, 167, 168, 169, 182, 183, 184, 185, 178] (by decide +kernel) (by decide +kernel)
set_option maxRecDepth 20000 in
theorem gX7_count_X0_follow : GoodIn wsX7_count (wsV RX7 181 RX0 yX0_follow wsX0_follow) := goodIn_app (goodIn_of _ (by decide +kernel)) ggX7_count_X0_follow
set_option maxRecDepth 20000 in
theorem ggX7_count_X0_countFaults : GoodIn wsX7_count wsX0_countFaults := goodIn_r _ [130, 64, 131, 132, 133, 57, 134, 59, 61, 60, 135, 19, 20, 15, 21, 22, 23, 24, 25, 26, 27, 28, 70, 136, 137, 138, 139, 140, 106, 107, 108, 109, 110, 111, 141, 34, 35, 36, 18, 142, 43, 44, 45, 46, 47, 48, 157, 158, 159, 160, 161, 162, 163, 164, 165, 166, 167, 168, 169, 179, 180, 181, 178] (by decide +kernel) (by decide +kernel)
set_option maxRecDepth 20000 in
theorem gX7_count_X0_countFaults : GoodIn wsX7_count (wsV RX7 232 RX0 yX0_countFaults wsX0_countFaults) := goodIn_app (goodIn_of _ (by decide +kernel)) ggX7_count_X0_countFaults
set_option maxRecDepth 20000 in
theorem ggX7_count_X4_longestSyllable : GoodIn wsX7_count wsX4_longestSyllable := goodIn_r _ [146, 17, 147, 148, 83, 149, 18, 19, 20, 15, 21, 22, 23, 24, 25, 26, 27, 28, 33, 34, 35, 36, 157, 158, 159, 160, 161, 162, 163, 164, 165, 166, 167, 168, 169, 178] (by decide +kernel) (by decide +kernel)
set_option maxRecDepth 20000 in
theorem gX7_count_X4_longestSyllable : GoodIn wsX7_count (wsV RX7 235 RX4 yX4_longestSyllable wsX4_longestSyllable) := goodIn_app (goodIn_of _ (by decide +kernel)) ggX7_count_X4_longestSyllable
theorem dX7_count_0 : decode cX7_count 0 = .ok (.iload_n 1, 1) := by decide +kernel
theorem dX7_count_1 : decode cX7_count 1 = .ok (.tableswitch 231 0 15 #[79, 87, 95, 103, 111, 119, 127, 135, 164, 164, 164, 164, 199, 207, 215, 223], 79) := by decide +kernel
theorem dX7_count_80 : decode cX7_count 80 = .ok (.aload_n 0, 1) := by decide +kernel
theorem dX7_count_81 : decode cX7_count 81 = .ok (.getfield 10, 3) := by decide +kernel
theorem dX7_count_84 : decode cX7_count 84 = .ok (.getfield 77, 3) := by decide +kernel
theorem dX7_count_87 : decode cX7_count 87 = .ok (.ireturn, 1) := by decide +kernel
theorem dX7_count_88 : decode cX7_count 88 = .ok (.aload_n 0, 1) := by decide +kernel
theorem dX7_count_89 : decode cX7_count 89 = .ok (.getfield 10, 3) := by decide +kernel
theorem dX7_count_92 : decode cX7_count 92 = .ok (.invokevirtual 226, 3) := by decide +kernel
theorem dX7_count_95 : decode cX7_count 95 = .ok (.ireturn, 1) := by decide +kernel
theorem dX7_count_96 : decode cX7_count 96 = .ok (.aload_n 0, 1) := by decide +kernel
theorem dX7_count_97 : decode cX7_count 97 = .ok (.getfield 10, 3) := by decide +kernel
theorem dX7_count_100 : decode cX7_count 100 = .ok (.invokevirtual 229, 3) := by decide +kernel
theorem dX7_count_103 : decode cX7_count 103 = .ok (.ireturn, 1) := by decide +kernel
theorem dX7_count_104 : decode cX7_count 104 = .ok (.aload_n 0, 1) := by decide +kernel
theorem dX7_count_105 : decode cX7_count 105 = .ok (.getfield 10, 3) := by decide +kernel
theorem dX7_count_108 : decode cX7_count 108 = .ok (.getfield 108, 3) := by decide +kernel
theorem dX7_count_111 : decode cX7_count 111 = .ok (.ireturn, 1) := by decide +kernel
theorem dX7_count_112 : decode cX7_count 112 = .ok (.aload_n 0, 1) := by decide +kernel
theorem dX7_count_113 : decode cX7_count 113 = .ok (.getfield 10, 3) := by decide +kernel
theorem dX7_count_116 : decode cX7_count 116 = .ok (.invokevirtual 127, 3) := by decide +kernel
theorem dX7_count_119 : decode cX7_count 119 = .ok (.ireturn, 1) := by decide +kernel
theorem dX7_count_120 : decode cX7_count 120 = .ok (.aload_n 0, 1) := by decide +kernel
theorem dX7_count_121 : decode cX7_count 121 = .ok (.getfield 10, 3) := by decide +kernel
theorem dX7_count_124 : decode cX7_count 124 = .ok (.getfield 134, 3) := by decide +kernel
theorem dX7_count_127 : decode cX7_count 127 = .ok (.ireturn, 1) := by decide +kernel
theorem dX7_count_128 : decode cX7_count 128 = .ok (.aload_n 0, 1) := by decide +kernel
theorem dX7_count_129 : decode cX7_count 129 = .ok (.getfield 10, 3) := by decide +kernel
theorem dX7_count_132 : decode cX7_count 132 = .ok (.invokevirtual 163, 3) := by decide +kernel
theorem dX7_count_135 : decode cX7_count 135 = .ok (.ireturn, 1) := by decide +kernel
theorem dX7_count_136 : decode cX7_count 136 = .ok (.aload_n 0, 1) := by decide +kernel
theorem dX7_count_137 : decode cX7_count 137 = .ok (.getfield 44, 3) := by decide +kernel
theorem dX7_count_140 : decode cX7_count 140 = .ok (.aload_n 0, 1) := by decide +kernel
theorem dX7_count_141 : decode cX7_count 141 = .ok (.getfield 10, 3) := by decide +kernel
theorem dX7_count_144 : decode cX7_count 144 = .ok (.aload_n 0, 1) := by decide +kernel
theorem dX7_count_145 : decode cX7_count 145 = .ok (.getfield 37, 3) := by decide +kernel
theorem dX7_count_148 : decode cX7_count 148 = .ok (.invokevirtual 181, 3) := by decide +kernel
theorem dX7_count_151 : decode cX7_count 151 = .ok (.aload_n 0, 1) := by decide +kernel
theorem dX7_count_152 : decode cX7_count 152 = .ok (.getfield 44, 3) := by decide +kernel
theorem dX7_count_155 : decode cX7_count 155 = .ok (.aload_n 0, 1) := by decide +kernel
theorem dX7_count_156 : decode cX7_count 156 = .ok (.getfield 10, 3) := by decide +kernel
theorem dX7_count_159 : decode cX7_count 159 = .ok (.iconst 0, 1) := by decide +kernel
theorem dX7_count_160 : decode cX7_count 160 = .ok (.iconst 3, 1) := by decide +kernel
theorem dX7_count_161 : decode cX7_count 161 = .ok (.invokevirtual 232, 3) := by decide +kernel
theorem dX7_count_164 : decode cX7_count 164 = .ok (.ireturn, 1) := by decide +kernel
theorem dX7_count_165 : decode cX7_count 165 = .ok (.aload_n 0, 1) := by decide +kernel
theorem dX7_count_166 : decode cX7_count 166 = .ok (.getfield 44, 3) := by decide +kernel
theorem dX7_count_169 : decode cX7_count 169 = .ok (.aload_n 0, 1) := by decide +kernel
theorem dX7_count_170 : decode cX7_count 170 = .ok (.getfield 10, 3) := by decide +kernel
theorem dX7_count_173 : decode cX7_count 173 = .ok (.aload_n 0, 1) := by decide +kernel
theorem dX7_count_174 : decode cX7_count 174 = .ok (.getfield 37, 3) := by decide +kernel
theorem dX7_count_177 : decode cX7_count 177 = .ok (.invokevirtual 181, 3) := by decide +kernel
theorem dX7_count_180 : decode cX7_count 180 = .ok (.aload_n 0, 1) := by decide +kernel
theorem dX7_count_181 : decode cX7_count 181 = .ok (.getfield 44, 3) := by decide +kernel
theorem dX7_count_184 : decode cX7_count 184 = .ok (.aload_n 0, 1) := by decide +kernel
theorem dX7_count_185 : decode cX7_count 185 = .ok (.getfield 10, 3) := by decide +kernel
theorem dX7_count_188 : decode cX7_count 188 = .ok (.iload_n 1, 1) := by decide +kernel
theorem dX7_count_189 : decode cX7_count 189 = .ok (.bipush 8, 2) := by decide +kernel
theorem dX7_count_191 : decode cX7_count 191 = .ok (.isub, 1) := by decide +kernel
theorem dX7_count_192 : decode cX7_count 192 = .ok (.iload_n 1, 1) := by decide +kernel
theorem dX7_count_193 : decode cX7_count 193 = .ok (.bipush 8, 2) := by decide +kernel
theorem dX7_count_195 : decode cX7_count 195 = .ok (.isub, 1) := by decide +kernel
theorem dX7_count_196 : decode cX7_count 196 = .ok (.invokevirtual 232, 3) := by decide +kernel
theorem dX7_count_199 : decode cX7_count 199 = .ok (.ireturn, 1) := by decide +kernel
theorem dX7_count_200 : decode cX7_count 200 = .ok (.aload_n 0, 1) := by decide +kernel
theorem dX7_count_201 : decode cX7_count 201 = .ok (.getfield 10, 3) := by decide +kernel
theorem dX7_count_204 : decode cX7_count 204 = .ok (.getfield 157, 3) := by decide +kernel
theorem dX7_count_207 : decode cX7_count 207 = .ok (.ireturn, 1) := by decide +kernel
theorem dX7_count_208 : decode cX7_count 208 = .ok (.aload_n 0, 1) := by decide +kernel
theorem dX7_count_209 : decode cX7_count 209 = .ok (.getfield 10, 3) := by decide +kernel
theorem dX7_count_212 : decode cX7_count 212 = .ok (.invokevirtual 235, 3) := by decide +kernel
theorem dX7_count_215 : decode cX7_count 215 = .ok (.ireturn, 1) := by decide +kernel
theorem dX7_count_216 : decode cX7_count 216 = .ok (.aload_n 0, 1) := by decide +kernel
theorem dX7_count_217 : decode cX7_count 217 = .ok (.getfield 26, 3) := by decide +kernel
theorem dX7_count_220 : decode cX7_count 220 = .ok (.getfield 166, 3) := by decide +kernel
theorem dX7_count_223 : decode cX7_count 223 = .ok (.ireturn, 1) := by decide +kernel
theorem dX7_count_224 : decode cX7_count 224 = .ok (.aload_n 0, 1) := by decide +kernel
theorem dX7_count_225 : decode cX7_count 225 = .ok (.getfield 19, 3) := by decide +kernel
theorem dX7_count_228 : decode cX7_count 228 = .ok (.getfield 59, 3) := by decide +kernel
theorem dX7_count_231 : decode cX7_count 231 = .ok (.ireturn, 1) := by decide +kernel
theorem dX7_count_232 : decode cX7_count 232 = .ok (.bipush (-2), 2) := by decide +kernel
theorem dX7_count_234 : decode cX7_count 234 = .ok (.ireturn, 1) := by decide +kernel
set_option maxRecDepth 20000 in
theorem ggX7_performed_X2_at : GoodIn wsX7_performed wsX2_at := goodIn_r _ [11, 12, 43] (by decide +kernel) (by decide +kernel)
set_option maxRecDepth 20000 in
theorem gX7_performed_X2_at : GoodIn wsX7_performed (wsV RX7 104 RX2 yX2_at wsX2_at) := goodIn_app (goodIn_of _ (by decide +kernel)) ggX7_performed_X2_at
set_option maxRecDepth 20000 in
theorem ggX7_performed_J6_bitCount_0f7a4 : GoodIn wsX7_performed wsJ6_bitCount_0f7a4 := goodIn_r _ [16, 17, 18, 19] (by decide +kernel) (by decide +kernel)
set_option maxRecDepth 20000 in
theorem gX7_performed_J6_bitCount_0f7a4 : GoodIn wsX7_performed (va_wsS RX7 241 yJ6_bitCount_0f7a4 wsJ6_bitCount_0f7a4) := goodIn_app (goodIn_of _ (by decide +kernel)) ggX7_performed_J6_bitCount_0f7a4
theorem dX7_performed_0 : decode cX7_performed 0 = .ok (.aload_n 0, 1) := by decide +kernel
theorem dX7_performed_1 : decode cX7_performed 1 = .ok (.getfield 44, 3) := by decide +kernel
theorem dX7_performed_4 : decode cX7_performed 4 = .ok (.getfield 238, 3) := by decide +kernel
theorem dX7_performed_7 : decode cX7_performed 7 = .ok (.iload_n 1, 1) := by decide +kernel
theorem dX7_performed_8 : decode cX7_performed 8 = .ok (.invokevirtual 104, 3) := by decide +kernel
theorem dX7_performed_11 : decode cX7_performed 11 = .ok (.invokestatic 241, 3) := by decide +kernel
theorem dX7_performed_14 : decode cX7_performed 14 = .ok (.istore_n 3, 1) := by decide +kernel
theorem dX7_performed_15 : decode cX7_performed 15 = .ok (.iload_n 2, 1) := by decide +kernel
theorem dX7_performed_16 : decode cX7_performed 16 = .ok (.tableswitch 82 3 7 #[36, 82, 38, 53, 68], 36) := by decide +kernel
theorem dX7_performed_52 : decode cX7_performed 52 = .ok (.iload_n 3, 1) := by decide +kernel
theorem dX7_performed_53 : decode cX7_performed 53 = .ok (.ireturn, 1) := by decide +kernel
theorem dX7_performed_54 : decode cX7_performed 54 = .ok (.aload_n 0, 1) := by decide +kernel
theorem dX7_performed_55 : decode cX7_performed 55 = .ok (.getfield 44, 3) := by decide +kernel
theorem dX7_performed_58 : decode cX7_performed 58 = .ok (.getfield 246, 3) := by decide +kernel
theorem dX7_performed_61 : decode cX7_performed 61 = .ok (.iload_n 1, 1) := by decide +kernel
theorem dX7_performed_62 : decode cX7_performed 62 = .ok (.invokevirtual 104, 3) := by decide +kernel
theorem dX7_performed_65 : decode cX7_performed 65 = .ok (.invokestatic 241, 3) := by decide +kernel
theorem dX7_performed_68 : decode cX7_performed 68 = .ok (.ireturn, 1) := by decide +kernel
theorem dX7_performed_69 : decode cX7_performed 69 = .ok (.aload_n 0, 1) := by decide +kernel
theorem dX7_performed_70 : decode cX7_performed 70 = .ok (.getfield 44, 3) := by decide +kernel
theorem dX7_performed_73 : decode cX7_performed 73 = .ok (.getfield 249, 3) := by decide +kernel
theorem dX7_performed_76 : decode cX7_performed 76 = .ok (.iload_n 1, 1) := by decide +kernel
theorem dX7_performed_77 : decode cX7_performed 77 = .ok (.invokevirtual 104, 3) := by decide +kernel
theorem dX7_performed_80 : decode cX7_performed 80 = .ok (.invokestatic 241, 3) := by decide +kernel
theorem dX7_performed_83 : decode cX7_performed 83 = .ok (.ireturn, 1) := by decide +kernel
theorem dX7_performed_84 : decode cX7_performed 84 = .ok (.iload_n 3, 1) := by decide +kernel
theorem dX7_performed_85 : decode cX7_performed 85 = .ok (.aload_n 0, 1) := by decide +kernel
theorem dX7_performed_86 : decode cX7_performed 86 = .ok (.getfield 10, 3) := by decide +kernel
theorem dX7_performed_89 : decode cX7_performed 89 = .ok (.getfield 88, 3) := by decide +kernel
theorem dX7_performed_92 : decode cX7_performed 92 = .ok (.iload_n 1, 1) := by decide +kernel
theorem dX7_performed_93 : decode cX7_performed 93 = .ok (.invokevirtual 104, 3) := by decide +kernel
theorem dX7_performed_96 : decode cX7_performed 96 = .ok (.imul, 1) := by decide +kernel
theorem dX7_performed_97 : decode cX7_performed 97 = .ok (.ireturn, 1) := by decide +kernel
theorem dX7_performed_98 : decode cX7_performed 98 = .ok (.bipush (-2), 2) := by decide +kernel
theorem dX7_performed_100 : decode cX7_performed 100 = .ok (.ireturn, 1) := by decide +kernel
set_option maxRecDepth 20000 in
theorem ggX7_performedBy_X6_countDoing : GoodIn wsX7_performedBy wsX6_countDoing := goodIn_r _ [6, 7, 8, 9, 10, 11, 12, 13, 14, 39, 40, 41, 42, 43] (by decide +kernel) (by decide +kernel)
set_option maxRecDepth 20000 in
theorem gX7_performedBy_X6_countDoing : GoodIn wsX7_performedBy (wsV RX7 223 RX6 yX6_countDoing wsX6_countDoing) := goodIn_app (goodIn_of _ (by decide +kernel)) ggX7_performedBy_X6_countDoing
set_option maxRecDepth 20000 in
theorem ggX7_performedBy_X6_leastLeft : GoodIn wsX7_performedBy wsX6_leastLeft := goodIn_r _ [18, 19, 7, 20, 21, 22, 23, 24, 9, 10, 11, 12, 13, 14, 39, 40, 41, 42, 43] (by decide +kernel) (by decide +kernel)
set_option maxRecDepth 20000 in
theorem gX7_performedBy_X6_leastLeft : GoodIn wsX7_performedBy (wsV RX7 252 RX6 yX6_leastLeft wsX6_leastLeft) := goodIn_app (goodIn_of _ (by decide +kernel)) ggX7_performedBy_X6_leastLeft
set_option maxRecDepth 20000 in
theorem ggX7_performedBy_X6_longestSung : GoodIn wsX7_performedBy wsX6_longestSung := goodIn_r _ [28, 7, 8, 29, 30, 23, 31, 9, 10, 11, 12, 13, 14, 39, 40, 41, 42, 43] (by decide +kernel) (by decide +kernel)
set_option maxRecDepth 20000 in
theorem gX7_performedBy_X6_longestSung : GoodIn wsX7_performedBy (wsV RX7 255 RX6 yX6_longestSung wsX6_longestSung) := goodIn_app (goodIn_of _ (by decide +kernel)) ggX7_performedBy_X6_longestSung
theorem dX7_performedBy_0 : decode cX7_performedBy 0 = .ok (.iload_n 1, 1) := by decide +kernel
theorem dX7_performedBy_1 : decode cX7_performedBy 1 = .ok (.tableswitch 65 4 7 #[31, 40, 49, 57], 31) := by decide +kernel
theorem dX7_performedBy_32 : decode cX7_performedBy 32 = .ok (.aload_n 0, 1) := by decide +kernel
theorem dX7_performedBy_33 : decode cX7_performedBy 33 = .ok (.getfield 37, 3) := by decide +kernel
theorem dX7_performedBy_36 : decode cX7_performedBy 36 = .ok (.iconst 0, 1) := by decide +kernel
theorem dX7_performedBy_37 : decode cX7_performedBy 37 = .ok (.invokevirtual 223, 3) := by decide +kernel
theorem dX7_performedBy_40 : decode cX7_performedBy 40 = .ok (.ireturn, 1) := by decide +kernel
theorem dX7_performedBy_41 : decode cX7_performedBy 41 = .ok (.aload_n 0, 1) := by decide +kernel
theorem dX7_performedBy_42 : decode cX7_performedBy 42 = .ok (.getfield 37, 3) := by decide +kernel
theorem dX7_performedBy_45 : decode cX7_performedBy 45 = .ok (.iconst 2, 1) := by decide +kernel
theorem dX7_performedBy_46 : decode cX7_performedBy 46 = .ok (.invokevirtual 223, 3) := by decide +kernel
theorem dX7_performedBy_49 : decode cX7_performedBy 49 = .ok (.ireturn, 1) := by decide +kernel
theorem dX7_performedBy_50 : decode cX7_performedBy 50 = .ok (.aload_n 0, 1) := by decide +kernel
theorem dX7_performedBy_51 : decode cX7_performedBy 51 = .ok (.getfield 37, 3) := by decide +kernel
theorem dX7_performedBy_54 : decode cX7_performedBy 54 = .ok (.invokevirtual 252, 3) := by decide +kernel
theorem dX7_performedBy_57 : decode cX7_performedBy 57 = .ok (.ireturn, 1) := by decide +kernel
theorem dX7_performedBy_58 : decode cX7_performedBy 58 = .ok (.aload_n 0, 1) := by decide +kernel
theorem dX7_performedBy_59 : decode cX7_performedBy 59 = .ok (.getfield 37, 3) := by decide +kernel
theorem dX7_performedBy_62 : decode cX7_performedBy 62 = .ok (.invokevirtual 255, 3) := by decide +kernel
theorem dX7_performedBy_65 : decode cX7_performedBy 65 = .ok (.ireturn, 1) := by decide +kernel
theorem dX7_performedBy_66 : decode cX7_performedBy 66 = .ok (.bipush (-2), 2) := by decide +kernel
theorem dX7_performedBy_68 : decode cX7_performedBy 68 = .ok (.ireturn, 1) := by decide +kernel
theorem dX7_isWithin_0 : decode cX7_isWithin 0 = .ok (.iload_n 0, 1) := by decide +kernel
theorem dX7_isWithin_1 : decode cX7_isWithin 1 = .ok (.iload_n 1, 1) := by decide +kernel
theorem dX7_isWithin_2 : decode cX7_isWithin 2 = .ok (.if_icmp .lt 12, 3) := by decide +kernel
theorem dX7_isWithin_5 : decode cX7_isWithin 5 = .ok (.iload_n 0, 1) := by decide +kernel
theorem dX7_isWithin_6 : decode cX7_isWithin 6 = .ok (.iload_n 2, 1) := by decide +kernel
theorem dX7_isWithin_7 : decode cX7_isWithin 7 = .ok (.if_icmp .gt 7, 3) := by decide +kernel
theorem dX7_isWithin_10 : decode cX7_isWithin 10 = .ok (.iconst 1, 1) := by decide +kernel
theorem dX7_isWithin_11 : decode cX7_isWithin 11 = .ok (.goto 4, 3) := by decide +kernel
theorem dX7_isWithin_14 : decode cX7_isWithin 14 = .ok (.iconst 0, 1) := by decide +kernel
theorem dX7_isWithin_15 : decode cX7_isWithin 15 = .ok (.ireturn, 1) := by decide +kernel
theorem dX7_bit_0 : decode cX7_bit 0 = .ok (.iconst 1, 1) := by decide +kernel
theorem dX7_bit_1 : decode cX7_bit 1 = .ok (.iload_n 0, 1) := by decide +kernel
theorem dX7_bit_2 : decode cX7_bit 2 = .ok (.ishl, 1) := by decide +kernel
theorem dX7_bit_3 : decode cX7_bit 3 = .ok (.ireturn, 1) := by decide +kernel
theorem dX7_contains_0 : decode cX7_contains 0 = .ok (.iload_n 0, 1) := by decide +kernel
theorem dX7_contains_1 : decode cX7_contains 1 = .ok (.iload_n 1, 1) := by decide +kernel
theorem dX7_contains_2 : decode cX7_contains 2 = .ok (.ishr, 1) := by decide +kernel
theorem dX7_contains_3 : decode cX7_contains 3 = .ok (.iconst 1, 1) := by decide +kernel
theorem dX7_contains_4 : decode cX7_contains 4 = .ok (.iand, 1) := by decide +kernel
theorem dX7_contains_5 : decode cX7_contains 5 = .ok (.ifCond .eq 7, 3) := by decide +kernel
theorem dX7_contains_8 : decode cX7_contains 8 = .ok (.iconst 1, 1) := by decide +kernel
theorem dX7_contains_9 : decode cX7_contains 9 = .ok (.goto 4, 3) := by decide +kernel
theorem dX7_contains_12 : decode cX7_contains 12 = .ok (.iconst 0, 1) := by decide +kernel
theorem dX7_contains_13 : decode cX7_contains 13 = .ok (.ireturn, 1) := by decide +kernel
theorem dX8_init_0 : decode cX8_init 0 = .ok (.aload_n 0, 1) := by decide +kernel
theorem dX8_init_1 : decode cX8_init 1 = .ok (.invokespecial 1, 3) := by decide +kernel
theorem dX8_init_4 : decode cX8_init 4 = .ok (.aload_n 0, 1) := by decide +kernel
theorem dX8_init_5 : decode cX8_init 5 = .ok (.sipush 292, 3) := by decide +kernel
theorem dX8_init_8 : decode cX8_init 8 = .ok (.newarray .int, 2) := by decide +kernel
theorem dX8_init_10 : decode cX8_init 10 = .ok (.putfield 7, 3) := by decide +kernel
theorem dX8_init_13 : decode cX8_init 13 = .ok (.aload_n 0, 1) := by decide +kernel
theorem dX8_init_14 : decode cX8_init 14 = .ok (.sipush 292, 3) := by decide +kernel
theorem dX8_init_17 : decode cX8_init 17 = .ok (.newarray .int, 2) := by decide +kernel
theorem dX8_init_19 : decode cX8_init 19 = .ok (.putfield 13, 3) := by decide +kernel
theorem dX8_init_22 : decode cX8_init 22 = .ok (.aload_n 0, 1) := by decide +kernel
theorem dX8_init_23 : decode cX8_init 23 = .ok (.sipush 1460, 3) := by decide +kernel
theorem dX8_init_26 : decode cX8_init 26 = .ok (.newarray .int, 2) := by decide +kernel
theorem dX8_init_28 : decode cX8_init 28 = .ok (.putfield 16, 3) := by decide +kernel
theorem dX8_init_31 : decode cX8_init 31 = .ok (.aload_n 0, 1) := by decide +kernel
theorem dX8_init_32 : decode cX8_init 32 = .ok (.sipush 584, 3) := by decide +kernel
theorem dX8_init_35 : decode cX8_init 35 = .ok (.newarray .int, 2) := by decide +kernel
theorem dX8_init_37 : decode cX8_init 37 = .ok (.putfield 19, 3) := by decide +kernel
theorem dX8_init_40 : decode cX8_init 40 = .ok (.aload_n 0, 1) := by decide +kernel
theorem dX8_init_41 : decode cX8_init 41 = .ok (.iconst 2, 1) := by decide +kernel
theorem dX8_init_42 : decode cX8_init 42 = .ok (.newarray .boolean, 2) := by decide +kernel
theorem dX8_init_44 : decode cX8_init 44 = .ok (.putfield 22, 3) := by decide +kernel
theorem dX8_init_47 : decode cX8_init 47 = .ok (.aload_n 0, 1) := by decide +kernel
theorem dX8_init_48 : decode cX8_init 48 = .ok (.bipush 60, 2) := by decide +kernel
theorem dX8_init_50 : decode cX8_init 50 = .ok (.newarray .char, 2) := by decide +kernel
theorem dX8_init_52 : decode cX8_init 52 = .ok (.putfield 26, 3) := by decide +kernel
theorem dX8_init_55 : decode cX8_init 55 = .ok (.aload_n 0, 1) := by decide +kernel
theorem dX8_init_56 : decode cX8_init 56 = .ok (.bipush 60, 2) := by decide +kernel
theorem dX8_init_58 : decode cX8_init 58 = .ok (.newarray .int, 2) := by decide +kernel
theorem dX8_init_60 : decode cX8_init 60 = .ok (.putfield 30, 3) := by decide +kernel
theorem dX8_init_63 : decode cX8_init 63 = .ok (.aload_n 0, 1) := by decide +kernel
theorem dX8_init_64 : decode cX8_init 64 = .ok (.bipush 60, 2) := by decide +kernel
theorem dX8_init_66 : decode cX8_init 66 = .ok (.newarray .int, 2) := by decide +kernel
theorem dX8_init_68 : decode cX8_init 68 = .ok (.putfield 33, 3) := by decide +kernel
theorem dX8_init_71 : decode cX8_init 71 = .ok (.aload_n 0, 1) := by decide +kernel
theorem dX8_init_72 : decode cX8_init 72 = .ok (.bipush 60, 2) := by decide +kernel
theorem dX8_init_74 : decode cX8_init 74 = .ok (.newarray .int, 2) := by decide +kernel
theorem dX8_init_76 : decode cX8_init 76 = .ok (.putfield 36, 3) := by decide +kernel
theorem dX8_init_79 : decode cX8_init 79 = .ok (.aload_n 0, 1) := by decide +kernel
theorem dX8_init_80 : decode cX8_init 80 = .ok (.sipush 1152, 3) := by decide +kernel
theorem dX8_init_83 : decode cX8_init 83 = .ok (.newarray .int, 2) := by decide +kernel
theorem dX8_init_85 : decode cX8_init 85 = .ok (.putfield 39, 3) := by decide +kernel
theorem dX8_init_88 : decode cX8_init 88 = .ok (.aload_n 0, 1) := by decide +kernel
theorem dX8_init_89 : decode cX8_init 89 = .ok (.sipush 1152, 3) := by decide +kernel
theorem dX8_init_92 : decode cX8_init 92 = .ok (.newarray .int, 2) := by decide +kernel
theorem dX8_init_94 : decode cX8_init 94 = .ok (.putfield 42, 3) := by decide +kernel
theorem dX8_init_97 : decode cX8_init 97 = .ok (.aload_n 0, 1) := by decide +kernel
theorem dX8_init_98 : decode cX8_init 98 = .ok (.bipush 12, 2) := by decide +kernel
theorem dX8_init_100 : decode cX8_init 100 = .ok (.newarray .boolean, 2) := by decide +kernel
theorem dX8_init_102 : decode cX8_init 102 = .ok (.putfield 45, 3) := by decide +kernel
theorem dX8_init_105 : decode cX8_init 105 = .ok (.aload_n 0, 1) := by decide +kernel
theorem dX8_init_106 : decode cX8_init 106 = .ok (.sipush 1300, 3) := by decide +kernel
theorem dX8_init_109 : decode cX8_init 109 = .ok (.newarray .int, 2) := by decide +kernel
theorem dX8_init_111 : decode cX8_init 111 = .ok (.putfield 48, 3) := by decide +kernel
theorem dX8_init_114 : decode cX8_init 114 = .ok (.aload_n 0, 1) := by decide +kernel
theorem dX8_init_115 : decode cX8_init 115 = .ok (.sipush 1300, 3) := by decide +kernel
theorem dX8_init_118 : decode cX8_init 118 = .ok (.newarray .int, 2) := by decide +kernel
theorem dX8_init_120 : decode cX8_init 120 = .ok (.putfield 51, 3) := by decide +kernel
theorem dX8_init_123 : decode cX8_init 123 = .ok (.aload_n 0, 1) := by decide +kernel
theorem dX8_init_124 : decode cX8_init 124 = .ok (.sipush 1300, 3) := by decide +kernel
theorem dX8_init_127 : decode cX8_init 127 = .ok (.newarray .int, 2) := by decide +kernel
theorem dX8_init_129 : decode cX8_init 129 = .ok (.putfield 54, 3) := by decide +kernel
theorem dX8_init_132 : decode cX8_init 132 = .ok (.aload_n 0, 1) := by decide +kernel
theorem dX8_init_133 : decode cX8_init 133 = .ok (.getfield 7, 3) := by decide +kernel
theorem dX8_init_136 : decode cX8_init 136 = .ok (.iconst 3, 1) := by decide +kernel
theorem dX8_init_137 : decode cX8_init 137 = .ok (.iconst 2, 1) := by decide +kernel
theorem dX8_init_138 : decode cX8_init 138 = .ok (.iastore, 1) := by decide +kernel
theorem dX8_init_139 : decode cX8_init 139 = .ok (.return_, 1) := by decide +kernel
theorem dX8_in_0 : decode cX8_in 0 = .ok (.iload_n 0, 1) := by decide +kernel
theorem dX8_in_1 : decode cX8_in 1 = .ok (.iload_n 1, 1) := by decide +kernel
theorem dX8_in_2 : decode cX8_in 2 = .ok (.if_icmp .lt 12, 3) := by decide +kernel
theorem dX8_in_5 : decode cX8_in 5 = .ok (.iload_n 0, 1) := by decide +kernel
theorem dX8_in_6 : decode cX8_in 6 = .ok (.iload_n 2, 1) := by decide +kernel
theorem dX8_in_7 : decode cX8_in 7 = .ok (.if_icmp .gt 7, 3) := by decide +kernel
theorem dX8_in_10 : decode cX8_in 10 = .ok (.iconst 1, 1) := by decide +kernel
theorem dX8_in_11 : decode cX8_in 11 = .ok (.goto 4, 3) := by decide +kernel
theorem dX8_in_14 : decode cX8_in 14 = .ok (.iconst 0, 1) := by decide +kernel
theorem dX8_in_15 : decode cX8_in 15 = .ok (.ireturn, 1) := by decide +kernel
theorem dX8_lesser_0 : decode cX8_lesser 0 = .ok (.iload_n 0, 1) := by decide +kernel
theorem dX8_lesser_1 : decode cX8_lesser 1 = .ok (.iload_n 1, 1) := by decide +kernel
theorem dX8_lesser_2 : decode cX8_lesser 2 = .ok (.if_icmp .ge 7, 3) := by decide +kernel
theorem dX8_lesser_5 : decode cX8_lesser 5 = .ok (.iload_n 0, 1) := by decide +kernel
theorem dX8_lesser_6 : decode cX8_lesser 6 = .ok (.goto 4, 3) := by decide +kernel
theorem dX8_lesser_9 : decode cX8_lesser 9 = .ok (.iload_n 1, 1) := by decide +kernel
theorem dX8_lesser_10 : decode cX8_lesser 10 = .ok (.ireturn, 1) := by decide +kernel
theorem dX8_begin_0 : decode cX8_begin 0 = .ok (.iconst 0, 1) := by decide +kernel
theorem dX8_begin_1 : decode cX8_begin 1 = .ok (.istore_n 1, 1) := by decide +kernel
theorem dX8_begin_2 : decode cX8_begin 2 = .ok (.iload_n 1, 1) := by decide +kernel
theorem dX8_begin_3 : decode cX8_begin 3 = .ok (.sipush 292, 3) := by decide +kernel
theorem dX8_begin_6 : decode cX8_begin 6 = .ok (.if_icmp .ge 21, 3) := by decide +kernel
theorem dX8_begin_9 : decode cX8_begin 9 = .ok (.aload_n 0, 1) := by decide +kernel
theorem dX8_begin_10 : decode cX8_begin 10 = .ok (.getfield 13, 3) := by decide +kernel
theorem dX8_begin_13 : decode cX8_begin 13 = .ok (.iload_n 1, 1) := by decide +kernel
theorem dX8_begin_14 : decode cX8_begin 14 = .ok (.aload_n 0, 1) := by decide +kernel
theorem dX8_begin_15 : decode cX8_begin 15 = .ok (.getfield 7, 3) := by decide +kernel
theorem dX8_begin_18 : decode cX8_begin 18 = .ok (.iload_n 1, 1) := by decide +kernel
theorem dX8_begin_19 : decode cX8_begin 19 = .ok (.iaload, 1) := by decide +kernel
theorem dX8_begin_20 : decode cX8_begin 20 = .ok (.iastore, 1) := by decide +kernel
theorem dX8_begin_21 : decode cX8_begin 21 = .ok (.iinc 1 1, 3) := by decide +kernel
theorem dX8_begin_24 : decode cX8_begin 24 = .ok (.goto (-22), 3) := by decide +kernel
theorem dX8_begin_27 : decode cX8_begin 27 = .ok (.return_, 1) := by decide +kernel
theorem dX8_done_0 : decode cX8_done 0 = .ok (.aload_n 0, 1) := by decide +kernel
theorem dX8_done_1 : decode cX8_done 1 = .ok (.getfield 57, 3) := by decide +kernel
theorem dX8_done_4 : decode cX8_done 4 = .ok (.iconst 5, 1) := by decide +kernel
theorem dX8_done_5 : decode cX8_done 5 = .ok (.if_icmp .ne 49, 3) := by decide +kernel
theorem dX8_done_8 : decode cX8_done 8 = .ok (.aload_n 0, 1) := by decide +kernel
theorem dX8_done_9 : decode cX8_done 9 = .ok (.dup, 1) := by decide +kernel
theorem dX8_done_10 : decode cX8_done 10 = .ok (.getfield 57, 3) := by decide +kernel
theorem dX8_done_13 : decode cX8_done 13 = .ok (.iconst 1, 1) := by decide +kernel
theorem dX8_done_14 : decode cX8_done 14 = .ok (.isub, 1) := by decide +kernel
theorem dX8_done_15 : decode cX8_done 15 = .ok (.putfield 57, 3) := by decide +kernel
theorem dX8_done_18 : decode cX8_done 18 = .ok (.iconst 0, 1) := by decide +kernel
theorem dX8_done_19 : decode cX8_done 19 = .ok (.istore_n 2, 1) := by decide +kernel
theorem dX8_done_20 : decode cX8_done 20 = .ok (.iload_n 2, 1) := by decide +kernel
theorem dX8_done_21 : decode cX8_done 21 = .ok (.sipush 292, 3) := by decide +kernel
theorem dX8_done_24 : decode cX8_done 24 = .ok (.aload_n 0, 1) := by decide +kernel
theorem dX8_done_25 : decode cX8_done 25 = .ok (.getfield 57, 3) := by decide +kernel
theorem dX8_done_28 : decode cX8_done 28 = .ok (.imul, 1) := by decide +kernel
theorem dX8_done_29 : decode cX8_done 29 = .ok (.if_icmp .ge 25, 3) := by decide +kernel
theorem dX8_done_32 : decode cX8_done 32 = .ok (.aload_n 0, 1) := by decide +kernel
theorem dX8_done_33 : decode cX8_done 33 = .ok (.getfield 16, 3) := by decide +kernel
theorem dX8_done_36 : decode cX8_done 36 = .ok (.iload_n 2, 1) := by decide +kernel
theorem dX8_done_37 : decode cX8_done 37 = .ok (.aload_n 0, 1) := by decide +kernel
theorem dX8_done_38 : decode cX8_done 38 = .ok (.getfield 16, 3) := by decide +kernel
theorem dX8_done_41 : decode cX8_done 41 = .ok (.iload_n 2, 1) := by decide +kernel
theorem dX8_done_42 : decode cX8_done 42 = .ok (.sipush 292, 3) := by decide +kernel
theorem dX8_done_45 : decode cX8_done 45 = .ok (.iadd, 1) := by decide +kernel
theorem dX8_done_46 : decode cX8_done 46 = .ok (.iaload, 1) := by decide +kernel
theorem dX8_done_47 : decode cX8_done 47 = .ok (.iastore, 1) := by decide +kernel
theorem dX8_done_48 : decode cX8_done 48 = .ok (.iinc 2 1, 3) := by decide +kernel
theorem dX8_done_51 : decode cX8_done 51 = .ok (.goto (-31), 3) := by decide +kernel
theorem dX8_done_54 : decode cX8_done 54 = .ok (.iconst 0, 1) := by decide +kernel
theorem dX8_done_55 : decode cX8_done 55 = .ok (.istore_n 2, 1) := by decide +kernel
theorem dX8_done_56 : decode cX8_done 56 = .ok (.iload_n 2, 1) := by decide +kernel
theorem dX8_done_57 : decode cX8_done 57 = .ok (.sipush 292, 3) := by decide +kernel
theorem dX8_done_60 : decode cX8_done 60 = .ok (.if_icmp .ge 30, 3) := by decide +kernel
theorem dX8_done_63 : decode cX8_done 63 = .ok (.aload_n 0, 1) := by decide +kernel
theorem dX8_done_64 : decode cX8_done 64 = .ok (.getfield 16, 3) := by decide +kernel
theorem dX8_done_67 : decode cX8_done 67 = .ok (.sipush 292, 3) := by decide +kernel
theorem dX8_done_70 : decode cX8_done 70 = .ok (.aload_n 0, 1) := by decide +kernel
theorem dX8_done_71 : decode cX8_done 71 = .ok (.getfield 57, 3) := by decide +kernel
theorem dX8_done_74 : decode cX8_done 74 = .ok (.imul, 1) := by decide +kernel
theorem dX8_done_75 : decode cX8_done 75 = .ok (.iload_n 2, 1) := by decide +kernel
theorem dX8_done_76 : decode cX8_done 76 = .ok (.iadd, 1) := by decide +kernel
theorem dX8_done_77 : decode cX8_done 77 = .ok (.aload_n 0, 1) := by decide +kernel
theorem dX8_done_78 : decode cX8_done 78 = .ok (.getfield 13, 3) := by decide +kernel
theorem dX8_done_81 : decode cX8_done 81 = .ok (.iload_n 2, 1) := by decide +kernel
theorem dX8_done_82 : decode cX8_done 82 = .ok (.iaload, 1) := by decide +kernel
theorem dX8_done_83 : decode cX8_done 83 = .ok (.iastore, 1) := by decide +kernel
theorem dX8_done_84 : decode cX8_done 84 = .ok (.iinc 2 1, 3) := by decide +kernel
theorem dX8_done_87 : decode cX8_done 87 = .ok (.goto (-31), 3) := by decide +kernel
theorem dX8_done_90 : decode cX8_done 90 = .ok (.aload_n 0, 1) := by decide +kernel
theorem dX8_done_91 : decode cX8_done 91 = .ok (.dup, 1) := by decide +kernel
theorem dX8_done_92 : decode cX8_done 92 = .ok (.getfield 57, 3) := by decide +kernel
theorem dX8_done_95 : decode cX8_done 95 = .ok (.iconst 1, 1) := by decide +kernel
theorem dX8_done_96 : decode cX8_done 96 = .ok (.iadd, 1) := by decide +kernel
theorem dX8_done_97 : decode cX8_done 97 = .ok (.putfield 57, 3) := by decide +kernel
theorem dX8_done_100 : decode cX8_done 100 = .ok (.iload_n 1, 1) := by decide +kernel
theorem dX8_done_101 : decode cX8_done 101 = .ok (.ireturn, 1) := by decide +kernel
theorem dX8_undo_0 : decode cX8_undo 0 = .ok (.aload_n 0, 1) := by decide +kernel
theorem dX8_undo_1 : decode cX8_undo 1 = .ok (.getfield 57, 3) := by decide +kernel
theorem dX8_undo_4 : decode cX8_undo 4 = .ok (.ifCond .ne 6, 3) := by decide +kernel
theorem dX8_undo_7 : decode cX8_undo 7 = .ok (.bipush (-5), 2) := by decide +kernel
theorem dX8_undo_9 : decode cX8_undo 9 = .ok (.ireturn, 1) := by decide +kernel
theorem dX8_undo_10 : decode cX8_undo 10 = .ok (.aload_n 0, 1) := by decide +kernel
theorem dX8_undo_11 : decode cX8_undo 11 = .ok (.dup, 1) := by decide +kernel
theorem dX8_undo_12 : decode cX8_undo 12 = .ok (.getfield 57, 3) := by decide +kernel
theorem dX8_undo_15 : decode cX8_undo 15 = .ok (.iconst 1, 1) := by decide +kernel
theorem dX8_undo_16 : decode cX8_undo 16 = .ok (.isub, 1) := by decide +kernel
theorem dX8_undo_17 : decode cX8_undo 17 = .ok (.putfield 57, 3) := by decide +kernel
theorem dX8_undo_20 : decode cX8_undo 20 = .ok (.iconst 0, 1) := by decide +kernel
theorem dX8_undo_21 : decode cX8_undo 21 = .ok (.istore_n 1, 1) := by decide +kernel
theorem dX8_undo_22 : decode cX8_undo 22 = .ok (.iload_n 1, 1) := by decide +kernel
theorem dX8_undo_23 : decode cX8_undo 23 = .ok (.sipush 292, 3) := by decide +kernel
theorem dX8_undo_26 : decode cX8_undo 26 = .ok (.if_icmp .ge 30, 3) := by decide +kernel
theorem dX8_undo_29 : decode cX8_undo 29 = .ok (.aload_n 0, 1) := by decide +kernel
theorem dX8_undo_30 : decode cX8_undo 30 = .ok (.getfield 7, 3) := by decide +kernel
theorem dX8_undo_33 : decode cX8_undo 33 = .ok (.iload_n 1, 1) := by decide +kernel
theorem dX8_undo_34 : decode cX8_undo 34 = .ok (.aload_n 0, 1) := by decide +kernel
theorem dX8_undo_35 : decode cX8_undo 35 = .ok (.getfield 16, 3) := by decide +kernel
theorem dX8_undo_38 : decode cX8_undo 38 = .ok (.sipush 292, 3) := by decide +kernel
theorem dX8_undo_41 : decode cX8_undo 41 = .ok (.aload_n 0, 1) := by decide +kernel
theorem dX8_undo_42 : decode cX8_undo 42 = .ok (.getfield 57, 3) := by decide +kernel
theorem dX8_undo_45 : decode cX8_undo 45 = .ok (.imul, 1) := by decide +kernel
theorem dX8_undo_46 : decode cX8_undo 46 = .ok (.iload_n 1, 1) := by decide +kernel
theorem dX8_undo_47 : decode cX8_undo 47 = .ok (.iadd, 1) := by decide +kernel
theorem dX8_undo_48 : decode cX8_undo 48 = .ok (.iaload, 1) := by decide +kernel
theorem dX8_undo_49 : decode cX8_undo 49 = .ok (.iastore, 1) := by decide +kernel
theorem dX8_undo_50 : decode cX8_undo 50 = .ok (.iinc 1 1, 3) := by decide +kernel
theorem dX8_undo_53 : decode cX8_undo 53 = .ok (.goto (-31), 3) := by decide +kernel
theorem dX8_undo_56 : decode cX8_undo 56 = .ok (.aload_n 0, 1) := by decide +kernel
theorem dX8_undo_57 : decode cX8_undo 57 = .ok (.getfield 57, 3) := by decide +kernel
theorem dX8_undo_60 : decode cX8_undo 60 = .ok (.ireturn, 1) := by decide +kernel
end
section
set_option maxRecDepth 20000 in
theorem ggX8_keep_X8_in : GoodIn wsX8_keep wsX8_in := goodIn_r _ [7] (by decide +kernel) (by decide +kernel)
set_option maxRecDepth 20000 in
theorem gX8_keep_X8_in : GoodIn wsX8_keep (va_wsS RX8 61 yX8_in wsX8_in) := goodIn_app (goodIn_of _ (by decide +kernel)) ggX8_keep_X8_in
set_option maxRecDepth 20000 in
theorem ggX8_keep_X8_beats : GoodIn wsX8_keep wsX8_beats := goodIn_r _ [11, 3, 12, 13, 14, 15, 16, 17, 18, 19, 20, 21, 22, 23, 24, 25, 26, 27, 28, 29, 30, 31] (by decide +kernel) (by decide +kernel)
set_option maxRecDepth 20000 in
theorem gX8_keep_X8_beats : GoodIn wsX8_keep (wsV RX8 65 RX8 yX8_beats wsX8_beats) := goodIn_app (goodIn_of _ (by decide +kernel)) ggX8_keep_X8_beats
theorem dX8_keep_0 : decode cX8_keep 0 = .ok (.iload_n 1, 1) := by decide +kernel
theorem dX8_keep_1 : decode cX8_keep 1 = .ok (.iconst 0, 1) := by decide +kernel
theorem dX8_keep_2 : decode cX8_keep 2 = .ok (.iconst 1, 1) := by decide +kernel
theorem dX8_keep_3 : decode cX8_keep 3 = .ok (.invokestatic 61, 3) := by decide +kernel
theorem dX8_keep_6 : decode cX8_keep 6 = .ok (.ifCond .ne 5, 3) := by decide +kernel
theorem dX8_keep_9 : decode cX8_keep 9 = .ok (.iconst (-1), 1) := by decide +kernel
theorem dX8_keep_10 : decode cX8_keep 10 = .ok (.ireturn, 1) := by decide +kernel
theorem dX8_keep_11 : decode cX8_keep 11 = .ok (.aload_n 0, 1) := by decide +kernel
theorem dX8_keep_12 : decode cX8_keep 12 = .ok (.getfield 22, 3) := by decide +kernel
theorem dX8_keep_15 : decode cX8_keep 15 = .ok (.iload_n 1, 1) := by decide +kernel
theorem dX8_keep_16 : decode cX8_keep 16 = .ok (.iconst 1, 1) := by decide +kernel
theorem dX8_keep_17 : decode cX8_keep 17 = .ok (.bastore, 1) := by decide +kernel
theorem dX8_keep_18 : decode cX8_keep 18 = .ok (.iconst 0, 1) := by decide +kernel
theorem dX8_keep_19 : decode cX8_keep 19 = .ok (.istore_n 2, 1) := by decide +kernel
theorem dX8_keep_20 : decode cX8_keep 20 = .ok (.iload_n 2, 1) := by decide +kernel
theorem dX8_keep_21 : decode cX8_keep 21 = .ok (.sipush 292, 3) := by decide +kernel
theorem dX8_keep_24 : decode cX8_keep 24 = .ok (.if_icmp .ge 27, 3) := by decide +kernel
theorem dX8_keep_27 : decode cX8_keep 27 = .ok (.aload_n 0, 1) := by decide +kernel
theorem dX8_keep_28 : decode cX8_keep 28 = .ok (.getfield 19, 3) := by decide +kernel
theorem dX8_keep_31 : decode cX8_keep 31 = .ok (.sipush 292, 3) := by decide +kernel
theorem dX8_keep_34 : decode cX8_keep 34 = .ok (.iload_n 1, 1) := by decide +kernel
theorem dX8_keep_35 : decode cX8_keep 35 = .ok (.imul, 1) := by decide +kernel
theorem dX8_keep_36 : decode cX8_keep 36 = .ok (.iload_n 2, 1) := by decide +kernel
theorem dX8_keep_37 : decode cX8_keep 37 = .ok (.iadd, 1) := by decide +kernel
theorem dX8_keep_38 : decode cX8_keep 38 = .ok (.aload_n 0, 1) := by decide +kernel
theorem dX8_keep_39 : decode cX8_keep 39 = .ok (.getfield 7, 3) := by decide +kernel
theorem dX8_keep_42 : decode cX8_keep 42 = .ok (.iload_n 2, 1) := by decide +kernel
theorem dX8_keep_43 : decode cX8_keep 43 = .ok (.iaload, 1) := by decide +kernel
theorem dX8_keep_44 : decode cX8_keep 44 = .ok (.iastore, 1) := by decide +kernel
theorem dX8_keep_45 : decode cX8_keep 45 = .ok (.iinc 2 1, 3) := by decide +kernel
theorem dX8_keep_48 : decode cX8_keep 48 = .ok (.goto (-28), 3) := by decide +kernel
theorem dX8_keep_51 : decode cX8_keep 51 = .ok (.aload_n 0, 1) := by decide +kernel
theorem dX8_keep_52 : decode cX8_keep 52 = .ok (.invokevirtual 65, 3) := by decide +kernel
theorem dX8_keep_55 : decode cX8_keep 55 = .ok (.ireturn, 1) := by decide +kernel
set_option maxRecDepth 20000 in
theorem ggX8_restore_X8_in : GoodIn wsX8_restore wsX8_in := goodIn_r _ [7] (by decide +kernel) (by decide +kernel)
set_option maxRecDepth 20000 in
theorem gX8_restore_X8_in : GoodIn wsX8_restore (va_wsS RX8 61 yX8_in wsX8_in) := goodIn_app (goodIn_of _ (by decide +kernel)) ggX8_restore_X8_in
set_option maxRecDepth 20000 in
theorem ggX8_restore_X8_begin : GoodIn wsX8_restore wsX8_begin := goodIn_r _ [11, 12, 2, 23, 24, 25, 26, 27, 28, 29, 30, 31, 32, 33, 34, 35, 36, 37, 38, 39, 40, 41, 42] (by decide +kernel) (by decide +kernel)
set_option maxRecDepth 20000 in
theorem gX8_restore_X8_begin : GoodIn wsX8_restore (wsV RX8 69 RX8 yX8_begin wsX8_begin) := goodIn_app (goodIn_of _ (by decide +kernel)) ggX8_restore_X8_begin
set_option maxRecDepth 20000 in
theorem ggX8_restore_X8_beats : GoodIn wsX8_restore wsX8_beats := goodIn_r _ [16, 2, 23, 24, 25, 26, 27, 28, 29, 30, 31, 32, 33, 34, 35, 36, 37, 38, 39, 40, 41, 42] (by decide +kernel) (by decide +kernel)
set_option maxRecDepth 20000 in
theorem gX8_restore_X8_beats : GoodIn wsX8_restore (wsV RX8 65 RX8 yX8_beats wsX8_beats) := goodIn_app (goodIn_of _ (by decide +kernel)) ggX8_restore_X8_beats
set_option maxRecDepth 20000 in
theorem ggX8_restore_X8_done : GoodIn wsX8_restore wsX8_done := goodIn_r _ [20, 21, 22, 12, 23, 24, 25, 26, 27, 28, 29, 30, 31, 32, 33, 34, 35, 36, 37, 38, 39, 40, 41, 42] (by decide +kernel) (by decide +kernel)
set_option maxRecDepth 20000 in
theorem gX8_restore_X8_done : GoodIn wsX8_restore (wsV RX8 72 RX8 yX8_done wsX8_done) := goodIn_app (goodIn_of _ (by decide +kernel)) ggX8_restore_X8_done
theorem dX8_restore_0 : decode cX8_restore 0 = .ok (.iload_n 1, 1) := by decide +kernel
theorem dX8_restore_1 : decode cX8_restore 1 = .ok (.iconst 0, 1) := by decide +kernel
theorem dX8_restore_2 : decode cX8_restore 2 = .ok (.iconst 1, 1) := by decide +kernel
theorem dX8_restore_3 : decode cX8_restore 3 = .ok (.invokestatic 61, 3) := by decide +kernel
theorem dX8_restore_6 : decode cX8_restore 6 = .ok (.ifCond .ne 5, 3) := by decide +kernel
theorem dX8_restore_9 : decode cX8_restore 9 = .ok (.iconst (-1), 1) := by decide +kernel
theorem dX8_restore_10 : decode cX8_restore 10 = .ok (.ireturn, 1) := by decide +kernel
theorem dX8_restore_11 : decode cX8_restore 11 = .ok (.aload_n 0, 1) := by decide +kernel
theorem dX8_restore_12 : decode cX8_restore 12 = .ok (.getfield 22, 3) := by decide +kernel
theorem dX8_restore_15 : decode cX8_restore 15 = .ok (.iload_n 1, 1) := by decide +kernel
theorem dX8_restore_16 : decode cX8_restore 16 = .ok (.baload, 1) := by decide +kernel
theorem dX8_restore_17 : decode cX8_restore 17 = .ok (.ifCond .ne 6, 3) := by decide +kernel
theorem dX8_restore_20 : decode cX8_restore 20 = .ok (.bipush (-5), 2) := by decide +kernel
theorem dX8_restore_22 : decode cX8_restore 22 = .ok (.ireturn, 1) := by decide +kernel
theorem dX8_restore_23 : decode cX8_restore 23 = .ok (.aload_n 0, 1) := by decide +kernel
theorem dX8_restore_24 : decode cX8_restore 24 = .ok (.invokevirtual 69, 3) := by decide +kernel
theorem dX8_restore_27 : decode cX8_restore 27 = .ok (.iconst 0, 1) := by decide +kernel
theorem dX8_restore_28 : decode cX8_restore 28 = .ok (.istore_n 2, 1) := by decide +kernel
theorem dX8_restore_29 : decode cX8_restore 29 = .ok (.iload_n 2, 1) := by decide +kernel
theorem dX8_restore_30 : decode cX8_restore 30 = .ok (.sipush 292, 3) := by decide +kernel
theorem dX8_restore_33 : decode cX8_restore 33 = .ok (.if_icmp .ge 27, 3) := by decide +kernel
theorem dX8_restore_36 : decode cX8_restore 36 = .ok (.aload_n 0, 1) := by decide +kernel
theorem dX8_restore_37 : decode cX8_restore 37 = .ok (.getfield 7, 3) := by decide +kernel
theorem dX8_restore_40 : decode cX8_restore 40 = .ok (.iload_n 2, 1) := by decide +kernel
theorem dX8_restore_41 : decode cX8_restore 41 = .ok (.aload_n 0, 1) := by decide +kernel
theorem dX8_restore_42 : decode cX8_restore 42 = .ok (.getfield 19, 3) := by decide +kernel
theorem dX8_restore_45 : decode cX8_restore 45 = .ok (.sipush 292, 3) := by decide +kernel
theorem dX8_restore_48 : decode cX8_restore 48 = .ok (.iload_n 1, 1) := by decide +kernel
theorem dX8_restore_49 : decode cX8_restore 49 = .ok (.imul, 1) := by decide +kernel
theorem dX8_restore_50 : decode cX8_restore 50 = .ok (.iload_n 2, 1) := by decide +kernel
theorem dX8_restore_51 : decode cX8_restore 51 = .ok (.iadd, 1) := by decide +kernel
theorem dX8_restore_52 : decode cX8_restore 52 = .ok (.iaload, 1) := by decide +kernel
theorem dX8_restore_53 : decode cX8_restore 53 = .ok (.iastore, 1) := by decide +kernel
theorem dX8_restore_54 : decode cX8_restore 54 = .ok (.iinc 2 1, 3) := by decide +kernel
theorem dX8_restore_57 : decode cX8_restore 57 = .ok (.goto (-28), 3) := by decide +kernel
theorem dX8_restore_60 : decode cX8_restore 60 = .ok (.aload_n 0, 1) := by decide +kernel
theorem dX8_restore_61 : decode cX8_restore 61 = .ok (.aload_n 0, 1) := by decide +kernel
theorem dX8_restore_62 : decode cX8_restore 62 = .ok (.invokevirtual 65, 3) := by decide +kernel
theorem dX8_restore_65 : decode cX8_restore 65 = .ok (.invokevirtual 72, 3) := by decide +kernel
theorem dX8_restore_68 : decode cX8_restore 68 = .ok (.ireturn, 1) := by decide +kernel
theorem dX8_beats_0 : decode cX8_beats 0 = .ok (.aload_n 0, 1) := by decide +kernel
theorem dX8_beats_1 : decode cX8_beats 1 = .ok (.getfield 7, 3) := by decide +kernel
theorem dX8_beats_4 : decode cX8_beats 4 = .ok (.iconst 0, 1) := by decide +kernel
theorem dX8_beats_5 : decode cX8_beats 5 = .ok (.iaload, 1) := by decide +kernel
theorem dX8_beats_6 : decode cX8_beats 6 = .ok (.ireturn, 1) := by decide +kernel
theorem dX8_singers_0 : decode cX8_singers 0 = .ok (.aload_n 0, 1) := by decide +kernel
theorem dX8_singers_1 : decode cX8_singers 1 = .ok (.getfield 7, 3) := by decide +kernel
theorem dX8_singers_4 : decode cX8_singers 4 = .ok (.iconst 1, 1) := by decide +kernel
theorem dX8_singers_5 : decode cX8_singers 5 = .ok (.iaload, 1) := by decide +kernel
theorem dX8_singers_6 : decode cX8_singers 6 = .ok (.ireturn, 1) := by decide +kernel
theorem dX8_solos_0 : decode cX8_solos 0 = .ok (.aload_n 0, 1) := by decide +kernel
theorem dX8_solos_1 : decode cX8_solos 1 = .ok (.getfield 7, 3) := by decide +kernel
theorem dX8_solos_4 : decode cX8_solos 4 = .ok (.iconst 2, 1) := by decide +kernel
theorem dX8_solos_5 : decode cX8_solos 5 = .ok (.iaload, 1) := by decide +kernel
theorem dX8_solos_6 : decode cX8_solos 6 = .ok (.ireturn, 1) := by decide +kernel
set_option maxRecDepth 20000 in
theorem ggX8_noBeat_X8_beats : GoodIn wsX8_noBeat wsX8_beats := goodIn_r _ [5, 6, 10, 11, 12, 13, 14, 15, 16, 17, 18, 19, 20, 21, 22, 23, 24, 25, 26, 27, 28, 29] (by decide +kernel) (by decide +kernel)
set_option maxRecDepth 20000 in
theorem gX8_noBeat_X8_beats : GoodIn wsX8_noBeat (wsV RX8 65 RX8 yX8_beats wsX8_beats) := goodIn_app (goodIn_of _ (by decide +kernel)) ggX8_noBeat_X8_beats
set_option maxRecDepth 20000 in
theorem ggX8_noBeat_X8_in : GoodIn wsX8_noBeat wsX8_in := goodIn_r _ [9] (by decide +kernel) (by decide +kernel)
set_option maxRecDepth 20000 in
theorem gX8_noBeat_X8_in : GoodIn wsX8_noBeat (va_wsS RX8 61 yX8_in wsX8_in) := goodIn_app (goodIn_of _ (by decide +kernel)) ggX8_noBeat_X8_in
theorem dX8_noBeat_0 : decode cX8_noBeat 0 = .ok (.iload_n 1, 1) := by decide +kernel
theorem dX8_noBeat_1 : decode cX8_noBeat 1 = .ok (.iconst 0, 1) := by decide +kernel
theorem dX8_noBeat_2 : decode cX8_noBeat 2 = .ok (.aload_n 0, 1) := by decide +kernel
theorem dX8_noBeat_3 : decode cX8_noBeat 3 = .ok (.invokevirtual 65, 3) := by decide +kernel
theorem dX8_noBeat_6 : decode cX8_noBeat 6 = .ok (.iconst 1, 1) := by decide +kernel
theorem dX8_noBeat_7 : decode cX8_noBeat 7 = .ok (.isub, 1) := by decide +kernel
theorem dX8_noBeat_8 : decode cX8_noBeat 8 = .ok (.invokestatic 61, 3) := by decide +kernel
theorem dX8_noBeat_11 : decode cX8_noBeat 11 = .ok (.ifCond .ne 7, 3) := by decide +kernel
theorem dX8_noBeat_14 : decode cX8_noBeat 14 = .ok (.iconst 1, 1) := by decide +kernel
theorem dX8_noBeat_15 : decode cX8_noBeat 15 = .ok (.goto 4, 3) := by decide +kernel
theorem dX8_noBeat_18 : decode cX8_noBeat 18 = .ok (.iconst 0, 1) := by decide +kernel
theorem dX8_noBeat_19 : decode cX8_noBeat 19 = .ok (.ireturn, 1) := by decide +kernel
set_option maxRecDepth 20000 in
theorem ggX8_noSinger_X8_singers : GoodIn wsX8_noSinger wsX8_singers := goodIn_r _ [5, 6, 10, 11, 12, 13, 14, 15, 16, 17, 18, 19, 20, 21, 22, 23, 24, 25, 26, 27, 28, 29] (by decide +kernel) (by decide +kernel)
set_option maxRecDepth 20000 in
theorem gX8_noSinger_X8_singers : GoodIn wsX8_noSinger (wsV RX8 76 RX8 yX8_singers wsX8_singers) := goodIn_app (goodIn_of _ (by decide +kernel)) ggX8_noSinger_X8_singers
set_option maxRecDepth 20000 in
theorem ggX8_noSinger_X8_in : GoodIn wsX8_noSinger wsX8_in := goodIn_r _ [9] (by decide +kernel) (by decide +kernel)
set_option maxRecDepth 20000 in
theorem gX8_noSinger_X8_in : GoodIn wsX8_noSinger (va_wsS RX8 61 yX8_in wsX8_in) := goodIn_app (goodIn_of _ (by decide +kernel)) ggX8_noSinger_X8_in
theorem dX8_noSinger_0 : decode cX8_noSinger 0 = .ok (.iload_n 1, 1) := by decide +kernel
theorem dX8_noSinger_1 : decode cX8_noSinger 1 = .ok (.iconst 0, 1) := by decide +kernel
theorem dX8_noSinger_2 : decode cX8_noSinger 2 = .ok (.aload_n 0, 1) := by decide +kernel
theorem dX8_noSinger_3 : decode cX8_noSinger 3 = .ok (.invokevirtual 76, 3) := by decide +kernel
theorem dX8_noSinger_6 : decode cX8_noSinger 6 = .ok (.iconst 1, 1) := by decide +kernel
theorem dX8_noSinger_7 : decode cX8_noSinger 7 = .ok (.isub, 1) := by decide +kernel
theorem dX8_noSinger_8 : decode cX8_noSinger 8 = .ok (.invokestatic 61, 3) := by decide +kernel
theorem dX8_noSinger_11 : decode cX8_noSinger 11 = .ok (.ifCond .ne 7, 3) := by decide +kernel
theorem dX8_noSinger_14 : decode cX8_noSinger 14 = .ok (.iconst 1, 1) := by decide +kernel
theorem dX8_noSinger_15 : decode cX8_noSinger 15 = .ok (.goto 4, 3) := by decide +kernel
theorem dX8_noSinger_18 : decode cX8_noSinger 18 = .ok (.iconst 0, 1) := by decide +kernel
theorem dX8_noSinger_19 : decode cX8_noSinger 19 = .ok (.ireturn, 1) := by decide +kernel
theorem dX8_isRest_0 : decode cX8_isRest 0 = .ok (.aload_n 0, 1) := by decide +kernel
theorem dX8_isRest_1 : decode cX8_isRest 1 = .ok (.getfield 7, 3) := by decide +kernel
theorem dX8_isRest_4 : decode cX8_isRest 4 = .ok (.iconst 4, 1) := by decide +kernel
theorem dX8_isRest_5 : decode cX8_isRest 5 = .ok (.iload_n 1, 1) := by decide +kernel
theorem dX8_isRest_6 : decode cX8_isRest 6 = .ok (.iadd, 1) := by decide +kernel
theorem dX8_isRest_7 : decode cX8_isRest 7 = .ok (.iaload, 1) := by decide +kernel
theorem dX8_isRest_8 : decode cX8_isRest 8 = .ok (.ifCond .ne 7, 3) := by decide +kernel
theorem dX8_isRest_11 : decode cX8_isRest 11 = .ok (.iconst 1, 1) := by decide +kernel
theorem dX8_isRest_12 : decode cX8_isRest 12 = .ok (.goto 4, 3) := by decide +kernel
theorem dX8_isRest_15 : decode cX8_isRest 15 = .ok (.iconst 0, 1) := by decide +kernel
theorem dX8_isRest_16 : decode cX8_isRest 16 = .ok (.ireturn, 1) := by decide +kernel
theorem dX8_loud_0 : decode cX8_loud 0 = .ok (.aload_n 0, 1) := by decide +kernel
theorem dX8_loud_1 : decode cX8_loud 1 = .ok (.getfield 7, 3) := by decide +kernel
theorem dX8_loud_4 : decode cX8_loud 4 = .ok (.bipush 100, 2) := by decide +kernel
theorem dX8_loud_6 : decode cX8_loud 6 = .ok (.iload_n 1, 1) := by decide +kernel
theorem dX8_loud_7 : decode cX8_loud 7 = .ok (.iadd, 1) := by decide +kernel
theorem dX8_loud_8 : decode cX8_loud 8 = .ok (.iaload, 1) := by decide +kernel
theorem dX8_loud_9 : decode cX8_loud 9 = .ok (.ireturn, 1) := by decide +kernel
theorem dX8_of_0 : decode cX8_of 0 = .ok (.aload_n 0, 1) := by decide +kernel
theorem dX8_of_1 : decode cX8_of 1 = .ok (.getfield 7, 3) := by decide +kernel
theorem dX8_of_4 : decode cX8_of 4 = .ok (.sipush 196, 3) := by decide +kernel
theorem dX8_of_7 : decode cX8_of 7 = .ok (.iconst 3, 1) := by decide +kernel
theorem dX8_of_8 : decode cX8_of 8 = .ok (.iload_n 1, 1) := by decide +kernel
theorem dX8_of_9 : decode cX8_of 9 = .ok (.imul, 1) := by decide +kernel
theorem dX8_of_10 : decode cX8_of 10 = .ok (.iadd, 1) := by decide +kernel
theorem dX8_of_11 : decode cX8_of 11 = .ok (.iload_n 2, 1) := by decide +kernel
theorem dX8_of_12 : decode cX8_of 12 = .ok (.iadd, 1) := by decide +kernel
theorem dX8_of_13 : decode cX8_of 13 = .ok (.iaload, 1) := by decide +kernel
theorem dX8_of_14 : decode cX8_of 14 = .ok (.ireturn, 1) := by decide +kernel
theorem dX8_soloOf_0 : decode cX8_soloOf 0 = .ok (.aload_n 0, 1) := by decide +kernel
theorem dX8_soloOf_1 : decode cX8_soloOf 1 = .ok (.getfield 7, 3) := by decide +kernel
theorem dX8_soloOf_4 : decode cX8_soloOf 4 = .ok (.sipush 268, 3) := by decide +kernel
theorem dX8_soloOf_7 : decode cX8_soloOf 7 = .ok (.iconst 3, 1) := by decide +kernel
theorem dX8_soloOf_8 : decode cX8_soloOf 8 = .ok (.iload_n 1, 1) := by decide +kernel
theorem dX8_soloOf_9 : decode cX8_soloOf 9 = .ok (.imul, 1) := by decide +kernel
theorem dX8_soloOf_10 : decode cX8_soloOf 10 = .ok (.iadd, 1) := by decide +kernel
theorem dX8_soloOf_11 : decode cX8_soloOf 11 = .ok (.iload_n 2, 1) := by decide +kernel
theorem dX8_soloOf_12 : decode cX8_soloOf 12 = .ok (.iadd, 1) := by decide +kernel
theorem dX8_soloOf_13 : decode cX8_soloOf 13 = .ok (.iaload, 1) := by decide +kernel
theorem dX8_soloOf_14 : decode cX8_soloOf 14 = .ok (.ireturn, 1) := by decide +kernel
theorem dX8_type_0 : decode cX8_type 0 = .ok (.aload_n 0, 1) := by decide +kernel
theorem dX8_type_1 : decode cX8_type 1 = .ok (.getfield 79, 3) := by decide +kernel
theorem dX8_type_4 : decode cX8_type 4 = .ok (.bipush 60, 2) := by decide +kernel
theorem dX8_type_6 : decode cX8_type 6 = .ok (.if_icmp .ne 6, 3) := by decide +kernel
theorem dX8_type_9 : decode cX8_type 9 = .ok (.bipush (-3), 2) := by decide +kernel
theorem dX8_type_11 : decode cX8_type 11 = .ok (.ireturn, 1) := by decide +kernel
theorem dX8_type_12 : decode cX8_type 12 = .ok (.aload_n 0, 1) := by decide +kernel
theorem dX8_type_13 : decode cX8_type 13 = .ok (.getfield 26, 3) := by decide +kernel
theorem dX8_type_16 : decode cX8_type 16 = .ok (.aload_n 0, 1) := by decide +kernel
theorem dX8_type_17 : decode cX8_type 17 = .ok (.getfield 79, 3) := by decide +kernel
theorem dX8_type_20 : decode cX8_type 20 = .ok (.iload_n 1, 1) := by decide +kernel
theorem dX8_type_21 : decode cX8_type 21 = .ok (.castore, 1) := by decide +kernel
theorem dX8_type_22 : decode cX8_type 22 = .ok (.aload_n 0, 1) := by decide +kernel
theorem dX8_type_23 : decode cX8_type 23 = .ok (.dup, 1) := by decide +kernel
theorem dX8_type_24 : decode cX8_type 24 = .ok (.getfield 79, 3) := by decide +kernel
theorem dX8_type_27 : decode cX8_type 27 = .ok (.iconst 1, 1) := by decide +kernel
theorem dX8_type_28 : decode cX8_type 28 = .ok (.iadd, 1) := by decide +kernel
theorem dX8_type_29 : decode cX8_type 29 = .ok (.putfield 79, 3) := by decide +kernel
theorem dX8_type_32 : decode cX8_type 32 = .ok (.aload_n 0, 1) := by decide +kernel
theorem dX8_type_33 : decode cX8_type 33 = .ok (.getfield 79, 3) := by decide +kernel
theorem dX8_type_36 : decode cX8_type 36 = .ok (.ireturn, 1) := by decide +kernel
theorem dX8_clearText_0 : decode cX8_clearText 0 = .ok (.aload_n 0, 1) := by decide +kernel
theorem dX8_clearText_1 : decode cX8_clearText 1 = .ok (.getfield 79, 3) := by decide +kernel
theorem dX8_clearText_4 : decode cX8_clearText 4 = .ok (.istore_n 1, 1) := by decide +kernel
theorem dX8_clearText_5 : decode cX8_clearText 5 = .ok (.aload_n 0, 1) := by decide +kernel
theorem dX8_clearText_6 : decode cX8_clearText 6 = .ok (.iconst 0, 1) := by decide +kernel
theorem dX8_clearText_7 : decode cX8_clearText 7 = .ok (.putfield 79, 3) := by decide +kernel
theorem dX8_clearText_10 : decode cX8_clearText 10 = .ok (.iload_n 1, 1) := by decide +kernel
theorem dX8_clearText_11 : decode cX8_clearText 11 = .ok (.ireturn, 1) := by decide +kernel
theorem dX8_isAt_0 : decode cX8_isAt 0 = .ok (.aload_n 0, 1) := by decide +kernel
theorem dX8_isAt_1 : decode cX8_isAt 1 = .ok (.getfield 82, 3) := by decide +kernel
theorem dX8_isAt_4 : decode cX8_isAt 4 = .ok (.aload_n 0, 1) := by decide +kernel
theorem dX8_isAt_5 : decode cX8_isAt 5 = .ok (.getfield 79, 3) := by decide +kernel
theorem dX8_isAt_8 : decode cX8_isAt 8 = .ok (.if_icmp .ge 33, 3) := by decide +kernel
theorem dX8_isAt_11 : decode cX8_isAt 11 = .ok (.aload_n 0, 1) := by decide +kernel
theorem dX8_isAt_12 : decode cX8_isAt 12 = .ok (.getfield 26, 3) := by decide +kernel
theorem dX8_isAt_15 : decode cX8_isAt 15 = .ok (.aload_n 0, 1) := by decide +kernel
theorem dX8_isAt_16 : decode cX8_isAt 16 = .ok (.getfield 82, 3) := by decide +kernel
theorem dX8_isAt_19 : decode cX8_isAt 19 = .ok (.caload, 1) := by decide +kernel
theorem dX8_isAt_20 : decode cX8_isAt 20 = .ok (.iload_n 1, 1) := by decide +kernel
theorem dX8_isAt_21 : decode cX8_isAt 21 = .ok (.if_icmp .lt 20, 3) := by decide +kernel
theorem dX8_isAt_24 : decode cX8_isAt 24 = .ok (.aload_n 0, 1) := by decide +kernel
theorem dX8_isAt_25 : decode cX8_isAt 25 = .ok (.getfield 26, 3) := by decide +kernel
theorem dX8_isAt_28 : decode cX8_isAt 28 = .ok (.aload_n 0, 1) := by decide +kernel
theorem dX8_isAt_29 : decode cX8_isAt 29 = .ok (.getfield 82, 3) := by decide +kernel
theorem dX8_isAt_32 : decode cX8_isAt 32 = .ok (.caload, 1) := by decide +kernel
theorem dX8_isAt_33 : decode cX8_isAt 33 = .ok (.iload_n 2, 1) := by decide +kernel
theorem dX8_isAt_34 : decode cX8_isAt 34 = .ok (.if_icmp .gt 7, 3) := by decide +kernel
theorem dX8_isAt_37 : decode cX8_isAt 37 = .ok (.iconst 1, 1) := by decide +kernel
theorem dX8_isAt_38 : decode cX8_isAt 38 = .ok (.goto 4, 3) := by decide +kernel
theorem dX8_isAt_41 : decode cX8_isAt 41 = .ok (.iconst 0, 1) := by decide +kernel
theorem dX8_isAt_42 : decode cX8_isAt 42 = .ok (.ireturn, 1) := by decide +kernel
theorem dX8_sortOf_0 : decode cX8_sortOf 0 = .ok (.iload_n 0, 1) := by decide +kernel
theorem dX8_sortOf_1 : decode cX8_sortOf 1 = .ok (.bipush 46, 2) := by decide +kernel
theorem dX8_sortOf_3 : decode cX8_sortOf 3 = .ok (.if_icmp .ne 7, 3) := by decide +kernel
theorem dX8_sortOf_6 : decode cX8_sortOf 6 = .ok (.iconst 0, 1) := by decide +kernel
theorem dX8_sortOf_7 : decode cX8_sortOf 7 = .ok (.goto 25, 3) := by decide +kernel
theorem dX8_sortOf_10 : decode cX8_sortOf 10 = .ok (.iload_n 0, 1) := by decide +kernel
theorem dX8_sortOf_11 : decode cX8_sortOf 11 = .ok (.bipush 45, 2) := by decide +kernel
theorem dX8_sortOf_13 : decode cX8_sortOf 13 = .ok (.if_icmp .ne 7, 3) := by decide +kernel
theorem dX8_sortOf_16 : decode cX8_sortOf 16 = .ok (.iconst 1, 1) := by decide +kernel
theorem dX8_sortOf_17 : decode cX8_sortOf 17 = .ok (.goto 15, 3) := by decide +kernel
theorem dX8_sortOf_20 : decode cX8_sortOf 20 = .ok (.iload_n 0, 1) := by decide +kernel
theorem dX8_sortOf_21 : decode cX8_sortOf 21 = .ok (.bipush 111, 2) := by decide +kernel
theorem dX8_sortOf_23 : decode cX8_sortOf 23 = .ok (.if_icmp .ne 7, 3) := by decide +kernel
theorem dX8_sortOf_26 : decode cX8_sortOf 26 = .ok (.iconst 2, 1) := by decide +kernel
theorem dX8_sortOf_27 : decode cX8_sortOf 27 = .ok (.goto 5, 3) := by decide +kernel
theorem dX8_sortOf_30 : decode cX8_sortOf 30 = .ok (.bipush (-5), 2) := by decide +kernel
theorem dX8_sortOf_32 : decode cX8_sortOf 32 = .ok (.ireturn, 1) := by decide +kernel
set_option maxRecDepth 20000 in
theorem ggX8_times_X8_isAt : GoodIn wsX8_times wsX8_isAt := goodIn_r _ [7, 2, 8, 1, 9, 10, 11, 12, 13, 14, 15, 16, 17, 18, 19, 20, 21, 22, 23, 24, 25, 26, 27, 28] (by decide +kernel) (by decide +kernel)
set_option maxRecDepth 20000 in
theorem gX8_times_X8_isAt : GoodIn wsX8_times (wsV RX8 85 RX8 yX8_isAt wsX8_isAt) := goodIn_app (goodIn_of _ (by decide +kernel)) ggX8_times_X8_isAt
theorem dX8_times_0 : decode cX8_times 0 = .ok (.aload_n 0, 1) := by decide +kernel
theorem dX8_times_1 : decode cX8_times 1 = .ok (.bipush 49, 2) := by decide +kernel
theorem dX8_times_3 : decode cX8_times 3 = .ok (.bipush 57, 2) := by decide +kernel
theorem dX8_times_5 : decode cX8_times 5 = .ok (.invokevirtual 85, 3) := by decide +kernel
theorem dX8_times_8 : decode cX8_times 8 = .ok (.ifCond .ne 6, 3) := by decide +kernel
theorem dX8_times_11 : decode cX8_times 11 = .ok (.bipush (-5), 2) := by decide +kernel
theorem dX8_times_13 : decode cX8_times 13 = .ok (.ireturn, 1) := by decide +kernel
theorem dX8_times_14 : decode cX8_times 14 = .ok (.aload_n 0, 1) := by decide +kernel
theorem dX8_times_15 : decode cX8_times 15 = .ok (.getfield 26, 3) := by decide +kernel
theorem dX8_times_18 : decode cX8_times 18 = .ok (.aload_n 0, 1) := by decide +kernel
theorem dX8_times_19 : decode cX8_times 19 = .ok (.getfield 82, 3) := by decide +kernel
theorem dX8_times_22 : decode cX8_times 22 = .ok (.caload, 1) := by decide +kernel
theorem dX8_times_23 : decode cX8_times 23 = .ok (.bipush 48, 2) := by decide +kernel
theorem dX8_times_25 : decode cX8_times 25 = .ok (.isub, 1) := by decide +kernel
theorem dX8_times_26 : decode cX8_times 26 = .ok (.istore_n 1, 1) := by decide +kernel
theorem dX8_times_27 : decode cX8_times 27 = .ok (.aload_n 0, 1) := by decide +kernel
theorem dX8_times_28 : decode cX8_times 28 = .ok (.dup, 1) := by decide +kernel
theorem dX8_times_29 : decode cX8_times 29 = .ok (.getfield 82, 3) := by decide +kernel
theorem dX8_times_32 : decode cX8_times 32 = .ok (.iconst 1, 1) := by decide +kernel
theorem dX8_times_33 : decode cX8_times 33 = .ok (.iadd, 1) := by decide +kernel
theorem dX8_times_34 : decode cX8_times 34 = .ok (.putfield 82, 3) := by decide +kernel
theorem dX8_times_37 : decode cX8_times 37 = .ok (.aload_n 0, 1) := by decide +kernel
theorem dX8_times_38 : decode cX8_times 38 = .ok (.bipush 48, 2) := by decide +kernel
theorem dX8_times_40 : decode cX8_times 40 = .ok (.bipush 57, 2) := by decide +kernel
theorem dX8_times_42 : decode cX8_times 42 = .ok (.invokevirtual 85, 3) := by decide +kernel
theorem dX8_times_45 : decode cX8_times 45 = .ok (.ifCond .eq 53, 3) := by decide +kernel
theorem dX8_times_48 : decode cX8_times 48 = .ok (.bipush 10, 2) := by decide +kernel
theorem dX8_times_50 : decode cX8_times 50 = .ok (.iload_n 1, 1) := by decide +kernel
theorem dX8_times_51 : decode cX8_times 51 = .ok (.imul, 1) := by decide +kernel
theorem dX8_times_52 : decode cX8_times 52 = .ok (.aload_n 0, 1) := by decide +kernel
theorem dX8_times_53 : decode cX8_times 53 = .ok (.getfield 26, 3) := by decide +kernel
theorem dX8_times_56 : decode cX8_times 56 = .ok (.aload_n 0, 1) := by decide +kernel
theorem dX8_times_57 : decode cX8_times 57 = .ok (.getfield 82, 3) := by decide +kernel
theorem dX8_times_60 : decode cX8_times 60 = .ok (.caload, 1) := by decide +kernel
theorem dX8_times_61 : decode cX8_times 61 = .ok (.iadd, 1) := by decide +kernel
theorem dX8_times_62 : decode cX8_times 62 = .ok (.bipush 48, 2) := by decide +kernel
theorem dX8_times_64 : decode cX8_times 64 = .ok (.isub, 1) := by decide +kernel
theorem dX8_times_65 : decode cX8_times 65 = .ok (.bipush 96, 2) := by decide +kernel
theorem dX8_times_67 : decode cX8_times 67 = .ok (.if_icmp .gt 31, 3) := by decide +kernel
theorem dX8_times_70 : decode cX8_times 70 = .ok (.bipush 10, 2) := by decide +kernel
theorem dX8_times_72 : decode cX8_times 72 = .ok (.iload_n 1, 1) := by decide +kernel
theorem dX8_times_73 : decode cX8_times 73 = .ok (.imul, 1) := by decide +kernel
theorem dX8_times_74 : decode cX8_times 74 = .ok (.aload_n 0, 1) := by decide +kernel
theorem dX8_times_75 : decode cX8_times 75 = .ok (.getfield 26, 3) := by decide +kernel
theorem dX8_times_78 : decode cX8_times 78 = .ok (.aload_n 0, 1) := by decide +kernel
theorem dX8_times_79 : decode cX8_times 79 = .ok (.getfield 82, 3) := by decide +kernel
theorem dX8_times_82 : decode cX8_times 82 = .ok (.caload, 1) := by decide +kernel
theorem dX8_times_83 : decode cX8_times 83 = .ok (.iadd, 1) := by decide +kernel
theorem dX8_times_84 : decode cX8_times 84 = .ok (.bipush 48, 2) := by decide +kernel
theorem dX8_times_86 : decode cX8_times 86 = .ok (.isub, 1) := by decide +kernel
theorem dX8_times_87 : decode cX8_times 87 = .ok (.istore_n 1, 1) := by decide +kernel
theorem dX8_times_88 : decode cX8_times 88 = .ok (.aload_n 0, 1) := by decide +kernel
theorem dX8_times_89 : decode cX8_times 89 = .ok (.dup, 1) := by decide +kernel
theorem dX8_times_90 : decode cX8_times 90 = .ok (.getfield 82, 3) := by decide +kernel
theorem dX8_times_93 : decode cX8_times 93 = .ok (.iconst 1, 1) := by decide +kernel
theorem dX8_times_94 : decode cX8_times 94 = .ok (.iadd, 1) := by decide +kernel
theorem dX8_times_95 : decode cX8_times 95 = .ok (.putfield 82, 3) := by decide +kernel
theorem dX8_times_98 : decode cX8_times 98 = .ok (.iload_n 1, 1) := by decide +kernel
theorem dX8_times_99 : decode cX8_times 99 = .ok (.iconst 2, 1) := by decide +kernel
theorem dX8_times_100 : decode cX8_times 100 = .ok (.if_icmp .lt 14, 3) := by decide +kernel
theorem dX8_times_103 : decode cX8_times 103 = .ok (.aload_n 0, 1) := by decide +kernel
theorem dX8_times_104 : decode cX8_times 104 = .ok (.bipush 48, 2) := by decide +kernel
theorem dX8_times_106 : decode cX8_times 106 = .ok (.bipush 57, 2) := by decide +kernel
theorem dX8_times_108 : decode cX8_times 108 = .ok (.invokevirtual 85, 3) := by decide +kernel
theorem dX8_times_111 : decode cX8_times 111 = .ok (.ifCond .eq 8, 3) := by decide +kernel
theorem dX8_times_114 : decode cX8_times 114 = .ok (.bipush (-5), 2) := by decide +kernel
theorem dX8_times_116 : decode cX8_times 116 = .ok (.goto 4, 3) := by decide +kernel
theorem dX8_times_119 : decode cX8_times 119 = .ok (.iload_n 1, 1) := by decide +kernel
theorem dX8_times_120 : decode cX8_times 120 = .ok (.ireturn, 1) := by decide +kernel
set_option maxRecDepth 20000 in
theorem ggX8_readText_X8_sortOf : GoodIn wsX8_readText wsX8_sortOf := goodIn_r _ [11] (by decide +kernel) (by decide +kernel)
set_option maxRecDepth 20000 in
theorem gX8_readText_X8_sortOf : GoodIn wsX8_readText (va_wsS RX8 89 yX8_sortOf wsX8_sortOf) := goodIn_app (goodIn_of _ (by decide +kernel)) ggX8_readText_X8_sortOf
set_option maxRecDepth 20000 in
theorem ggX8_readText_X8_isAt : GoodIn wsX8_readText wsX8_isAt := goodIn_r _ [15, 1, 2, 3, 20, 21, 22, 23, 24, 25, 26, 27, 28, 29, 30, 31, 32, 33, 34, 35, 36, 37, 38, 39] (by decide +kernel) (by decide +kernel)
set_option maxRecDepth 20000 in
theorem gX8_readText_X8_isAt : GoodIn wsX8_readText (wsV RX8 85 RX8 yX8_isAt wsX8_isAt) := goodIn_app (goodIn_of _ (by decide +kernel)) ggX8_readText_X8_isAt
set_option maxRecDepth 20000 in
theorem ggX8_readText_X8_times : GoodIn wsX8_readText wsX8_times := goodIn_r _ [19, 3, 1, 12, 13, 14, 10, 15, 2, 20, 21, 22, 23, 24, 25, 26, 27, 28, 29, 30, 31, 32, 33, 34, 35, 36, 37, 38, 39] (by decide +kernel) (by decide +kernel)
set_option maxRecDepth 20000 in
theorem gX8_readText_X8_times : GoodIn wsX8_readText (wsV RX8 93 RX8 yX8_times wsX8_times) := goodIn_app (goodIn_of _ (by decide +kernel)) ggX8_readText_X8_times
theorem dX8_readText_0 : decode cX8_readText 0 = .ok (.aload_n 0, 1) := by decide +kernel
theorem dX8_readText_1 : decode cX8_readText 1 = .ok (.iconst 0, 1) := by decide +kernel
theorem dX8_readText_2 : decode cX8_readText 2 = .ok (.putfield 82, 3) := by decide +kernel
theorem dX8_readText_5 : decode cX8_readText 5 = .ok (.iconst 0, 1) := by decide +kernel
theorem dX8_readText_6 : decode cX8_readText 6 = .ok (.istore_n 1, 1) := by decide +kernel
theorem dX8_readText_7 : decode cX8_readText 7 = .ok (.iconst 0, 1) := by decide +kernel
theorem dX8_readText_8 : decode cX8_readText 8 = .ok (.istore_n 2, 1) := by decide +kernel
theorem dX8_readText_9 : decode cX8_readText 9 = .ok (.bipush (-5), 2) := by decide +kernel
theorem dX8_readText_11 : decode cX8_readText 11 = .ok (.istore_n 3, 1) := by decide +kernel
theorem dX8_readText_12 : decode cX8_readText 12 = .ok (.aload_n 0, 1) := by decide +kernel
theorem dX8_readText_13 : decode cX8_readText 13 = .ok (.getfield 82, 3) := by decide +kernel
theorem dX8_readText_16 : decode cX8_readText 16 = .ok (.aload_n 0, 1) := by decide +kernel
theorem dX8_readText_17 : decode cX8_readText 17 = .ok (.getfield 79, 3) := by decide +kernel
theorem dX8_readText_20 : decode cX8_readText 20 = .ok (.if_icmp .lt 10, 3) := by decide +kernel
theorem dX8_readText_23 : decode cX8_readText 23 = .ok (.aload_n 0, 1) := by decide +kernel
theorem dX8_readText_24 : decode cX8_readText 24 = .ok (.getfield 82, 3) := by decide +kernel
theorem dX8_readText_27 : decode cX8_readText 27 = .ok (.ifCond .ne 207, 3) := by decide +kernel
theorem dX8_readText_30 : decode cX8_readText 30 = .ok (.aload_n 0, 1) := by decide +kernel
theorem dX8_readText_31 : decode cX8_readText 31 = .ok (.getfield 82, 3) := by decide +kernel
theorem dX8_readText_34 : decode cX8_readText 34 = .ok (.aload_n 0, 1) := by decide +kernel
theorem dX8_readText_35 : decode cX8_readText 35 = .ok (.getfield 79, 3) := by decide +kernel
theorem dX8_readText_38 : decode cX8_readText 38 = .ok (.if_icmp .eq 18, 3) := by decide +kernel
theorem dX8_readText_41 : decode cX8_readText 41 = .ok (.aload_n 0, 1) := by decide +kernel
theorem dX8_readText_42 : decode cX8_readText 42 = .ok (.getfield 26, 3) := by decide +kernel
theorem dX8_readText_45 : decode cX8_readText 45 = .ok (.aload_n 0, 1) := by decide +kernel
theorem dX8_readText_46 : decode cX8_readText 46 = .ok (.getfield 82, 3) := by decide +kernel
theorem dX8_readText_49 : decode cX8_readText 49 = .ok (.caload, 1) := by decide +kernel
theorem dX8_readText_50 : decode cX8_readText 50 = .ok (.invokestatic 89, 3) := by decide +kernel
theorem dX8_readText_53 : decode cX8_readText 53 = .ok (.ifCond .ge 8, 3) := by decide +kernel
theorem dX8_readText_56 : decode cX8_readText 56 = .ok (.aload_n 0, 1) := by decide +kernel
theorem dX8_readText_57 : decode cX8_readText 57 = .ok (.getfield 82, 3) := by decide +kernel
theorem dX8_readText_60 : decode cX8_readText 60 = .ok (.ireturn, 1) := by decide +kernel
theorem dX8_readText_61 : decode cX8_readText 61 = .ok (.aload_n 0, 1) := by decide +kernel
theorem dX8_readText_62 : decode cX8_readText 62 = .ok (.getfield 82, 3) := by decide +kernel
theorem dX8_readText_65 : decode cX8_readText 65 = .ok (.istore 4, 2) := by decide +kernel
theorem dX8_readText_67 : decode cX8_readText 67 = .ok (.aload_n 0, 1) := by decide +kernel
theorem dX8_readText_68 : decode cX8_readText 68 = .ok (.getfield 30, 3) := by decide +kernel
theorem dX8_readText_71 : decode cX8_readText 71 = .ok (.iload_n 1, 1) := by decide +kernel
theorem dX8_readText_72 : decode cX8_readText 72 = .ok (.aload_n 0, 1) := by decide +kernel
theorem dX8_readText_73 : decode cX8_readText 73 = .ok (.getfield 26, 3) := by decide +kernel
theorem dX8_readText_76 : decode cX8_readText 76 = .ok (.aload_n 0, 1) := by decide +kernel
theorem dX8_readText_77 : decode cX8_readText 77 = .ok (.getfield 82, 3) := by decide +kernel
theorem dX8_readText_80 : decode cX8_readText 80 = .ok (.caload, 1) := by decide +kernel
theorem dX8_readText_81 : decode cX8_readText 81 = .ok (.invokestatic 89, 3) := by decide +kernel
theorem dX8_readText_84 : decode cX8_readText 84 = .ok (.iastore, 1) := by decide +kernel
theorem dX8_readText_85 : decode cX8_readText 85 = .ok (.aload_n 0, 1) := by decide +kernel
theorem dX8_readText_86 : decode cX8_readText 86 = .ok (.getfield 33, 3) := by decide +kernel
theorem dX8_readText_89 : decode cX8_readText 89 = .ok (.iload_n 1, 1) := by decide +kernel
theorem dX8_readText_90 : decode cX8_readText 90 = .ok (.iconst 2, 1) := by decide +kernel
theorem dX8_readText_91 : decode cX8_readText 91 = .ok (.iastore, 1) := by decide +kernel
theorem dX8_readText_92 : decode cX8_readText 92 = .ok (.aload_n 0, 1) := by decide +kernel
theorem dX8_readText_93 : decode cX8_readText 93 = .ok (.getfield 36, 3) := by decide +kernel
theorem dX8_readText_96 : decode cX8_readText 96 = .ok (.iload_n 1, 1) := by decide +kernel
theorem dX8_readText_97 : decode cX8_readText 97 = .ok (.iconst 1, 1) := by decide +kernel
theorem dX8_readText_98 : decode cX8_readText 98 = .ok (.iastore, 1) := by decide +kernel
theorem dX8_readText_99 : decode cX8_readText 99 = .ok (.aload_n 0, 1) := by decide +kernel
theorem dX8_readText_100 : decode cX8_readText 100 = .ok (.dup, 1) := by decide +kernel
theorem dX8_readText_101 : decode cX8_readText 101 = .ok (.getfield 82, 3) := by decide +kernel
theorem dX8_readText_104 : decode cX8_readText 104 = .ok (.iconst 1, 1) := by decide +kernel
theorem dX8_readText_105 : decode cX8_readText 105 = .ok (.iadd, 1) := by decide +kernel
theorem dX8_readText_106 : decode cX8_readText 106 = .ok (.putfield 82, 3) := by decide +kernel
theorem dX8_readText_109 : decode cX8_readText 109 = .ok (.aload_n 0, 1) := by decide +kernel
theorem dX8_readText_110 : decode cX8_readText 110 = .ok (.getfield 30, 3) := by decide +kernel
theorem dX8_readText_113 : decode cX8_readText 113 = .ok (.iload_n 1, 1) := by decide +kernel
theorem dX8_readText_114 : decode cX8_readText 114 = .ok (.iaload, 1) := by decide +kernel
theorem dX8_readText_115 : decode cX8_readText 115 = .ok (.ifCond .le 42, 3) := by decide +kernel
theorem dX8_readText_118 : decode cX8_readText 118 = .ok (.aload_n 0, 1) := by decide +kernel
theorem dX8_readText_119 : decode cX8_readText 119 = .ok (.bipush 49, 2) := by decide +kernel
theorem dX8_readText_121 : decode cX8_readText 121 = .ok (.bipush 53, 2) := by decide +kernel
theorem dX8_readText_123 : decode cX8_readText 123 = .ok (.invokevirtual 85, 3) := by decide +kernel
theorem dX8_readText_126 : decode cX8_readText 126 = .ok (.ifCond .eq 31, 3) := by decide +kernel
theorem dX8_readText_129 : decode cX8_readText 129 = .ok (.aload_n 0, 1) := by decide +kernel
theorem dX8_readText_130 : decode cX8_readText 130 = .ok (.getfield 33, 3) := by decide +kernel
theorem dX8_readText_133 : decode cX8_readText 133 = .ok (.iload_n 1, 1) := by decide +kernel
theorem dX8_readText_134 : decode cX8_readText 134 = .ok (.aload_n 0, 1) := by decide +kernel
theorem dX8_readText_135 : decode cX8_readText 135 = .ok (.getfield 26, 3) := by decide +kernel
theorem dX8_readText_138 : decode cX8_readText 138 = .ok (.aload_n 0, 1) := by decide +kernel
theorem dX8_readText_139 : decode cX8_readText 139 = .ok (.getfield 82, 3) := by decide +kernel
theorem dX8_readText_142 : decode cX8_readText 142 = .ok (.caload, 1) := by decide +kernel
theorem dX8_readText_143 : decode cX8_readText 143 = .ok (.bipush 48, 2) := by decide +kernel
theorem dX8_readText_145 : decode cX8_readText 145 = .ok (.isub, 1) := by decide +kernel
theorem dX8_readText_146 : decode cX8_readText 146 = .ok (.iastore, 1) := by decide +kernel
theorem dX8_readText_147 : decode cX8_readText 147 = .ok (.aload_n 0, 1) := by decide +kernel
theorem dX8_readText_148 : decode cX8_readText 148 = .ok (.dup, 1) := by decide +kernel
theorem dX8_readText_149 : decode cX8_readText 149 = .ok (.getfield 82, 3) := by decide +kernel
theorem dX8_readText_152 : decode cX8_readText 152 = .ok (.iconst 1, 1) := by decide +kernel
theorem dX8_readText_153 : decode cX8_readText 153 = .ok (.iadd, 1) := by decide +kernel
theorem dX8_readText_154 : decode cX8_readText 154 = .ok (.putfield 82, 3) := by decide +kernel
theorem dX8_readText_157 : decode cX8_readText 157 = .ok (.aload_n 0, 1) := by decide +kernel
theorem dX8_readText_158 : decode cX8_readText 158 = .ok (.bipush 120, 2) := by decide +kernel
theorem dX8_readText_160 : decode cX8_readText 160 = .ok (.bipush 120, 2) := by decide +kernel
theorem dX8_readText_162 : decode cX8_readText 162 = .ok (.invokevirtual 85, 3) := by decide +kernel
theorem dX8_readText_165 : decode cX8_readText 165 = .ok (.ifCond .eq 37, 3) := by decide +kernel
theorem dX8_readText_168 : decode cX8_readText 168 = .ok (.aload_n 0, 1) := by decide +kernel
theorem dX8_readText_169 : decode cX8_readText 169 = .ok (.dup, 1) := by decide +kernel
theorem dX8_readText_170 : decode cX8_readText 170 = .ok (.getfield 82, 3) := by decide +kernel
theorem dX8_readText_173 : decode cX8_readText 173 = .ok (.iconst 1, 1) := by decide +kernel
theorem dX8_readText_174 : decode cX8_readText 174 = .ok (.iadd, 1) := by decide +kernel
theorem dX8_readText_175 : decode cX8_readText 175 = .ok (.putfield 82, 3) := by decide +kernel
theorem dX8_readText_178 : decode cX8_readText 178 = .ok (.aload_n 0, 1) := by decide +kernel
theorem dX8_readText_179 : decode cX8_readText 179 = .ok (.getfield 36, 3) := by decide +kernel
theorem dX8_readText_182 : decode cX8_readText 182 = .ok (.iload_n 1, 1) := by decide +kernel
theorem dX8_readText_183 : decode cX8_readText 183 = .ok (.aload_n 0, 1) := by decide +kernel
theorem dX8_readText_184 : decode cX8_readText 184 = .ok (.invokevirtual 93, 3) := by decide +kernel
theorem dX8_readText_187 : decode cX8_readText 187 = .ok (.iastore, 1) := by decide +kernel
theorem dX8_readText_188 : decode cX8_readText 188 = .ok (.aload_n 0, 1) := by decide +kernel
theorem dX8_readText_189 : decode cX8_readText 189 = .ok (.getfield 36, 3) := by decide +kernel
theorem dX8_readText_192 : decode cX8_readText 192 = .ok (.iload_n 1, 1) := by decide +kernel
theorem dX8_readText_193 : decode cX8_readText 193 = .ok (.iaload, 1) := by decide +kernel
theorem dX8_readText_194 : decode cX8_readText 194 = .ok (.ifCond .ge 8, 3) := by decide +kernel
theorem dX8_readText_197 : decode cX8_readText 197 = .ok (.aload_n 0, 1) := by decide +kernel
theorem dX8_readText_198 : decode cX8_readText 198 = .ok (.getfield 82, 3) := by decide +kernel
theorem dX8_readText_201 : decode cX8_readText 201 = .ok (.ireturn, 1) := by decide +kernel
theorem dX8_readText_202 : decode cX8_readText 202 = .ok (.iload_n 2, 1) := by decide +kernel
theorem dX8_readText_203 : decode cX8_readText 203 = .ok (.aload_n 0, 1) := by decide +kernel
theorem dX8_readText_204 : decode cX8_readText 204 = .ok (.getfield 36, 3) := by decide +kernel
theorem dX8_readText_207 : decode cX8_readText 207 = .ok (.iload_n 1, 1) := by decide +kernel
theorem dX8_readText_208 : decode cX8_readText 208 = .ok (.iaload, 1) := by decide +kernel
theorem dX8_readText_209 : decode cX8_readText 209 = .ok (.iadd, 1) := by decide +kernel
theorem dX8_readText_210 : decode cX8_readText 210 = .ok (.istore_n 2, 1) := by decide +kernel
theorem dX8_readText_211 : decode cX8_readText 211 = .ok (.iload_n 2, 1) := by decide +kernel
theorem dX8_readText_212 : decode cX8_readText 212 = .ok (.bipush 96, 2) := by decide +kernel
theorem dX8_readText_214 : decode cX8_readText 214 = .ok (.if_icmp .le 12, 3) := by decide +kernel
theorem dX8_readText_217 : decode cX8_readText 217 = .ok (.iload_n 3, 1) := by decide +kernel
theorem dX8_readText_218 : decode cX8_readText 218 = .ok (.ifCond .ge 8, 3) := by decide +kernel
theorem dX8_readText_221 : decode cX8_readText 221 = .ok (.iload 4, 2) := by decide +kernel
theorem dX8_readText_223 : decode cX8_readText 223 = .ok (.goto 4, 3) := by decide +kernel
theorem dX8_readText_226 : decode cX8_readText 226 = .ok (.iload_n 3, 1) := by decide +kernel
theorem dX8_readText_227 : decode cX8_readText 227 = .ok (.istore_n 3, 1) := by decide +kernel
theorem dX8_readText_228 : decode cX8_readText 228 = .ok (.iinc 1 1, 3) := by decide +kernel
theorem dX8_readText_231 : decode cX8_readText 231 = .ok (.goto (-219), 3) := by decide +kernel
theorem dX8_readText_234 : decode cX8_readText 234 = .ok (.aload_n 0, 1) := by decide +kernel
theorem dX8_readText_235 : decode cX8_readText 235 = .ok (.iload_n 1, 1) := by decide +kernel
theorem dX8_readText_236 : decode cX8_readText 236 = .ok (.putfield 96, 3) := by decide +kernel
theorem dX8_readText_239 : decode cX8_readText 239 = .ok (.iload_n 3, 1) := by decide +kernel
theorem dX8_readText_240 : decode cX8_readText 240 = .ok (.ireturn, 1) := by decide +kernel
set_option maxRecDepth 20000 in
theorem ggX8_read_X8_readText : GoodIn wsX8_read wsX8_readText := goodIn_r _ [10, 11, 12, 13, 4, 5, 2, 1, 14, 15, 9, 16, 17, 18, 19, 20, 21, 22, 23, 24, 40, 41, 42, 43, 44, 45, 46, 47, 48, 49, 50, 51, 52, 53, 54, 55, 56, 57, 58, 59] (by decide +kernel) (by decide +kernel)
set_option maxRecDepth 20000 in
theorem gX8_read_X8_readText : GoodIn wsX8_read (wsV RX8 99 RX8 yX8_readText wsX8_readText) := goodIn_app (goodIn_of _ (by decide +kernel)) ggX8_read_X8_readText
set_option maxRecDepth 20000 in
theorem ggX8_read_X8_begin : GoodIn wsX8_read wsX8_begin := goodIn_r _ [28, 29, 3, 40, 41, 42, 43, 44, 45, 46, 47, 48, 49, 50, 51, 52, 53, 54, 55, 56, 57, 58, 59] (by decide +kernel) (by decide +kernel)
set_option maxRecDepth 20000 in
theorem gX8_read_X8_begin : GoodIn wsX8_read (wsV RX8 69 RX8 yX8_begin wsX8_begin) := goodIn_app (goodIn_of _ (by decide +kernel)) ggX8_read_X8_begin
set_option maxRecDepth 20000 in
theorem ggX8_read_X8_clearMarks : GoodIn wsX8_read wsX8_clearMarks := goodIn_r _ [33, 3, 40, 41, 42, 43, 44, 45, 46, 47, 48, 49, 50, 51, 52, 53, 54, 55, 56, 57, 58, 59] (by decide +kernel) (by decide +kernel)
set_option maxRecDepth 20000 in
theorem gX8_read_X8_clearMarks : GoodIn wsX8_read (wsV RX8 102 RX8 yX8_clearMarks wsX8_clearMarks) := goodIn_app (goodIn_of _ (by decide +kernel)) ggX8_read_X8_clearMarks
set_option maxRecDepth 20000 in
theorem ggX8_read_X8_done : GoodIn wsX8_read wsX8_done := goodIn_r _ [37, 38, 39, 29, 40, 41, 42, 43, 44, 45, 46, 47, 48, 49, 50, 51, 52, 53, 54, 55, 56, 57, 58, 59] (by decide +kernel) (by decide +kernel)
set_option maxRecDepth 20000 in
theorem gX8_read_X8_done : GoodIn wsX8_read (wsV RX8 72 RX8 yX8_done wsX8_done) := goodIn_app (goodIn_of _ (by decide +kernel)) ggX8_read_X8_done
theorem dX8_read_0 : decode cX8_read 0 = .ok (.aload_n 0, 1) := by decide +kernel
theorem dX8_read_1 : decode cX8_read 1 = .ok (.invokevirtual 99, 3) := by decide +kernel
theorem dX8_read_4 : decode cX8_read 4 = .ok (.istore_n 1, 1) := by decide +kernel
theorem dX8_read_5 : decode cX8_read 5 = .ok (.iload_n 1, 1) := by decide +kernel
theorem dX8_read_6 : decode cX8_read 6 = .ok (.ifCond .lt 8, 3) := by decide +kernel
theorem dX8_read_9 : decode cX8_read 9 = .ok (.bipush (-100), 2) := by decide +kernel
theorem dX8_read_11 : decode cX8_read 11 = .ok (.iload_n 1, 1) := by decide +kernel
theorem dX8_read_12 : decode cX8_read 12 = .ok (.isub, 1) := by decide +kernel
theorem dX8_read_13 : decode cX8_read 13 = .ok (.ireturn, 1) := by decide +kernel
theorem dX8_read_14 : decode cX8_read 14 = .ok (.aload_n 0, 1) := by decide +kernel
theorem dX8_read_15 : decode cX8_read 15 = .ok (.invokevirtual 69, 3) := by decide +kernel
theorem dX8_read_18 : decode cX8_read 18 = .ok (.iconst 0, 1) := by decide +kernel
theorem dX8_read_19 : decode cX8_read 19 = .ok (.istore_n 2, 1) := by decide +kernel
theorem dX8_read_20 : decode cX8_read 20 = .ok (.iconst 0, 1) := by decide +kernel
theorem dX8_read_21 : decode cX8_read 21 = .ok (.istore_n 3, 1) := by decide +kernel
theorem dX8_read_22 : decode cX8_read 22 = .ok (.iload_n 3, 1) := by decide +kernel
theorem dX8_read_23 : decode cX8_read 23 = .ok (.aload_n 0, 1) := by decide +kernel
theorem dX8_read_24 : decode cX8_read 24 = .ok (.getfield 96, 3) := by decide +kernel
theorem dX8_read_27 : decode cX8_read 27 = .ok (.if_icmp .ge 61, 3) := by decide +kernel
theorem dX8_read_30 : decode cX8_read 30 = .ok (.iconst 0, 1) := by decide +kernel
theorem dX8_read_31 : decode cX8_read 31 = .ok (.istore 4, 2) := by decide +kernel
theorem dX8_read_33 : decode cX8_read 33 = .ok (.iload 4, 2) := by decide +kernel
theorem dX8_read_35 : decode cX8_read 35 = .ok (.aload_n 0, 1) := by decide +kernel
theorem dX8_read_36 : decode cX8_read 36 = .ok (.getfield 36, 3) := by decide +kernel
theorem dX8_read_39 : decode cX8_read 39 = .ok (.iload_n 3, 1) := by decide +kernel
theorem dX8_read_40 : decode cX8_read 40 = .ok (.iaload, 1) := by decide +kernel
theorem dX8_read_41 : decode cX8_read 41 = .ok (.if_icmp .ge 41, 3) := by decide +kernel
theorem dX8_read_44 : decode cX8_read 44 = .ok (.aload_n 0, 1) := by decide +kernel
theorem dX8_read_45 : decode cX8_read 45 = .ok (.getfield 7, 3) := by decide +kernel
theorem dX8_read_48 : decode cX8_read 48 = .ok (.iconst 4, 1) := by decide +kernel
theorem dX8_read_49 : decode cX8_read 49 = .ok (.iload_n 2, 1) := by decide +kernel
theorem dX8_read_50 : decode cX8_read 50 = .ok (.iadd, 1) := by decide +kernel
theorem dX8_read_51 : decode cX8_read 51 = .ok (.aload_n 0, 1) := by decide +kernel
theorem dX8_read_52 : decode cX8_read 52 = .ok (.getfield 30, 3) := by decide +kernel
theorem dX8_read_55 : decode cX8_read 55 = .ok (.iload_n 3, 1) := by decide +kernel
theorem dX8_read_56 : decode cX8_read 56 = .ok (.iaload, 1) := by decide +kernel
theorem dX8_read_57 : decode cX8_read 57 = .ok (.iastore, 1) := by decide +kernel
theorem dX8_read_58 : decode cX8_read 58 = .ok (.aload_n 0, 1) := by decide +kernel
theorem dX8_read_59 : decode cX8_read 59 = .ok (.getfield 7, 3) := by decide +kernel
theorem dX8_read_62 : decode cX8_read 62 = .ok (.bipush 100, 2) := by decide +kernel
theorem dX8_read_64 : decode cX8_read 64 = .ok (.iload_n 2, 1) := by decide +kernel
theorem dX8_read_65 : decode cX8_read 65 = .ok (.iadd, 1) := by decide +kernel
theorem dX8_read_66 : decode cX8_read 66 = .ok (.aload_n 0, 1) := by decide +kernel
theorem dX8_read_67 : decode cX8_read 67 = .ok (.getfield 33, 3) := by decide +kernel
theorem dX8_read_70 : decode cX8_read 70 = .ok (.iload_n 3, 1) := by decide +kernel
theorem dX8_read_71 : decode cX8_read 71 = .ok (.iaload, 1) := by decide +kernel
theorem dX8_read_72 : decode cX8_read 72 = .ok (.iastore, 1) := by decide +kernel
theorem dX8_read_73 : decode cX8_read 73 = .ok (.iinc 2 1, 3) := by decide +kernel
theorem dX8_read_76 : decode cX8_read 76 = .ok (.iinc 4 1, 3) := by decide +kernel
theorem dX8_read_79 : decode cX8_read 79 = .ok (.goto (-46), 3) := by decide +kernel
theorem dX8_read_82 : decode cX8_read 82 = .ok (.iinc 3 1, 3) := by decide +kernel
theorem dX8_read_85 : decode cX8_read 85 = .ok (.goto (-63), 3) := by decide +kernel
theorem dX8_read_88 : decode cX8_read 88 = .ok (.aload_n 0, 1) := by decide +kernel
theorem dX8_read_89 : decode cX8_read 89 = .ok (.getfield 7, 3) := by decide +kernel
theorem dX8_read_92 : decode cX8_read 92 = .ok (.iconst 0, 1) := by decide +kernel
theorem dX8_read_93 : decode cX8_read 93 = .ok (.iload_n 2, 1) := by decide +kernel
theorem dX8_read_94 : decode cX8_read 94 = .ok (.iastore, 1) := by decide +kernel
theorem dX8_read_95 : decode cX8_read 95 = .ok (.aload_n 0, 1) := by decide +kernel
theorem dX8_read_96 : decode cX8_read 96 = .ok (.getfield 7, 3) := by decide +kernel
theorem dX8_read_99 : decode cX8_read 99 = .ok (.iconst 2, 1) := by decide +kernel
theorem dX8_read_100 : decode cX8_read 100 = .ok (.iconst 0, 1) := by decide +kernel
theorem dX8_read_101 : decode cX8_read 101 = .ok (.iastore, 1) := by decide +kernel
theorem dX8_read_102 : decode cX8_read 102 = .ok (.aload_n 0, 1) := by decide +kernel
theorem dX8_read_103 : decode cX8_read 103 = .ok (.invokevirtual 102, 3) := by decide +kernel
theorem dX8_read_106 : decode cX8_read 106 = .ok (.aload_n 0, 1) := by decide +kernel
theorem dX8_read_107 : decode cX8_read 107 = .ok (.iload_n 2, 1) := by decide +kernel
theorem dX8_read_108 : decode cX8_read 108 = .ok (.invokevirtual 72, 3) := by decide +kernel
theorem dX8_read_111 : decode cX8_read 111 = .ok (.ireturn, 1) := by decide +kernel
set_option maxRecDepth 20000 in
theorem ggX8_setLoudness_X8_noBeat : GoodIn wsX8_setLoudness wsX8_noBeat := goodIn_r _ [6, 7, 8, 9, 5, 10, 1, 11, 12, 13, 29, 30, 31, 32, 33, 34, 35, 36, 37, 38, 39, 40, 41, 42, 43, 44, 45, 46, 47, 48] (by decide +kernel) (by decide +kernel)
set_option maxRecDepth 20000 in
theorem gX8_setLoudness_X8_noBeat : GoodIn wsX8_setLoudness (wsV RX8 105 RX8 yX8_noBeat wsX8_noBeat) := goodIn_app (goodIn_of _ (by decide +kernel)) ggX8_setLoudness_X8_noBeat
set_option maxRecDepth 20000 in
theorem ggX8_setLoudness_X8_in : GoodIn wsX8_setLoudness wsX8_in := goodIn_r _ [13] (by decide +kernel) (by decide +kernel)
set_option maxRecDepth 20000 in
theorem gX8_setLoudness_X8_in : GoodIn wsX8_setLoudness (va_wsS RX8 61 yX8_in wsX8_in) := goodIn_app (goodIn_of _ (by decide +kernel)) ggX8_setLoudness_X8_in
set_option maxRecDepth 20000 in
theorem ggX8_setLoudness_X8_begin : GoodIn wsX8_setLoudness wsX8_begin := goodIn_r _ [17, 18, 1, 29, 30, 31, 32, 33, 34, 35, 36, 37, 38, 39, 40, 41, 42, 43, 44, 45, 46, 47, 48] (by decide +kernel) (by decide +kernel)
set_option maxRecDepth 20000 in
theorem gX8_setLoudness_X8_begin : GoodIn wsX8_setLoudness (wsV RX8 69 RX8 yX8_begin wsX8_begin) := goodIn_app (goodIn_of _ (by decide +kernel)) ggX8_setLoudness_X8_begin
set_option maxRecDepth 20000 in
theorem ggX8_setLoudness_X8_isRest : GoodIn wsX8_setLoudness wsX8_isRest := goodIn_r _ [22, 1, 29, 30, 31, 32, 33, 34, 35, 36, 37, 38, 39, 40, 41, 42, 43, 44, 45, 46, 47, 48] (by decide +kernel) (by decide +kernel)
set_option maxRecDepth 20000 in
theorem gX8_setLoudness_X8_isRest : GoodIn wsX8_setLoudness (wsV RX8 109 RX8 yX8_isRest wsX8_isRest) := goodIn_app (goodIn_of _ (by decide +kernel)) ggX8_setLoudness_X8_isRest
set_option maxRecDepth 20000 in
theorem ggX8_setLoudness_X8_done : GoodIn wsX8_setLoudness wsX8_done := goodIn_r _ [26, 27, 28, 18, 29, 30, 31, 32, 33, 34, 35, 36, 37, 38, 39, 40, 41, 42, 43, 44, 45, 46, 47, 48] (by decide +kernel) (by decide +kernel)
set_option maxRecDepth 20000 in
theorem gX8_setLoudness_X8_done : GoodIn wsX8_setLoudness (wsV RX8 72 RX8 yX8_done wsX8_done) := goodIn_app (goodIn_of _ (by decide +kernel)) ggX8_setLoudness_X8_done
theorem dX8_setLoudness_0 : decode cX8_setLoudness 0 = .ok (.aload_n 0, 1) := by decide +kernel
theorem dX8_setLoudness_1 : decode cX8_setLoudness 1 = .ok (.iload_n 1, 1) := by decide +kernel
theorem dX8_setLoudness_2 : decode cX8_setLoudness 2 = .ok (.invokevirtual 105, 3) := by decide +kernel
theorem dX8_setLoudness_5 : decode cX8_setLoudness 5 = .ok (.ifCond .ne 11, 3) := by decide +kernel
theorem dX8_setLoudness_8 : decode cX8_setLoudness 8 = .ok (.aload_n 0, 1) := by decide +kernel
theorem dX8_setLoudness_9 : decode cX8_setLoudness 9 = .ok (.iload_n 2, 1) := by decide +kernel
theorem dX8_setLoudness_10 : decode cX8_setLoudness 10 = .ok (.invokevirtual 105, 3) := by decide +kernel
theorem dX8_setLoudness_13 : decode cX8_setLoudness 13 = .ok (.ifCond .eq 5, 3) := by decide +kernel
theorem dX8_setLoudness_16 : decode cX8_setLoudness 16 = .ok (.iconst (-1), 1) := by decide +kernel
theorem dX8_setLoudness_17 : decode cX8_setLoudness 17 = .ok (.ireturn, 1) := by decide +kernel
theorem dX8_setLoudness_18 : decode cX8_setLoudness 18 = .ok (.iload_n 2, 1) := by decide +kernel
theorem dX8_setLoudness_19 : decode cX8_setLoudness 19 = .ok (.iload_n 1, 1) := by decide +kernel
theorem dX8_setLoudness_20 : decode cX8_setLoudness 20 = .ok (.if_icmp .lt 12, 3) := by decide +kernel
theorem dX8_setLoudness_23 : decode cX8_setLoudness 23 = .ok (.iload_n 3, 1) := by decide +kernel
theorem dX8_setLoudness_24 : decode cX8_setLoudness 24 = .ok (.iconst 1, 1) := by decide +kernel
theorem dX8_setLoudness_25 : decode cX8_setLoudness 25 = .ok (.iconst 5, 1) := by decide +kernel
theorem dX8_setLoudness_26 : decode cX8_setLoudness 26 = .ok (.invokestatic 61, 3) := by decide +kernel
theorem dX8_setLoudness_29 : decode cX8_setLoudness 29 = .ok (.ifCond .ne 6, 3) := by decide +kernel
theorem dX8_setLoudness_32 : decode cX8_setLoudness 32 = .ok (.bipush (-2), 2) := by decide +kernel
theorem dX8_setLoudness_34 : decode cX8_setLoudness 34 = .ok (.ireturn, 1) := by decide +kernel
theorem dX8_setLoudness_35 : decode cX8_setLoudness 35 = .ok (.aload_n 0, 1) := by decide +kernel
theorem dX8_setLoudness_36 : decode cX8_setLoudness 36 = .ok (.invokevirtual 69, 3) := by decide +kernel
theorem dX8_setLoudness_39 : decode cX8_setLoudness 39 = .ok (.iconst 0, 1) := by decide +kernel
theorem dX8_setLoudness_40 : decode cX8_setLoudness 40 = .ok (.istore 4, 2) := by decide +kernel
theorem dX8_setLoudness_42 : decode cX8_setLoudness 42 = .ok (.iload_n 1, 1) := by decide +kernel
theorem dX8_setLoudness_43 : decode cX8_setLoudness 43 = .ok (.istore 5, 2) := by decide +kernel
theorem dX8_setLoudness_45 : decode cX8_setLoudness 45 = .ok (.iload 5, 2) := by decide +kernel
theorem dX8_setLoudness_47 : decode cX8_setLoudness 47 = .ok (.iload_n 2, 1) := by decide +kernel
theorem dX8_setLoudness_48 : decode cX8_setLoudness 48 = .ok (.if_icmp .gt 39, 3) := by decide +kernel
theorem dX8_setLoudness_51 : decode cX8_setLoudness 51 = .ok (.aload_n 0, 1) := by decide +kernel
theorem dX8_setLoudness_52 : decode cX8_setLoudness 52 = .ok (.getfield 7, 3) := by decide +kernel
theorem dX8_setLoudness_55 : decode cX8_setLoudness 55 = .ok (.bipush 100, 2) := by decide +kernel
theorem dX8_setLoudness_57 : decode cX8_setLoudness 57 = .ok (.iload 5, 2) := by decide +kernel
theorem dX8_setLoudness_59 : decode cX8_setLoudness 59 = .ok (.iadd, 1) := by decide +kernel
theorem dX8_setLoudness_60 : decode cX8_setLoudness 60 = .ok (.iload_n 3, 1) := by decide +kernel
theorem dX8_setLoudness_61 : decode cX8_setLoudness 61 = .ok (.iastore, 1) := by decide +kernel
theorem dX8_setLoudness_62 : decode cX8_setLoudness 62 = .ok (.iload 4, 2) := by decide +kernel
theorem dX8_setLoudness_64 : decode cX8_setLoudness 64 = .ok (.aload_n 0, 1) := by decide +kernel
theorem dX8_setLoudness_65 : decode cX8_setLoudness 65 = .ok (.iload 5, 2) := by decide +kernel
theorem dX8_setLoudness_67 : decode cX8_setLoudness 67 = .ok (.invokevirtual 109, 3) := by decide +kernel
theorem dX8_setLoudness_70 : decode cX8_setLoudness 70 = .ok (.ifCond .eq 7, 3) := by decide +kernel
theorem dX8_setLoudness_73 : decode cX8_setLoudness 73 = .ok (.iconst 0, 1) := by decide +kernel
theorem dX8_setLoudness_74 : decode cX8_setLoudness 74 = .ok (.goto 4, 3) := by decide +kernel
theorem dX8_setLoudness_77 : decode cX8_setLoudness 77 = .ok (.iconst 1, 1) := by decide +kernel
theorem dX8_setLoudness_78 : decode cX8_setLoudness 78 = .ok (.iadd, 1) := by decide +kernel
theorem dX8_setLoudness_79 : decode cX8_setLoudness 79 = .ok (.istore 4, 2) := by decide +kernel
theorem dX8_setLoudness_81 : decode cX8_setLoudness 81 = .ok (.iinc 5 1, 3) := by decide +kernel
theorem dX8_setLoudness_84 : decode cX8_setLoudness 84 = .ok (.goto (-39), 3) := by decide +kernel
theorem dX8_setLoudness_87 : decode cX8_setLoudness 87 = .ok (.aload_n 0, 1) := by decide +kernel
theorem dX8_setLoudness_88 : decode cX8_setLoudness 88 = .ok (.iload 4, 2) := by decide +kernel
theorem dX8_setLoudness_90 : decode cX8_setLoudness 90 = .ok (.invokevirtual 72, 3) := by decide +kernel
theorem dX8_setLoudness_93 : decode cX8_setLoudness 93 = .ok (.ireturn, 1) := by decide +kernel
set_option maxRecDepth 20000 in
theorem ggX8_setSort_X8_noBeat : GoodIn wsX8_setSort wsX8_noBeat := goodIn_r _ [6, 7, 8, 9, 5, 10, 1, 11, 12, 13, 25, 26, 27, 28, 29, 30, 31, 32, 33, 34, 35, 36, 37, 38, 39, 40, 41, 42, 43, 44] (by decide +kernel) (by decide +kernel)
set_option maxRecDepth 20000 in
theorem gX8_setSort_X8_noBeat : GoodIn wsX8_setSort (wsV RX8 105 RX8 yX8_noBeat wsX8_noBeat) := goodIn_app (goodIn_of _ (by decide +kernel)) ggX8_setSort_X8_noBeat
set_option maxRecDepth 20000 in
theorem ggX8_setSort_X8_in : GoodIn wsX8_setSort wsX8_in := goodIn_r _ [13] (by decide +kernel) (by decide +kernel)
set_option maxRecDepth 20000 in
theorem gX8_setSort_X8_in : GoodIn wsX8_setSort (va_wsS RX8 61 yX8_in wsX8_in) := goodIn_app (goodIn_of _ (by decide +kernel)) ggX8_setSort_X8_in
set_option maxRecDepth 20000 in
theorem ggX8_setSort_X8_begin : GoodIn wsX8_setSort wsX8_begin := goodIn_r _ [17, 18, 1, 25, 26, 27, 28, 29, 30, 31, 32, 33, 34, 35, 36, 37, 38, 39, 40, 41, 42, 43, 44] (by decide +kernel) (by decide +kernel)
set_option maxRecDepth 20000 in
theorem gX8_setSort_X8_begin : GoodIn wsX8_setSort (wsV RX8 69 RX8 yX8_begin wsX8_begin) := goodIn_app (goodIn_of _ (by decide +kernel)) ggX8_setSort_X8_begin
set_option maxRecDepth 20000 in
theorem ggX8_setSort_X8_done : GoodIn wsX8_setSort wsX8_done := goodIn_r _ [22, 23, 24, 18, 25, 26, 27, 28, 29, 30, 31, 32, 33, 34, 35, 36, 37, 38, 39, 40, 41, 42, 43, 44] (by decide +kernel) (by decide +kernel)
set_option maxRecDepth 20000 in
theorem gX8_setSort_X8_done : GoodIn wsX8_setSort (wsV RX8 72 RX8 yX8_done wsX8_done) := goodIn_app (goodIn_of _ (by decide +kernel)) ggX8_setSort_X8_done
theorem dX8_setSort_0 : decode cX8_setSort 0 = .ok (.aload_n 0, 1) := by decide +kernel
theorem dX8_setSort_1 : decode cX8_setSort 1 = .ok (.iload_n 1, 1) := by decide +kernel
theorem dX8_setSort_2 : decode cX8_setSort 2 = .ok (.invokevirtual 105, 3) := by decide +kernel
theorem dX8_setSort_5 : decode cX8_setSort 5 = .ok (.ifCond .eq 5, 3) := by decide +kernel
theorem dX8_setSort_8 : decode cX8_setSort 8 = .ok (.iconst (-1), 1) := by decide +kernel
theorem dX8_setSort_9 : decode cX8_setSort 9 = .ok (.ireturn, 1) := by decide +kernel
theorem dX8_setSort_10 : decode cX8_setSort 10 = .ok (.iload_n 2, 1) := by decide +kernel
theorem dX8_setSort_11 : decode cX8_setSort 11 = .ok (.iconst 0, 1) := by decide +kernel
theorem dX8_setSort_12 : decode cX8_setSort 12 = .ok (.iconst 2, 1) := by decide +kernel
theorem dX8_setSort_13 : decode cX8_setSort 13 = .ok (.invokestatic 61, 3) := by decide +kernel
theorem dX8_setSort_16 : decode cX8_setSort 16 = .ok (.ifCond .ne 6, 3) := by decide +kernel
theorem dX8_setSort_19 : decode cX8_setSort 19 = .ok (.bipush (-2), 2) := by decide +kernel
theorem dX8_setSort_21 : decode cX8_setSort 21 = .ok (.ireturn, 1) := by decide +kernel
theorem dX8_setSort_22 : decode cX8_setSort 22 = .ok (.aload_n 0, 1) := by decide +kernel
theorem dX8_setSort_23 : decode cX8_setSort 23 = .ok (.invokevirtual 69, 3) := by decide +kernel
theorem dX8_setSort_26 : decode cX8_setSort 26 = .ok (.aload_n 0, 1) := by decide +kernel
theorem dX8_setSort_27 : decode cX8_setSort 27 = .ok (.getfield 7, 3) := by decide +kernel
theorem dX8_setSort_30 : decode cX8_setSort 30 = .ok (.iconst 4, 1) := by decide +kernel
theorem dX8_setSort_31 : decode cX8_setSort 31 = .ok (.iload_n 1, 1) := by decide +kernel
theorem dX8_setSort_32 : decode cX8_setSort 32 = .ok (.iadd, 1) := by decide +kernel
theorem dX8_setSort_33 : decode cX8_setSort 33 = .ok (.iaload, 1) := by decide +kernel
theorem dX8_setSort_34 : decode cX8_setSort 34 = .ok (.istore_n 3, 1) := by decide +kernel
theorem dX8_setSort_35 : decode cX8_setSort 35 = .ok (.aload_n 0, 1) := by decide +kernel
theorem dX8_setSort_36 : decode cX8_setSort 36 = .ok (.getfield 7, 3) := by decide +kernel
theorem dX8_setSort_39 : decode cX8_setSort 39 = .ok (.iconst 4, 1) := by decide +kernel
theorem dX8_setSort_40 : decode cX8_setSort 40 = .ok (.iload_n 1, 1) := by decide +kernel
theorem dX8_setSort_41 : decode cX8_setSort 41 = .ok (.iadd, 1) := by decide +kernel
theorem dX8_setSort_42 : decode cX8_setSort 42 = .ok (.iload_n 2, 1) := by decide +kernel
theorem dX8_setSort_43 : decode cX8_setSort 43 = .ok (.iastore, 1) := by decide +kernel
theorem dX8_setSort_44 : decode cX8_setSort 44 = .ok (.aload_n 0, 1) := by decide +kernel
theorem dX8_setSort_45 : decode cX8_setSort 45 = .ok (.iload_n 3, 1) := by decide +kernel
theorem dX8_setSort_46 : decode cX8_setSort 46 = .ok (.invokevirtual 72, 3) := by decide +kernel
theorem dX8_setSort_49 : decode cX8_setSort 49 = .ok (.ireturn, 1) := by decide +kernel
set_option maxRecDepth 20000 in
theorem ggX8_firstOf_X8_isRest : GoodIn wsX8_firstOf wsX8_isRest := goodIn_r _ [6, 1, 7, 8, 9, 10, 11, 12, 13, 14, 15, 16, 17, 18, 19, 20, 21, 22, 23, 24, 25, 26] (by decide +kernel) (by decide +kernel)
set_option maxRecDepth 20000 in
theorem gX8_firstOf_X8_isRest : GoodIn wsX8_firstOf (wsV RX8 109 RX8 yX8_isRest wsX8_isRest) := goodIn_app (goodIn_of _ (by decide +kernel)) ggX8_firstOf_X8_isRest
theorem dX8_firstOf_0 : decode cX8_firstOf 0 = .ok (.aload_n 0, 1) := by decide +kernel
theorem dX8_firstOf_1 : decode cX8_firstOf 1 = .ok (.iload_n 1, 1) := by decide +kernel
theorem dX8_firstOf_2 : decode cX8_firstOf 2 = .ok (.invokevirtual 109, 3) := by decide +kernel
theorem dX8_firstOf_5 : decode cX8_firstOf 5 = .ok (.ifCond .eq 6, 3) := by decide +kernel
theorem dX8_firstOf_8 : decode cX8_firstOf 8 = .ok (.bipush (-5), 2) := by decide +kernel
theorem dX8_firstOf_10 : decode cX8_firstOf 10 = .ok (.ireturn, 1) := by decide +kernel
theorem dX8_firstOf_11 : decode cX8_firstOf 11 = .ok (.iload_n 1, 1) := by decide +kernel
theorem dX8_firstOf_12 : decode cX8_firstOf 12 = .ok (.istore_n 2, 1) := by decide +kernel
theorem dX8_firstOf_13 : decode cX8_firstOf 13 = .ok (.aload_n 0, 1) := by decide +kernel
theorem dX8_firstOf_14 : decode cX8_firstOf 14 = .ok (.getfield 7, 3) := by decide +kernel
theorem dX8_firstOf_17 : decode cX8_firstOf 17 = .ok (.iconst 4, 1) := by decide +kernel
theorem dX8_firstOf_18 : decode cX8_firstOf 18 = .ok (.iload_n 2, 1) := by decide +kernel
theorem dX8_firstOf_19 : decode cX8_firstOf 19 = .ok (.iadd, 1) := by decide +kernel
theorem dX8_firstOf_20 : decode cX8_firstOf 20 = .ok (.iaload, 1) := by decide +kernel
theorem dX8_firstOf_21 : decode cX8_firstOf 21 = .ok (.iconst 1, 1) := by decide +kernel
theorem dX8_firstOf_22 : decode cX8_firstOf 22 = .ok (.if_icmp .ne 23, 3) := by decide +kernel
theorem dX8_firstOf_25 : decode cX8_firstOf 25 = .ok (.iload_n 2, 1) := by decide +kernel
theorem dX8_firstOf_26 : decode cX8_firstOf 26 = .ok (.ifCond .le 19, 3) := by decide +kernel
theorem dX8_firstOf_29 : decode cX8_firstOf 29 = .ok (.aload_n 0, 1) := by decide +kernel
theorem dX8_firstOf_30 : decode cX8_firstOf 30 = .ok (.iload_n 2, 1) := by decide +kernel
theorem dX8_firstOf_31 : decode cX8_firstOf 31 = .ok (.iconst 1, 1) := by decide +kernel
theorem dX8_firstOf_32 : decode cX8_firstOf 32 = .ok (.isub, 1) := by decide +kernel
theorem dX8_firstOf_33 : decode cX8_firstOf 33 = .ok (.invokevirtual 109, 3) := by decide +kernel
theorem dX8_firstOf_36 : decode cX8_firstOf 36 = .ok (.ifCond .ne 9, 3) := by decide +kernel
theorem dX8_firstOf_39 : decode cX8_firstOf 39 = .ok (.iinc 2 (-1), 3) := by decide +kernel
theorem dX8_firstOf_42 : decode cX8_firstOf 42 = .ok (.goto (-29), 3) := by decide +kernel
theorem dX8_firstOf_45 : decode cX8_firstOf 45 = .ok (.iload_n 2, 1) := by decide +kernel
theorem dX8_firstOf_46 : decode cX8_firstOf 46 = .ok (.ireturn, 1) := by decide +kernel
set_option maxRecDepth 20000 in
theorem ggX8_addSinger_X8_in : GoodIn wsX8_addSinger wsX8_in := goodIn_r _ [5] (by decide +kernel) (by decide +kernel)
set_option maxRecDepth 20000 in
theorem gX8_addSinger_X8_in : GoodIn wsX8_addSinger (va_wsS RX8 61 yX8_in wsX8_in) := goodIn_app (goodIn_of _ (by decide +kernel)) ggX8_addSinger_X8_in
set_option maxRecDepth 20000 in
theorem ggX8_addSinger_X8_singers : GoodIn wsX8_addSinger wsX8_singers := goodIn_r _ [9, 1, 21, 22, 23, 24, 25, 26, 27, 28, 29, 30, 31, 32, 33, 34, 35, 36, 37, 38, 39, 40] (by decide +kernel) (by decide +kernel)
set_option maxRecDepth 20000 in
theorem gX8_addSinger_X8_singers : GoodIn wsX8_addSinger (wsV RX8 76 RX8 yX8_singers wsX8_singers) := goodIn_app (goodIn_of _ (by decide +kernel)) ggX8_addSinger_X8_singers
set_option maxRecDepth 20000 in
theorem ggX8_addSinger_X8_begin : GoodIn wsX8_addSinger wsX8_begin := goodIn_r _ [13, 14, 1, 21, 22, 23, 24, 25, 26, 27, 28, 29, 30, 31, 32, 33, 34, 35, 36, 37, 38, 39, 40] (by decide +kernel) (by decide +kernel)
set_option maxRecDepth 20000 in
theorem gX8_addSinger_X8_begin : GoodIn wsX8_addSinger (wsV RX8 69 RX8 yX8_begin wsX8_begin) := goodIn_app (goodIn_of _ (by decide +kernel)) ggX8_addSinger_X8_begin
set_option maxRecDepth 20000 in
theorem ggX8_addSinger_X8_done : GoodIn wsX8_addSinger wsX8_done := goodIn_r _ [18, 19, 20, 14, 21, 22, 23, 24, 25, 26, 27, 28, 29, 30, 31, 32, 33, 34, 35, 36, 37, 38, 39, 40] (by decide +kernel) (by decide +kernel)
set_option maxRecDepth 20000 in
theorem gX8_addSinger_X8_done : GoodIn wsX8_addSinger (wsV RX8 72 RX8 yX8_done wsX8_done) := goodIn_app (goodIn_of _ (by decide +kernel)) ggX8_addSinger_X8_done
theorem dX8_addSinger_0 : decode cX8_addSinger 0 = .ok (.iload_n 1, 1) := by decide +kernel
theorem dX8_addSinger_1 : decode cX8_addSinger 1 = .ok (.iconst 4, 1) := by decide +kernel
theorem dX8_addSinger_2 : decode cX8_addSinger 2 = .ok (.bipush 40, 2) := by decide +kernel
theorem dX8_addSinger_4 : decode cX8_addSinger 4 = .ok (.invokestatic 61, 3) := by decide +kernel
theorem dX8_addSinger_7 : decode cX8_addSinger 7 = .ok (.ifCond .eq 13, 3) := by decide +kernel
theorem dX8_addSinger_10 : decode cX8_addSinger 10 = .ok (.iload_n 2, 1) := by decide +kernel
theorem dX8_addSinger_11 : decode cX8_addSinger 11 = .ok (.iconst 1, 1) := by decide +kernel
theorem dX8_addSinger_12 : decode cX8_addSinger 12 = .ok (.bipush 10, 2) := by decide +kernel
theorem dX8_addSinger_14 : decode cX8_addSinger 14 = .ok (.invokestatic 61, 3) := by decide +kernel
theorem dX8_addSinger_17 : decode cX8_addSinger 17 = .ok (.ifCond .ne 6, 3) := by decide +kernel
theorem dX8_addSinger_20 : decode cX8_addSinger 20 = .ok (.bipush (-2), 2) := by decide +kernel
theorem dX8_addSinger_22 : decode cX8_addSinger 22 = .ok (.ireturn, 1) := by decide +kernel
theorem dX8_addSinger_23 : decode cX8_addSinger 23 = .ok (.aload_n 0, 1) := by decide +kernel
theorem dX8_addSinger_24 : decode cX8_addSinger 24 = .ok (.invokevirtual 76, 3) := by decide +kernel
theorem dX8_addSinger_27 : decode cX8_addSinger 27 = .ok (.bipush 12, 2) := by decide +kernel
theorem dX8_addSinger_29 : decode cX8_addSinger 29 = .ok (.if_icmp .ne 6, 3) := by decide +kernel
theorem dX8_addSinger_32 : decode cX8_addSinger 32 = .ok (.bipush (-3), 2) := by decide +kernel
theorem dX8_addSinger_34 : decode cX8_addSinger 34 = .ok (.ireturn, 1) := by decide +kernel
theorem dX8_addSinger_35 : decode cX8_addSinger 35 = .ok (.aload_n 0, 1) := by decide +kernel
theorem dX8_addSinger_36 : decode cX8_addSinger 36 = .ok (.invokevirtual 69, 3) := by decide +kernel
theorem dX8_addSinger_39 : decode cX8_addSinger 39 = .ok (.aload_n 0, 1) := by decide +kernel
theorem dX8_addSinger_40 : decode cX8_addSinger 40 = .ok (.invokevirtual 76, 3) := by decide +kernel
theorem dX8_addSinger_43 : decode cX8_addSinger 43 = .ok (.istore_n 3, 1) := by decide +kernel
theorem dX8_addSinger_44 : decode cX8_addSinger 44 = .ok (.aload_n 0, 1) := by decide +kernel
theorem dX8_addSinger_45 : decode cX8_addSinger 45 = .ok (.getfield 7, 3) := by decide +kernel
theorem dX8_addSinger_48 : decode cX8_addSinger 48 = .ok (.sipush 196, 3) := by decide +kernel
theorem dX8_addSinger_51 : decode cX8_addSinger 51 = .ok (.iconst 3, 1) := by decide +kernel
theorem dX8_addSinger_52 : decode cX8_addSinger 52 = .ok (.iload_n 3, 1) := by decide +kernel
theorem dX8_addSinger_53 : decode cX8_addSinger 53 = .ok (.imul, 1) := by decide +kernel
theorem dX8_addSinger_54 : decode cX8_addSinger 54 = .ok (.iadd, 1) := by decide +kernel
theorem dX8_addSinger_55 : decode cX8_addSinger 55 = .ok (.iload_n 1, 1) := by decide +kernel
theorem dX8_addSinger_56 : decode cX8_addSinger 56 = .ok (.iastore, 1) := by decide +kernel
theorem dX8_addSinger_57 : decode cX8_addSinger 57 = .ok (.aload_n 0, 1) := by decide +kernel
theorem dX8_addSinger_58 : decode cX8_addSinger 58 = .ok (.getfield 7, 3) := by decide +kernel
theorem dX8_addSinger_61 : decode cX8_addSinger 61 = .ok (.sipush 196, 3) := by decide +kernel
theorem dX8_addSinger_64 : decode cX8_addSinger 64 = .ok (.iconst 3, 1) := by decide +kernel
theorem dX8_addSinger_65 : decode cX8_addSinger 65 = .ok (.iload_n 3, 1) := by decide +kernel
theorem dX8_addSinger_66 : decode cX8_addSinger 66 = .ok (.imul, 1) := by decide +kernel
theorem dX8_addSinger_67 : decode cX8_addSinger 67 = .ok (.iadd, 1) := by decide +kernel
theorem dX8_addSinger_68 : decode cX8_addSinger 68 = .ok (.iconst 1, 1) := by decide +kernel
theorem dX8_addSinger_69 : decode cX8_addSinger 69 = .ok (.iadd, 1) := by decide +kernel
theorem dX8_addSinger_70 : decode cX8_addSinger 70 = .ok (.iload_n 2, 1) := by decide +kernel
theorem dX8_addSinger_71 : decode cX8_addSinger 71 = .ok (.iastore, 1) := by decide +kernel
theorem dX8_addSinger_72 : decode cX8_addSinger 72 = .ok (.aload_n 0, 1) := by decide +kernel
theorem dX8_addSinger_73 : decode cX8_addSinger 73 = .ok (.getfield 7, 3) := by decide +kernel
theorem dX8_addSinger_76 : decode cX8_addSinger 76 = .ok (.sipush 196, 3) := by decide +kernel
theorem dX8_addSinger_79 : decode cX8_addSinger 79 = .ok (.iconst 3, 1) := by decide +kernel
theorem dX8_addSinger_80 : decode cX8_addSinger 80 = .ok (.iload_n 3, 1) := by decide +kernel
theorem dX8_addSinger_81 : decode cX8_addSinger 81 = .ok (.imul, 1) := by decide +kernel
theorem dX8_addSinger_82 : decode cX8_addSinger 82 = .ok (.iadd, 1) := by decide +kernel
theorem dX8_addSinger_83 : decode cX8_addSinger 83 = .ok (.iconst 2, 1) := by decide +kernel
theorem dX8_addSinger_84 : decode cX8_addSinger 84 = .ok (.iadd, 1) := by decide +kernel
theorem dX8_addSinger_85 : decode cX8_addSinger 85 = .ok (.iconst 1, 1) := by decide +kernel
theorem dX8_addSinger_86 : decode cX8_addSinger 86 = .ok (.iastore, 1) := by decide +kernel
theorem dX8_addSinger_87 : decode cX8_addSinger 87 = .ok (.iconst 0, 1) := by decide +kernel
theorem dX8_addSinger_88 : decode cX8_addSinger 88 = .ok (.istore 4, 2) := by decide +kernel
theorem dX8_addSinger_90 : decode cX8_addSinger 90 = .ok (.iload 4, 2) := by decide +kernel
theorem dX8_addSinger_92 : decode cX8_addSinger 92 = .ok (.iconst 3, 1) := by decide +kernel
theorem dX8_addSinger_93 : decode cX8_addSinger 93 = .ok (.if_icmp .ge 25, 3) := by decide +kernel
theorem dX8_addSinger_96 : decode cX8_addSinger 96 = .ok (.aload_n 0, 1) := by decide +kernel
theorem dX8_addSinger_97 : decode cX8_addSinger 97 = .ok (.getfield 7, 3) := by decide +kernel
theorem dX8_addSinger_100 : decode cX8_addSinger 100 = .ok (.sipush 232, 3) := by decide +kernel
theorem dX8_addSinger_103 : decode cX8_addSinger 103 = .ok (.iconst 3, 1) := by decide +kernel
theorem dX8_addSinger_104 : decode cX8_addSinger 104 = .ok (.iload_n 3, 1) := by decide +kernel
theorem dX8_addSinger_105 : decode cX8_addSinger 105 = .ok (.imul, 1) := by decide +kernel
theorem dX8_addSinger_106 : decode cX8_addSinger 106 = .ok (.iadd, 1) := by decide +kernel
theorem dX8_addSinger_107 : decode cX8_addSinger 107 = .ok (.iload 4, 2) := by decide +kernel
theorem dX8_addSinger_109 : decode cX8_addSinger 109 = .ok (.iadd, 1) := by decide +kernel
theorem dX8_addSinger_110 : decode cX8_addSinger 110 = .ok (.iconst 0, 1) := by decide +kernel
theorem dX8_addSinger_111 : decode cX8_addSinger 111 = .ok (.iastore, 1) := by decide +kernel
theorem dX8_addSinger_112 : decode cX8_addSinger 112 = .ok (.iinc 4 1, 3) := by decide +kernel
theorem dX8_addSinger_115 : decode cX8_addSinger 115 = .ok (.goto (-25), 3) := by decide +kernel
theorem dX8_addSinger_118 : decode cX8_addSinger 118 = .ok (.aload_n 0, 1) := by decide +kernel
theorem dX8_addSinger_119 : decode cX8_addSinger 119 = .ok (.getfield 7, 3) := by decide +kernel
theorem dX8_addSinger_122 : decode cX8_addSinger 122 = .ok (.iconst 1, 1) := by decide +kernel
theorem dX8_addSinger_123 : decode cX8_addSinger 123 = .ok (.dup2, 1) := by decide +kernel
theorem dX8_addSinger_124 : decode cX8_addSinger 124 = .ok (.iaload, 1) := by decide +kernel
theorem dX8_addSinger_125 : decode cX8_addSinger 125 = .ok (.iconst 1, 1) := by decide +kernel
theorem dX8_addSinger_126 : decode cX8_addSinger 126 = .ok (.iadd, 1) := by decide +kernel
theorem dX8_addSinger_127 : decode cX8_addSinger 127 = .ok (.iastore, 1) := by decide +kernel
theorem dX8_addSinger_128 : decode cX8_addSinger 128 = .ok (.aload_n 0, 1) := by decide +kernel
theorem dX8_addSinger_129 : decode cX8_addSinger 129 = .ok (.iload_n 3, 1) := by decide +kernel
theorem dX8_addSinger_130 : decode cX8_addSinger 130 = .ok (.invokevirtual 72, 3) := by decide +kernel
theorem dX8_addSinger_133 : decode cX8_addSinger 133 = .ok (.ireturn, 1) := by decide +kernel
set_option maxRecDepth 20000 in
theorem ggX8_presentOnes_X8_singers : GoodIn wsX8_presentOnes wsX8_singers := goodIn_r _ [5, 6, 11, 12, 13, 14, 15, 16, 17, 18, 19, 20, 21, 22, 23, 24, 25, 26, 27, 28, 29, 30] (by decide +kernel) (by decide +kernel)
set_option maxRecDepth 20000 in
theorem gX8_presentOnes_X8_singers : GoodIn wsX8_presentOnes (wsV RX8 76 RX8 yX8_singers wsX8_singers) := goodIn_app (goodIn_of _ (by decide +kernel)) ggX8_presentOnes_X8_singers
set_option maxRecDepth 20000 in
theorem ggX8_presentOnes_X8_of : GoodIn wsX8_presentOnes wsX8_of := goodIn_r _ [10, 6, 11, 12, 13, 14, 15, 16, 17, 18, 19, 20, 21, 22, 23, 24, 25, 26, 27, 28, 29, 30] (by decide +kernel) (by decide +kernel)
set_option maxRecDepth 20000 in
theorem gX8_presentOnes_X8_of : GoodIn wsX8_presentOnes (wsV RX8 112 RX8 yX8_of wsX8_of) := goodIn_app (goodIn_of _ (by decide +kernel)) ggX8_presentOnes_X8_of
theorem dX8_presentOnes_0 : decode cX8_presentOnes 0 = .ok (.iconst 0, 1) := by decide +kernel
theorem dX8_presentOnes_1 : decode cX8_presentOnes 1 = .ok (.istore_n 1, 1) := by decide +kernel
theorem dX8_presentOnes_2 : decode cX8_presentOnes 2 = .ok (.iconst 0, 1) := by decide +kernel
theorem dX8_presentOnes_3 : decode cX8_presentOnes 3 = .ok (.istore_n 2, 1) := by decide +kernel
theorem dX8_presentOnes_4 : decode cX8_presentOnes 4 = .ok (.iload_n 2, 1) := by decide +kernel
theorem dX8_presentOnes_5 : decode cX8_presentOnes 5 = .ok (.aload_n 0, 1) := by decide +kernel
theorem dX8_presentOnes_6 : decode cX8_presentOnes 6 = .ok (.invokevirtual 76, 3) := by decide +kernel
theorem dX8_presentOnes_9 : decode cX8_presentOnes 9 = .ok (.if_icmp .ge 18, 3) := by decide +kernel
theorem dX8_presentOnes_12 : decode cX8_presentOnes 12 = .ok (.iload_n 1, 1) := by decide +kernel
theorem dX8_presentOnes_13 : decode cX8_presentOnes 13 = .ok (.aload_n 0, 1) := by decide +kernel
theorem dX8_presentOnes_14 : decode cX8_presentOnes 14 = .ok (.iload_n 2, 1) := by decide +kernel
theorem dX8_presentOnes_15 : decode cX8_presentOnes 15 = .ok (.iconst 2, 1) := by decide +kernel
theorem dX8_presentOnes_16 : decode cX8_presentOnes 16 = .ok (.invokevirtual 112, 3) := by decide +kernel
theorem dX8_presentOnes_19 : decode cX8_presentOnes 19 = .ok (.iadd, 1) := by decide +kernel
theorem dX8_presentOnes_20 : decode cX8_presentOnes 20 = .ok (.istore_n 1, 1) := by decide +kernel
theorem dX8_presentOnes_21 : decode cX8_presentOnes 21 = .ok (.iinc 2 1, 3) := by decide +kernel
theorem dX8_presentOnes_24 : decode cX8_presentOnes 24 = .ok (.goto (-20), 3) := by decide +kernel
theorem dX8_presentOnes_27 : decode cX8_presentOnes 27 = .ok (.iload_n 1, 1) := by decide +kernel
theorem dX8_presentOnes_28 : decode cX8_presentOnes 28 = .ok (.ireturn, 1) := by decide +kernel
set_option maxRecDepth 20000 in
theorem ggX8_setPresent_X8_noSinger : GoodIn wsX8_setPresent wsX8_noSinger := goodIn_r _ [6, 7, 8, 9, 5, 10, 1, 11, 12, 13, 33, 34, 35, 36, 37, 38, 39, 40, 41, 42, 43, 44, 45, 46, 47, 48, 49, 50, 51, 52] (by decide +kernel) (by decide +kernel)
set_option maxRecDepth 20000 in
theorem gX8_setPresent_X8_noSinger : GoodIn wsX8_setPresent (wsV RX8 116 RX8 yX8_noSinger wsX8_noSinger) := goodIn_app (goodIn_of _ (by decide +kernel)) ggX8_setPresent_X8_noSinger
set_option maxRecDepth 20000 in
theorem ggX8_setPresent_X8_of : GoodIn wsX8_setPresent wsX8_of := goodIn_r _ [17, 1, 33, 34, 35, 36, 37, 38, 39, 40, 41, 42, 43, 44, 45, 46, 47, 48, 49, 50, 51, 52] (by decide +kernel) (by decide +kernel)
set_option maxRecDepth 20000 in
theorem gX8_setPresent_X8_of : GoodIn wsX8_setPresent (wsV RX8 112 RX8 yX8_of wsX8_of) := goodIn_app (goodIn_of _ (by decide +kernel)) ggX8_setPresent_X8_of
set_option maxRecDepth 20000 in
theorem ggX8_setPresent_X8_begin : GoodIn wsX8_setPresent wsX8_begin := goodIn_r _ [21, 22, 1, 33, 34, 35, 36, 37, 38, 39, 40, 41, 42, 43, 44, 45, 46, 47, 48, 49, 50, 51, 52] (by decide +kernel) (by decide +kernel)
set_option maxRecDepth 20000 in
theorem gX8_setPresent_X8_begin : GoodIn wsX8_setPresent (wsV RX8 69 RX8 yX8_begin wsX8_begin) := goodIn_app (goodIn_of _ (by decide +kernel)) ggX8_setPresent_X8_begin
set_option maxRecDepth 20000 in
theorem ggX8_setPresent_X8_presentOnes : GoodIn wsX8_setPresent wsX8_presentOnes := goodIn_r _ [26, 7, 8, 9, 5, 10, 1, 14, 15, 16, 17, 33, 34, 35, 36, 37, 38, 39, 40, 41, 42, 43, 44, 45, 46, 47, 48, 49, 50, 51, 52] (by decide +kernel) (by decide +kernel)
set_option maxRecDepth 20000 in
theorem gX8_setPresent_X8_presentOnes : GoodIn wsX8_setPresent (wsV RX8 119 RX8 yX8_presentOnes wsX8_presentOnes) := goodIn_app (goodIn_of _ (by decide +kernel)) ggX8_setPresent_X8_presentOnes
set_option maxRecDepth 20000 in
theorem ggX8_setPresent_X8_done : GoodIn wsX8_setPresent wsX8_done := goodIn_r _ [30, 31, 32, 22, 33, 34, 35, 36, 37, 38, 39, 40, 41, 42, 43, 44, 45, 46, 47, 48, 49, 50, 51, 52] (by decide +kernel) (by decide +kernel)
set_option maxRecDepth 20000 in
theorem gX8_setPresent_X8_done : GoodIn wsX8_setPresent (wsV RX8 72 RX8 yX8_done wsX8_done) := goodIn_app (goodIn_of _ (by decide +kernel)) ggX8_setPresent_X8_done
theorem dX8_setPresent_0 : decode cX8_setPresent 0 = .ok (.aload_n 0, 1) := by decide +kernel
theorem dX8_setPresent_1 : decode cX8_setPresent 1 = .ok (.iload_n 1, 1) := by decide +kernel
theorem dX8_setPresent_2 : decode cX8_setPresent 2 = .ok (.invokevirtual 116, 3) := by decide +kernel
theorem dX8_setPresent_5 : decode cX8_setPresent 5 = .ok (.ifCond .eq 5, 3) := by decide +kernel
theorem dX8_setPresent_8 : decode cX8_setPresent 8 = .ok (.iconst (-1), 1) := by decide +kernel
theorem dX8_setPresent_9 : decode cX8_setPresent 9 = .ok (.ireturn, 1) := by decide +kernel
theorem dX8_setPresent_10 : decode cX8_setPresent 10 = .ok (.iload_n 2, 1) := by decide +kernel
theorem dX8_setPresent_11 : decode cX8_setPresent 11 = .ok (.ifCond .eq 7, 3) := by decide +kernel
theorem dX8_setPresent_14 : decode cX8_setPresent 14 = .ok (.iconst 1, 1) := by decide +kernel
theorem dX8_setPresent_15 : decode cX8_setPresent 15 = .ok (.goto 4, 3) := by decide +kernel
theorem dX8_setPresent_18 : decode cX8_setPresent 18 = .ok (.iconst 0, 1) := by decide +kernel
theorem dX8_setPresent_19 : decode cX8_setPresent 19 = .ok (.istore_n 3, 1) := by decide +kernel
theorem dX8_setPresent_20 : decode cX8_setPresent 20 = .ok (.aload_n 0, 1) := by decide +kernel
theorem dX8_setPresent_21 : decode cX8_setPresent 21 = .ok (.iload_n 1, 1) := by decide +kernel
theorem dX8_setPresent_22 : decode cX8_setPresent 22 = .ok (.iconst 2, 1) := by decide +kernel
theorem dX8_setPresent_23 : decode cX8_setPresent 23 = .ok (.invokevirtual 112, 3) := by decide +kernel
theorem dX8_setPresent_26 : decode cX8_setPresent 26 = .ok (.iload_n 3, 1) := by decide +kernel
theorem dX8_setPresent_27 : decode cX8_setPresent 27 = .ok (.if_icmp .ne 6, 3) := by decide +kernel
theorem dX8_setPresent_30 : decode cX8_setPresent 30 = .ok (.bipush (-5), 2) := by decide +kernel
theorem dX8_setPresent_32 : decode cX8_setPresent 32 = .ok (.ireturn, 1) := by decide +kernel
theorem dX8_setPresent_33 : decode cX8_setPresent 33 = .ok (.aload_n 0, 1) := by decide +kernel
theorem dX8_setPresent_34 : decode cX8_setPresent 34 = .ok (.invokevirtual 69, 3) := by decide +kernel
theorem dX8_setPresent_37 : decode cX8_setPresent 37 = .ok (.aload_n 0, 1) := by decide +kernel
theorem dX8_setPresent_38 : decode cX8_setPresent 38 = .ok (.getfield 7, 3) := by decide +kernel
theorem dX8_setPresent_41 : decode cX8_setPresent 41 = .ok (.sipush 196, 3) := by decide +kernel
theorem dX8_setPresent_44 : decode cX8_setPresent 44 = .ok (.iconst 3, 1) := by decide +kernel
theorem dX8_setPresent_45 : decode cX8_setPresent 45 = .ok (.iload_n 1, 1) := by decide +kernel
theorem dX8_setPresent_46 : decode cX8_setPresent 46 = .ok (.imul, 1) := by decide +kernel
theorem dX8_setPresent_47 : decode cX8_setPresent 47 = .ok (.iadd, 1) := by decide +kernel
theorem dX8_setPresent_48 : decode cX8_setPresent 48 = .ok (.iconst 2, 1) := by decide +kernel
theorem dX8_setPresent_49 : decode cX8_setPresent 49 = .ok (.iadd, 1) := by decide +kernel
theorem dX8_setPresent_50 : decode cX8_setPresent 50 = .ok (.iload_n 3, 1) := by decide +kernel
theorem dX8_setPresent_51 : decode cX8_setPresent 51 = .ok (.iastore, 1) := by decide +kernel
theorem dX8_setPresent_52 : decode cX8_setPresent 52 = .ok (.aload_n 0, 1) := by decide +kernel
theorem dX8_setPresent_53 : decode cX8_setPresent 53 = .ok (.aload_n 0, 1) := by decide +kernel
theorem dX8_setPresent_54 : decode cX8_setPresent 54 = .ok (.invokevirtual 119, 3) := by decide +kernel
theorem dX8_setPresent_57 : decode cX8_setPresent 57 = .ok (.invokevirtual 72, 3) := by decide +kernel
theorem dX8_setPresent_60 : decode cX8_setPresent 60 = .ok (.ireturn, 1) := by decide +kernel
set_option maxRecDepth 20000 in
theorem ggX8_addSolo_X8_noSinger : GoodIn wsX8_addSolo wsX8_noSinger := goodIn_r _ [6, 7, 8, 9, 5, 10, 1, 11, 12, 13, 41, 42, 43, 44, 45, 46, 47, 48, 49, 50, 51, 52, 53, 54, 55, 56, 57, 58, 59, 60] (by decide +kernel) (by decide +kernel)
set_option maxRecDepth 20000 in
theorem gX8_addSolo_X8_noSinger : GoodIn wsX8_addSolo (wsV RX8 116 RX8 yX8_noSinger wsX8_noSinger) := goodIn_app (goodIn_of _ (by decide +kernel)) ggX8_addSolo_X8_noSinger
set_option maxRecDepth 20000 in
theorem ggX8_addSolo_X8_noBeat : GoodIn wsX8_addSolo wsX8_noBeat := goodIn_r _ [17, 18, 19, 20, 5, 21, 1, 11, 12, 13, 41, 42, 43, 44, 45, 46, 47, 48, 49, 50, 51, 52, 53, 54, 55, 56, 57, 58, 59, 60] (by decide +kernel) (by decide +kernel)
set_option maxRecDepth 20000 in
theorem gX8_addSolo_X8_noBeat : GoodIn wsX8_addSolo (wsV RX8 105 RX8 yX8_noBeat wsX8_noBeat) := goodIn_app (goodIn_of _ (by decide +kernel)) ggX8_addSolo_X8_noBeat
set_option maxRecDepth 20000 in
theorem ggX8_addSolo_X8_solos : GoodIn wsX8_addSolo wsX8_solos := goodIn_r _ [25, 1, 41, 42, 43, 44, 45, 46, 47, 48, 49, 50, 51, 52, 53, 54, 55, 56, 57, 58, 59, 60] (by decide +kernel) (by decide +kernel)
set_option maxRecDepth 20000 in
theorem gX8_addSolo_X8_solos : GoodIn wsX8_addSolo (wsV RX8 122 RX8 yX8_solos wsX8_solos) := goodIn_app (goodIn_of _ (by decide +kernel)) ggX8_addSolo_X8_solos
set_option maxRecDepth 20000 in
theorem ggX8_addSolo_X8_soloOf : GoodIn wsX8_addSolo wsX8_soloOf := goodIn_r _ [29, 1, 41, 42, 43, 44, 45, 46, 47, 48, 49, 50, 51, 52, 53, 54, 55, 56, 57, 58, 59, 60] (by decide +kernel) (by decide +kernel)
set_option maxRecDepth 20000 in
theorem gX8_addSolo_X8_soloOf : GoodIn wsX8_addSolo (wsV RX8 125 RX8 yX8_soloOf wsX8_soloOf) := goodIn_app (goodIn_of _ (by decide +kernel)) ggX8_addSolo_X8_soloOf
set_option maxRecDepth 20000 in
theorem ggX8_addSolo_X8_begin : GoodIn wsX8_addSolo wsX8_begin := goodIn_r _ [33, 34, 1, 41, 42, 43, 44, 45, 46, 47, 48, 49, 50, 51, 52, 53, 54, 55, 56, 57, 58, 59, 60] (by decide +kernel) (by decide +kernel)
set_option maxRecDepth 20000 in
theorem gX8_addSolo_X8_begin : GoodIn wsX8_addSolo (wsV RX8 69 RX8 yX8_begin wsX8_begin) := goodIn_app (goodIn_of _ (by decide +kernel)) ggX8_addSolo_X8_begin
set_option maxRecDepth 20000 in
theorem ggX8_addSolo_X8_done : GoodIn wsX8_addSolo wsX8_done := goodIn_r _ [38, 39, 40, 34, 41, 42, 43, 44, 45, 46, 47, 48, 49, 50, 51, 52, 53, 54, 55, 56, 57, 58, 59, 60] (by decide +kernel) (by decide +kernel)
set_option maxRecDepth 20000 in
theorem gX8_addSolo_X8_done : GoodIn wsX8_addSolo (wsV RX8 72 RX8 yX8_done wsX8_done) := goodIn_app (goodIn_of _ (by decide +kernel)) ggX8_addSolo_X8_done
theorem dX8_addSolo_0 : decode cX8_addSolo 0 = .ok (.aload_n 0, 1) := by decide +kernel
theorem dX8_addSolo_1 : decode cX8_addSolo 1 = .ok (.iload_n 1, 1) := by decide +kernel
theorem dX8_addSolo_2 : decode cX8_addSolo 2 = .ok (.invokevirtual 116, 3) := by decide +kernel
theorem dX8_addSolo_5 : decode cX8_addSolo 5 = .ok (.ifCond .ne 19, 3) := by decide +kernel
theorem dX8_addSolo_8 : decode cX8_addSolo 8 = .ok (.aload_n 0, 1) := by decide +kernel
theorem dX8_addSolo_9 : decode cX8_addSolo 9 = .ok (.iload_n 2, 1) := by decide +kernel
theorem dX8_addSolo_10 : decode cX8_addSolo 10 = .ok (.invokevirtual 105, 3) := by decide +kernel
theorem dX8_addSolo_13 : decode cX8_addSolo 13 = .ok (.ifCond .ne 11, 3) := by decide +kernel
theorem dX8_addSolo_16 : decode cX8_addSolo 16 = .ok (.aload_n 0, 1) := by decide +kernel
theorem dX8_addSolo_17 : decode cX8_addSolo 17 = .ok (.iload_n 3, 1) := by decide +kernel
theorem dX8_addSolo_18 : decode cX8_addSolo 18 = .ok (.invokevirtual 105, 3) := by decide +kernel
theorem dX8_addSolo_21 : decode cX8_addSolo 21 = .ok (.ifCond .eq 5, 3) := by decide +kernel
theorem dX8_addSolo_24 : decode cX8_addSolo 24 = .ok (.iconst (-1), 1) := by decide +kernel
theorem dX8_addSolo_25 : decode cX8_addSolo 25 = .ok (.ireturn, 1) := by decide +kernel
theorem dX8_addSolo_26 : decode cX8_addSolo 26 = .ok (.iload_n 3, 1) := by decide +kernel
theorem dX8_addSolo_27 : decode cX8_addSolo 27 = .ok (.iload_n 2, 1) := by decide +kernel
theorem dX8_addSolo_28 : decode cX8_addSolo 28 = .ok (.if_icmp .ge 6, 3) := by decide +kernel
theorem dX8_addSolo_31 : decode cX8_addSolo 31 = .ok (.bipush (-2), 2) := by decide +kernel
theorem dX8_addSolo_33 : decode cX8_addSolo 33 = .ok (.ireturn, 1) := by decide +kernel
theorem dX8_addSolo_34 : decode cX8_addSolo 34 = .ok (.iconst 0, 1) := by decide +kernel
theorem dX8_addSolo_35 : decode cX8_addSolo 35 = .ok (.istore 4, 2) := by decide +kernel
theorem dX8_addSolo_37 : decode cX8_addSolo 37 = .ok (.iload 4, 2) := by decide +kernel
theorem dX8_addSolo_39 : decode cX8_addSolo 39 = .ok (.aload_n 0, 1) := by decide +kernel
theorem dX8_addSolo_40 : decode cX8_addSolo 40 = .ok (.invokevirtual 122, 3) := by decide +kernel
theorem dX8_addSolo_43 : decode cX8_addSolo 43 = .ok (.if_icmp .ge 34, 3) := by decide +kernel
theorem dX8_addSolo_46 : decode cX8_addSolo 46 = .ok (.aload_n 0, 1) := by decide +kernel
theorem dX8_addSolo_47 : decode cX8_addSolo 47 = .ok (.iload 4, 2) := by decide +kernel
theorem dX8_addSolo_49 : decode cX8_addSolo 49 = .ok (.iconst 1, 1) := by decide +kernel
theorem dX8_addSolo_50 : decode cX8_addSolo 50 = .ok (.invokevirtual 125, 3) := by decide +kernel
theorem dX8_addSolo_53 : decode cX8_addSolo 53 = .ok (.iload_n 3, 1) := by decide +kernel
theorem dX8_addSolo_54 : decode cX8_addSolo 54 = .ok (.if_icmp .gt 17, 3) := by decide +kernel
theorem dX8_addSolo_57 : decode cX8_addSolo 57 = .ok (.aload_n 0, 1) := by decide +kernel
theorem dX8_addSolo_58 : decode cX8_addSolo 58 = .ok (.iload 4, 2) := by decide +kernel
theorem dX8_addSolo_60 : decode cX8_addSolo 60 = .ok (.iconst 2, 1) := by decide +kernel
theorem dX8_addSolo_61 : decode cX8_addSolo 61 = .ok (.invokevirtual 125, 3) := by decide +kernel
theorem dX8_addSolo_64 : decode cX8_addSolo 64 = .ok (.iload_n 2, 1) := by decide +kernel
theorem dX8_addSolo_65 : decode cX8_addSolo 65 = .ok (.if_icmp .lt 6, 3) := by decide +kernel
theorem dX8_addSolo_68 : decode cX8_addSolo 68 = .ok (.bipush (-4), 2) := by decide +kernel
theorem dX8_addSolo_70 : decode cX8_addSolo 70 = .ok (.ireturn, 1) := by decide +kernel
theorem dX8_addSolo_71 : decode cX8_addSolo 71 = .ok (.iinc 4 1, 3) := by decide +kernel
theorem dX8_addSolo_74 : decode cX8_addSolo 74 = .ok (.goto (-37), 3) := by decide +kernel
theorem dX8_addSolo_77 : decode cX8_addSolo 77 = .ok (.aload_n 0, 1) := by decide +kernel
theorem dX8_addSolo_78 : decode cX8_addSolo 78 = .ok (.invokevirtual 122, 3) := by decide +kernel
theorem dX8_addSolo_81 : decode cX8_addSolo 81 = .ok (.bipush 8, 2) := by decide +kernel
theorem dX8_addSolo_83 : decode cX8_addSolo 83 = .ok (.if_icmp .ne 6, 3) := by decide +kernel
theorem dX8_addSolo_86 : decode cX8_addSolo 86 = .ok (.bipush (-3), 2) := by decide +kernel
theorem dX8_addSolo_88 : decode cX8_addSolo 88 = .ok (.ireturn, 1) := by decide +kernel
theorem dX8_addSolo_89 : decode cX8_addSolo 89 = .ok (.aload_n 0, 1) := by decide +kernel
theorem dX8_addSolo_90 : decode cX8_addSolo 90 = .ok (.invokevirtual 69, 3) := by decide +kernel
theorem dX8_addSolo_93 : decode cX8_addSolo 93 = .ok (.aload_n 0, 1) := by decide +kernel
theorem dX8_addSolo_94 : decode cX8_addSolo 94 = .ok (.invokevirtual 122, 3) := by decide +kernel
theorem dX8_addSolo_97 : decode cX8_addSolo 97 = .ok (.istore 4, 2) := by decide +kernel
theorem dX8_addSolo_99 : decode cX8_addSolo 99 = .ok (.iload 4, 2) := by decide +kernel
theorem dX8_addSolo_101 : decode cX8_addSolo 101 = .ok (.ifCond .le 63, 3) := by decide +kernel
theorem dX8_addSolo_104 : decode cX8_addSolo 104 = .ok (.aload_n 0, 1) := by decide +kernel
theorem dX8_addSolo_105 : decode cX8_addSolo 105 = .ok (.iload 4, 2) := by decide +kernel
theorem dX8_addSolo_107 : decode cX8_addSolo 107 = .ok (.iconst 1, 1) := by decide +kernel
theorem dX8_addSolo_108 : decode cX8_addSolo 108 = .ok (.isub, 1) := by decide +kernel
theorem dX8_addSolo_109 : decode cX8_addSolo 109 = .ok (.iconst 1, 1) := by decide +kernel
theorem dX8_addSolo_110 : decode cX8_addSolo 110 = .ok (.invokevirtual 125, 3) := by decide +kernel
theorem dX8_addSolo_113 : decode cX8_addSolo 113 = .ok (.iload_n 2, 1) := by decide +kernel
theorem dX8_addSolo_114 : decode cX8_addSolo 114 = .ok (.if_icmp .le 50, 3) := by decide +kernel
theorem dX8_addSolo_117 : decode cX8_addSolo 117 = .ok (.iconst 0, 1) := by decide +kernel
theorem dX8_addSolo_118 : decode cX8_addSolo 118 = .ok (.istore 5, 2) := by decide +kernel
theorem dX8_addSolo_120 : decode cX8_addSolo 120 = .ok (.iload 5, 2) := by decide +kernel
theorem dX8_addSolo_122 : decode cX8_addSolo 122 = .ok (.iconst 3, 1) := by decide +kernel
theorem dX8_addSolo_123 : decode cX8_addSolo 123 = .ok (.if_icmp .ge 35, 3) := by decide +kernel
theorem dX8_addSolo_126 : decode cX8_addSolo 126 = .ok (.aload_n 0, 1) := by decide +kernel
theorem dX8_addSolo_127 : decode cX8_addSolo 127 = .ok (.getfield 7, 3) := by decide +kernel
theorem dX8_addSolo_130 : decode cX8_addSolo 130 = .ok (.sipush 268, 3) := by decide +kernel
theorem dX8_addSolo_133 : decode cX8_addSolo 133 = .ok (.iconst 3, 1) := by decide +kernel
theorem dX8_addSolo_134 : decode cX8_addSolo 134 = .ok (.iload 4, 2) := by decide +kernel
theorem dX8_addSolo_136 : decode cX8_addSolo 136 = .ok (.imul, 1) := by decide +kernel
theorem dX8_addSolo_137 : decode cX8_addSolo 137 = .ok (.iadd, 1) := by decide +kernel
theorem dX8_addSolo_138 : decode cX8_addSolo 138 = .ok (.iload 5, 2) := by decide +kernel
theorem dX8_addSolo_140 : decode cX8_addSolo 140 = .ok (.iadd, 1) := by decide +kernel
theorem dX8_addSolo_141 : decode cX8_addSolo 141 = .ok (.aload_n 0, 1) := by decide +kernel
theorem dX8_addSolo_142 : decode cX8_addSolo 142 = .ok (.iload 4, 2) := by decide +kernel
theorem dX8_addSolo_144 : decode cX8_addSolo 144 = .ok (.iconst 1, 1) := by decide +kernel
theorem dX8_addSolo_145 : decode cX8_addSolo 145 = .ok (.isub, 1) := by decide +kernel
theorem dX8_addSolo_146 : decode cX8_addSolo 146 = .ok (.iload 5, 2) := by decide +kernel
theorem dX8_addSolo_148 : decode cX8_addSolo 148 = .ok (.invokevirtual 125, 3) := by decide +kernel
theorem dX8_addSolo_151 : decode cX8_addSolo 151 = .ok (.iastore, 1) := by decide +kernel
theorem dX8_addSolo_152 : decode cX8_addSolo 152 = .ok (.iinc 5 1, 3) := by decide +kernel
theorem dX8_addSolo_155 : decode cX8_addSolo 155 = .ok (.goto (-35), 3) := by decide +kernel
theorem dX8_addSolo_158 : decode cX8_addSolo 158 = .ok (.iinc 4 (-1), 3) := by decide +kernel
theorem dX8_addSolo_161 : decode cX8_addSolo 161 = .ok (.goto (-62), 3) := by decide +kernel
theorem dX8_addSolo_164 : decode cX8_addSolo 164 = .ok (.aload_n 0, 1) := by decide +kernel
theorem dX8_addSolo_165 : decode cX8_addSolo 165 = .ok (.getfield 7, 3) := by decide +kernel
theorem dX8_addSolo_168 : decode cX8_addSolo 168 = .ok (.sipush 268, 3) := by decide +kernel
theorem dX8_addSolo_171 : decode cX8_addSolo 171 = .ok (.iconst 3, 1) := by decide +kernel
theorem dX8_addSolo_172 : decode cX8_addSolo 172 = .ok (.iload 4, 2) := by decide +kernel
theorem dX8_addSolo_174 : decode cX8_addSolo 174 = .ok (.imul, 1) := by decide +kernel
theorem dX8_addSolo_175 : decode cX8_addSolo 175 = .ok (.iadd, 1) := by decide +kernel
theorem dX8_addSolo_176 : decode cX8_addSolo 176 = .ok (.iload_n 1, 1) := by decide +kernel
theorem dX8_addSolo_177 : decode cX8_addSolo 177 = .ok (.iastore, 1) := by decide +kernel
theorem dX8_addSolo_178 : decode cX8_addSolo 178 = .ok (.aload_n 0, 1) := by decide +kernel
theorem dX8_addSolo_179 : decode cX8_addSolo 179 = .ok (.getfield 7, 3) := by decide +kernel
theorem dX8_addSolo_182 : decode cX8_addSolo 182 = .ok (.sipush 268, 3) := by decide +kernel
theorem dX8_addSolo_185 : decode cX8_addSolo 185 = .ok (.iconst 3, 1) := by decide +kernel
theorem dX8_addSolo_186 : decode cX8_addSolo 186 = .ok (.iload 4, 2) := by decide +kernel
theorem dX8_addSolo_188 : decode cX8_addSolo 188 = .ok (.imul, 1) := by decide +kernel
theorem dX8_addSolo_189 : decode cX8_addSolo 189 = .ok (.iadd, 1) := by decide +kernel
theorem dX8_addSolo_190 : decode cX8_addSolo 190 = .ok (.iconst 1, 1) := by decide +kernel
theorem dX8_addSolo_191 : decode cX8_addSolo 191 = .ok (.iadd, 1) := by decide +kernel
theorem dX8_addSolo_192 : decode cX8_addSolo 192 = .ok (.iload_n 2, 1) := by decide +kernel
theorem dX8_addSolo_193 : decode cX8_addSolo 193 = .ok (.iastore, 1) := by decide +kernel
theorem dX8_addSolo_194 : decode cX8_addSolo 194 = .ok (.aload_n 0, 1) := by decide +kernel
theorem dX8_addSolo_195 : decode cX8_addSolo 195 = .ok (.getfield 7, 3) := by decide +kernel
theorem dX8_addSolo_198 : decode cX8_addSolo 198 = .ok (.sipush 268, 3) := by decide +kernel
theorem dX8_addSolo_201 : decode cX8_addSolo 201 = .ok (.iconst 3, 1) := by decide +kernel
theorem dX8_addSolo_202 : decode cX8_addSolo 202 = .ok (.iload 4, 2) := by decide +kernel
theorem dX8_addSolo_204 : decode cX8_addSolo 204 = .ok (.imul, 1) := by decide +kernel
theorem dX8_addSolo_205 : decode cX8_addSolo 205 = .ok (.iadd, 1) := by decide +kernel
theorem dX8_addSolo_206 : decode cX8_addSolo 206 = .ok (.iconst 2, 1) := by decide +kernel
theorem dX8_addSolo_207 : decode cX8_addSolo 207 = .ok (.iadd, 1) := by decide +kernel
theorem dX8_addSolo_208 : decode cX8_addSolo 208 = .ok (.iload_n 3, 1) := by decide +kernel
theorem dX8_addSolo_209 : decode cX8_addSolo 209 = .ok (.iastore, 1) := by decide +kernel
theorem dX8_addSolo_210 : decode cX8_addSolo 210 = .ok (.aload_n 0, 1) := by decide +kernel
theorem dX8_addSolo_211 : decode cX8_addSolo 211 = .ok (.getfield 7, 3) := by decide +kernel
theorem dX8_addSolo_214 : decode cX8_addSolo 214 = .ok (.iconst 2, 1) := by decide +kernel
theorem dX8_addSolo_215 : decode cX8_addSolo 215 = .ok (.dup2, 1) := by decide +kernel
theorem dX8_addSolo_216 : decode cX8_addSolo 216 = .ok (.iaload, 1) := by decide +kernel
theorem dX8_addSolo_217 : decode cX8_addSolo 217 = .ok (.iconst 1, 1) := by decide +kernel
theorem dX8_addSolo_218 : decode cX8_addSolo 218 = .ok (.iadd, 1) := by decide +kernel
theorem dX8_addSolo_219 : decode cX8_addSolo 219 = .ok (.iastore, 1) := by decide +kernel
theorem dX8_addSolo_220 : decode cX8_addSolo 220 = .ok (.aload_n 0, 1) := by decide +kernel
theorem dX8_addSolo_221 : decode cX8_addSolo 221 = .ok (.iload 4, 2) := by decide +kernel
theorem dX8_addSolo_223 : decode cX8_addSolo 223 = .ok (.invokevirtual 72, 3) := by decide +kernel
theorem dX8_addSolo_226 : decode cX8_addSolo 226 = .ok (.ireturn, 1) := by decide +kernel
set_option maxRecDepth 20000 in
theorem ggX8_removeSolo_X8_solos : GoodIn wsX8_removeSolo wsX8_solos := goodIn_r _ [6, 1, 21, 22, 23, 24, 25, 26, 27, 28, 29, 30, 31, 32, 33, 34, 35, 36, 37, 38, 39, 40] (by decide +kernel) (by decide +kernel)
set_option maxRecDepth 20000 in
theorem gX8_removeSolo_X8_solos : GoodIn wsX8_removeSolo (wsV RX8 122 RX8 yX8_solos wsX8_solos) := goodIn_app (goodIn_of _ (by decide +kernel)) ggX8_removeSolo_X8_solos
set_option maxRecDepth 20000 in
theorem ggX8_removeSolo_X8_in : GoodIn wsX8_removeSolo wsX8_in := goodIn_r _ [9] (by decide +kernel) (by decide +kernel)
set_option maxRecDepth 20000 in
theorem gX8_removeSolo_X8_in : GoodIn wsX8_removeSolo (va_wsS RX8 61 yX8_in wsX8_in) := goodIn_app (goodIn_of _ (by decide +kernel)) ggX8_removeSolo_X8_in
set_option maxRecDepth 20000 in
theorem ggX8_removeSolo_X8_begin : GoodIn wsX8_removeSolo wsX8_begin := goodIn_r _ [13, 14, 1, 21, 22, 23, 24, 25, 26, 27, 28, 29, 30, 31, 32, 33, 34, 35, 36, 37, 38, 39, 40] (by decide +kernel) (by decide +kernel)
set_option maxRecDepth 20000 in
theorem gX8_removeSolo_X8_begin : GoodIn wsX8_removeSolo (wsV RX8 69 RX8 yX8_begin wsX8_begin) := goodIn_app (goodIn_of _ (by decide +kernel)) ggX8_removeSolo_X8_begin
set_option maxRecDepth 20000 in
theorem ggX8_removeSolo_X8_done : GoodIn wsX8_removeSolo wsX8_done := goodIn_r _ [18, 19, 20, 14, 21, 22, 23, 24, 25, 26, 27, 28, 29, 30, 31, 32, 33, 34, 35, 36, 37, 38, 39, 40] (by decide +kernel) (by decide +kernel)
set_option maxRecDepth 20000 in
theorem gX8_removeSolo_X8_done : GoodIn wsX8_removeSolo (wsV RX8 72 RX8 yX8_done wsX8_done) := goodIn_app (goodIn_of _ (by decide +kernel)) ggX8_removeSolo_X8_done
theorem dX8_removeSolo_0 : decode cX8_removeSolo 0 = .ok (.iload_n 1, 1) := by decide +kernel
theorem dX8_removeSolo_1 : decode cX8_removeSolo 1 = .ok (.iconst 0, 1) := by decide +kernel
theorem dX8_removeSolo_2 : decode cX8_removeSolo 2 = .ok (.aload_n 0, 1) := by decide +kernel
theorem dX8_removeSolo_3 : decode cX8_removeSolo 3 = .ok (.invokevirtual 122, 3) := by decide +kernel
theorem dX8_removeSolo_6 : decode cX8_removeSolo 6 = .ok (.iconst 1, 1) := by decide +kernel
theorem dX8_removeSolo_7 : decode cX8_removeSolo 7 = .ok (.isub, 1) := by decide +kernel
theorem dX8_removeSolo_8 : decode cX8_removeSolo 8 = .ok (.invokestatic 61, 3) := by decide +kernel
theorem dX8_removeSolo_11 : decode cX8_removeSolo 11 = .ok (.ifCond .ne 5, 3) := by decide +kernel
theorem dX8_removeSolo_14 : decode cX8_removeSolo 14 = .ok (.iconst (-1), 1) := by decide +kernel
theorem dX8_removeSolo_15 : decode cX8_removeSolo 15 = .ok (.ireturn, 1) := by decide +kernel
theorem dX8_removeSolo_16 : decode cX8_removeSolo 16 = .ok (.aload_n 0, 1) := by decide +kernel
theorem dX8_removeSolo_17 : decode cX8_removeSolo 17 = .ok (.invokevirtual 69, 3) := by decide +kernel
theorem dX8_removeSolo_20 : decode cX8_removeSolo 20 = .ok (.aload_n 0, 1) := by decide +kernel
theorem dX8_removeSolo_21 : decode cX8_removeSolo 21 = .ok (.getfield 7, 3) := by decide +kernel
theorem dX8_removeSolo_24 : decode cX8_removeSolo 24 = .ok (.iconst 2, 1) := by decide +kernel
theorem dX8_removeSolo_25 : decode cX8_removeSolo 25 = .ok (.dup2, 1) := by decide +kernel
theorem dX8_removeSolo_26 : decode cX8_removeSolo 26 = .ok (.iaload, 1) := by decide +kernel
theorem dX8_removeSolo_27 : decode cX8_removeSolo 27 = .ok (.iconst 1, 1) := by decide +kernel
theorem dX8_removeSolo_28 : decode cX8_removeSolo 28 = .ok (.isub, 1) := by decide +kernel
theorem dX8_removeSolo_29 : decode cX8_removeSolo 29 = .ok (.iastore, 1) := by decide +kernel
theorem dX8_removeSolo_30 : decode cX8_removeSolo 30 = .ok (.sipush 268, 3) := by decide +kernel
theorem dX8_removeSolo_33 : decode cX8_removeSolo 33 = .ok (.iconst 3, 1) := by decide +kernel
theorem dX8_removeSolo_34 : decode cX8_removeSolo 34 = .ok (.iload_n 1, 1) := by decide +kernel
theorem dX8_removeSolo_35 : decode cX8_removeSolo 35 = .ok (.imul, 1) := by decide +kernel
theorem dX8_removeSolo_36 : decode cX8_removeSolo 36 = .ok (.iadd, 1) := by decide +kernel
theorem dX8_removeSolo_37 : decode cX8_removeSolo 37 = .ok (.istore_n 2, 1) := by decide +kernel
theorem dX8_removeSolo_38 : decode cX8_removeSolo 38 = .ok (.iload_n 2, 1) := by decide +kernel
theorem dX8_removeSolo_39 : decode cX8_removeSolo 39 = .ok (.sipush 268, 3) := by decide +kernel
theorem dX8_removeSolo_42 : decode cX8_removeSolo 42 = .ok (.iconst 3, 1) := by decide +kernel
theorem dX8_removeSolo_43 : decode cX8_removeSolo 43 = .ok (.aload_n 0, 1) := by decide +kernel
theorem dX8_removeSolo_44 : decode cX8_removeSolo 44 = .ok (.invokevirtual 122, 3) := by decide +kernel
theorem dX8_removeSolo_47 : decode cX8_removeSolo 47 = .ok (.imul, 1) := by decide +kernel
theorem dX8_removeSolo_48 : decode cX8_removeSolo 48 = .ok (.iadd, 1) := by decide +kernel
theorem dX8_removeSolo_49 : decode cX8_removeSolo 49 = .ok (.if_icmp .ge 23, 3) := by decide +kernel
theorem dX8_removeSolo_52 : decode cX8_removeSolo 52 = .ok (.aload_n 0, 1) := by decide +kernel
theorem dX8_removeSolo_53 : decode cX8_removeSolo 53 = .ok (.getfield 7, 3) := by decide +kernel
theorem dX8_removeSolo_56 : decode cX8_removeSolo 56 = .ok (.iload_n 2, 1) := by decide +kernel
theorem dX8_removeSolo_57 : decode cX8_removeSolo 57 = .ok (.aload_n 0, 1) := by decide +kernel
theorem dX8_removeSolo_58 : decode cX8_removeSolo 58 = .ok (.getfield 7, 3) := by decide +kernel
theorem dX8_removeSolo_61 : decode cX8_removeSolo 61 = .ok (.iload_n 2, 1) := by decide +kernel
theorem dX8_removeSolo_62 : decode cX8_removeSolo 62 = .ok (.iconst 3, 1) := by decide +kernel
theorem dX8_removeSolo_63 : decode cX8_removeSolo 63 = .ok (.iadd, 1) := by decide +kernel
theorem dX8_removeSolo_64 : decode cX8_removeSolo 64 = .ok (.iaload, 1) := by decide +kernel
theorem dX8_removeSolo_65 : decode cX8_removeSolo 65 = .ok (.iastore, 1) := by decide +kernel
theorem dX8_removeSolo_66 : decode cX8_removeSolo 66 = .ok (.iinc 2 1, 3) := by decide +kernel
theorem dX8_removeSolo_69 : decode cX8_removeSolo 69 = .ok (.goto (-31), 3) := by decide +kernel
theorem dX8_removeSolo_72 : decode cX8_removeSolo 72 = .ok (.aload_n 0, 1) := by decide +kernel
theorem dX8_removeSolo_73 : decode cX8_removeSolo 73 = .ok (.aload_n 0, 1) := by decide +kernel
theorem dX8_removeSolo_74 : decode cX8_removeSolo 74 = .ok (.invokevirtual 122, 3) := by decide +kernel
theorem dX8_removeSolo_77 : decode cX8_removeSolo 77 = .ok (.invokevirtual 72, 3) := by decide +kernel
theorem dX8_removeSolo_80 : decode cX8_removeSolo 80 = .ok (.ireturn, 1) := by decide +kernel
set_option maxRecDepth 20000 in
theorem ggX8_soloAt_X8_solos : GoodIn wsX8_soloAt wsX8_solos := goodIn_r _ [5, 6, 14, 15, 16, 17, 18, 19, 20, 21, 22, 23, 24, 25, 26, 27, 28, 29, 30, 31, 32, 33] (by decide +kernel) (by decide +kernel)
set_option maxRecDepth 20000 in
theorem gX8_soloAt_X8_solos : GoodIn wsX8_soloAt (wsV RX8 122 RX8 yX8_solos wsX8_solos) := goodIn_app (goodIn_of _ (by decide +kernel)) ggX8_soloAt_X8_solos
set_option maxRecDepth 20000 in
theorem ggX8_soloAt_X8_soloOf : GoodIn wsX8_soloAt wsX8_soloOf := goodIn_r _ [10, 6, 14, 15, 16, 17, 18, 19, 20, 21, 22, 23, 24, 25, 26, 27, 28, 29, 30, 31, 32, 33] (by decide +kernel) (by decide +kernel)
set_option maxRecDepth 20000 in
theorem gX8_soloAt_X8_soloOf : GoodIn wsX8_soloAt (wsV RX8 125 RX8 yX8_soloOf wsX8_soloOf) := goodIn_app (goodIn_of _ (by decide +kernel)) ggX8_soloAt_X8_soloOf
set_option maxRecDepth 20000 in
theorem ggX8_soloAt_X8_in : GoodIn wsX8_soloAt wsX8_in := goodIn_r _ [13] (by decide +kernel) (by decide +kernel)
set_option maxRecDepth 20000 in
theorem gX8_soloAt_X8_in : GoodIn wsX8_soloAt (va_wsS RX8 61 yX8_in wsX8_in) := goodIn_app (goodIn_of _ (by decide +kernel)) ggX8_soloAt_X8_in
theorem dX8_soloAt_0 : decode cX8_soloAt 0 = .ok (.iconst 0, 1) := by decide +kernel
theorem dX8_soloAt_1 : decode cX8_soloAt 1 = .ok (.istore_n 2, 1) := by decide +kernel
theorem dX8_soloAt_2 : decode cX8_soloAt 2 = .ok (.iload_n 2, 1) := by decide +kernel
theorem dX8_soloAt_3 : decode cX8_soloAt 3 = .ok (.aload_n 0, 1) := by decide +kernel
theorem dX8_soloAt_4 : decode cX8_soloAt 4 = .ok (.invokevirtual 122, 3) := by decide +kernel
theorem dX8_soloAt_7 : decode cX8_soloAt 7 = .ok (.if_icmp .ge 30, 3) := by decide +kernel
theorem dX8_soloAt_10 : decode cX8_soloAt 10 = .ok (.iload_n 1, 1) := by decide +kernel
theorem dX8_soloAt_11 : decode cX8_soloAt 11 = .ok (.aload_n 0, 1) := by decide +kernel
theorem dX8_soloAt_12 : decode cX8_soloAt 12 = .ok (.iload_n 2, 1) := by decide +kernel
theorem dX8_soloAt_13 : decode cX8_soloAt 13 = .ok (.iconst 1, 1) := by decide +kernel
theorem dX8_soloAt_14 : decode cX8_soloAt 14 = .ok (.invokevirtual 125, 3) := by decide +kernel
theorem dX8_soloAt_17 : decode cX8_soloAt 17 = .ok (.aload_n 0, 1) := by decide +kernel
theorem dX8_soloAt_18 : decode cX8_soloAt 18 = .ok (.iload_n 2, 1) := by decide +kernel
theorem dX8_soloAt_19 : decode cX8_soloAt 19 = .ok (.iconst 2, 1) := by decide +kernel
theorem dX8_soloAt_20 : decode cX8_soloAt 20 = .ok (.invokevirtual 125, 3) := by decide +kernel
theorem dX8_soloAt_23 : decode cX8_soloAt 23 = .ok (.invokestatic 61, 3) := by decide +kernel
theorem dX8_soloAt_26 : decode cX8_soloAt 26 = .ok (.ifCond .eq 5, 3) := by decide +kernel
theorem dX8_soloAt_29 : decode cX8_soloAt 29 = .ok (.iload_n 2, 1) := by decide +kernel
theorem dX8_soloAt_30 : decode cX8_soloAt 30 = .ok (.ireturn, 1) := by decide +kernel
theorem dX8_soloAt_31 : decode cX8_soloAt 31 = .ok (.iinc 2 1, 3) := by decide +kernel
theorem dX8_soloAt_34 : decode cX8_soloAt 34 = .ok (.goto (-32), 3) := by decide +kernel
theorem dX8_soloAt_37 : decode cX8_soloAt 37 = .ok (.bipush (-5), 2) := by decide +kernel
theorem dX8_soloAt_39 : decode cX8_soloAt 39 = .ok (.ireturn, 1) := by decide +kernel
theorem dX8_isMarked_0 : decode cX8_isMarked 0 = .ok (.aload_n 0, 1) := by decide +kernel
theorem dX8_isMarked_1 : decode cX8_isMarked 1 = .ok (.getfield 7, 3) := by decide +kernel
theorem dX8_isMarked_4 : decode cX8_isMarked 4 = .ok (.sipush 232, 3) := by decide +kernel
theorem dX8_isMarked_7 : decode cX8_isMarked 7 = .ok (.iconst 3, 1) := by decide +kernel
theorem dX8_isMarked_8 : decode cX8_isMarked 8 = .ok (.iload_n 1, 1) := by decide +kernel
theorem dX8_isMarked_9 : decode cX8_isMarked 9 = .ok (.imul, 1) := by decide +kernel
theorem dX8_isMarked_10 : decode cX8_isMarked 10 = .ok (.iadd, 1) := by decide +kernel
theorem dX8_isMarked_11 : decode cX8_isMarked 11 = .ok (.iload_n 2, 1) := by decide +kernel
theorem dX8_isMarked_12 : decode cX8_isMarked 12 = .ok (.bipush 32, 2) := by decide +kernel
theorem dX8_isMarked_14 : decode cX8_isMarked 14 = .ok (.idiv, 1) := by decide +kernel
theorem dX8_isMarked_15 : decode cX8_isMarked 15 = .ok (.iadd, 1) := by decide +kernel
theorem dX8_isMarked_16 : decode cX8_isMarked 16 = .ok (.iaload, 1) := by decide +kernel
theorem dX8_isMarked_17 : decode cX8_isMarked 17 = .ok (.iload_n 2, 1) := by decide +kernel
theorem dX8_isMarked_18 : decode cX8_isMarked 18 = .ok (.bipush 32, 2) := by decide +kernel
theorem dX8_isMarked_20 : decode cX8_isMarked 20 = .ok (.irem, 1) := by decide +kernel
theorem dX8_isMarked_21 : decode cX8_isMarked 21 = .ok (.ishr, 1) := by decide +kernel
theorem dX8_isMarked_22 : decode cX8_isMarked 22 = .ok (.iconst 1, 1) := by decide +kernel
theorem dX8_isMarked_23 : decode cX8_isMarked 23 = .ok (.iand, 1) := by decide +kernel
theorem dX8_isMarked_24 : decode cX8_isMarked 24 = .ok (.iconst 1, 1) := by decide +kernel
theorem dX8_isMarked_25 : decode cX8_isMarked 25 = .ok (.if_icmp .ne 7, 3) := by decide +kernel
theorem dX8_isMarked_28 : decode cX8_isMarked 28 = .ok (.iconst 1, 1) := by decide +kernel
theorem dX8_isMarked_29 : decode cX8_isMarked 29 = .ok (.goto 4, 3) := by decide +kernel
theorem dX8_isMarked_32 : decode cX8_isMarked 32 = .ok (.iconst 0, 1) := by decide +kernel
theorem dX8_isMarked_33 : decode cX8_isMarked 33 = .ok (.ireturn, 1) := by decide +kernel
theorem dX8_setMark_0 : decode cX8_setMark 0 = .ok (.aload_n 0, 1) := by decide +kernel
theorem dX8_setMark_1 : decode cX8_setMark 1 = .ok (.getfield 7, 3) := by decide +kernel
theorem dX8_setMark_4 : decode cX8_setMark 4 = .ok (.sipush 232, 3) := by decide +kernel
theorem dX8_setMark_7 : decode cX8_setMark 7 = .ok (.iconst 3, 1) := by decide +kernel
theorem dX8_setMark_8 : decode cX8_setMark 8 = .ok (.iload_n 1, 1) := by decide +kernel
theorem dX8_setMark_9 : decode cX8_setMark 9 = .ok (.imul, 1) := by decide +kernel
theorem dX8_setMark_10 : decode cX8_setMark 10 = .ok (.iadd, 1) := by decide +kernel
theorem dX8_setMark_11 : decode cX8_setMark 11 = .ok (.iload_n 2, 1) := by decide +kernel
theorem dX8_setMark_12 : decode cX8_setMark 12 = .ok (.bipush 32, 2) := by decide +kernel
theorem dX8_setMark_14 : decode cX8_setMark 14 = .ok (.idiv, 1) := by decide +kernel
theorem dX8_setMark_15 : decode cX8_setMark 15 = .ok (.iadd, 1) := by decide +kernel
theorem dX8_setMark_16 : decode cX8_setMark 16 = .ok (.dup2, 1) := by decide +kernel
theorem dX8_setMark_17 : decode cX8_setMark 17 = .ok (.iaload, 1) := by decide +kernel
theorem dX8_setMark_18 : decode cX8_setMark 18 = .ok (.iconst 1, 1) := by decide +kernel
theorem dX8_setMark_19 : decode cX8_setMark 19 = .ok (.iload_n 2, 1) := by decide +kernel
theorem dX8_setMark_20 : decode cX8_setMark 20 = .ok (.bipush 32, 2) := by decide +kernel
theorem dX8_setMark_22 : decode cX8_setMark 22 = .ok (.irem, 1) := by decide +kernel
theorem dX8_setMark_23 : decode cX8_setMark 23 = .ok (.ishl, 1) := by decide +kernel
theorem dX8_setMark_24 : decode cX8_setMark 24 = .ok (.ixor, 1) := by decide +kernel
theorem dX8_setMark_25 : decode cX8_setMark 25 = .ok (.iastore, 1) := by decide +kernel
theorem dX8_setMark_26 : decode cX8_setMark 26 = .ok (.return_, 1) := by decide +kernel
theorem dX8_clearMarks_0 : decode cX8_clearMarks 0 = .ok (.sipush 232, 3) := by decide +kernel
theorem dX8_clearMarks_3 : decode cX8_clearMarks 3 = .ok (.istore_n 1, 1) := by decide +kernel
theorem dX8_clearMarks_4 : decode cX8_clearMarks 4 = .ok (.iload_n 1, 1) := by decide +kernel
theorem dX8_clearMarks_5 : decode cX8_clearMarks 5 = .ok (.sipush 268, 3) := by decide +kernel
theorem dX8_clearMarks_8 : decode cX8_clearMarks 8 = .ok (.if_icmp .ge 16, 3) := by decide +kernel
theorem dX8_clearMarks_11 : decode cX8_clearMarks 11 = .ok (.aload_n 0, 1) := by decide +kernel
theorem dX8_clearMarks_12 : decode cX8_clearMarks 12 = .ok (.getfield 7, 3) := by decide +kernel
theorem dX8_clearMarks_15 : decode cX8_clearMarks 15 = .ok (.iload_n 1, 1) := by decide +kernel
theorem dX8_clearMarks_16 : decode cX8_clearMarks 16 = .ok (.iconst 0, 1) := by decide +kernel
theorem dX8_clearMarks_17 : decode cX8_clearMarks 17 = .ok (.iastore, 1) := by decide +kernel
theorem dX8_clearMarks_18 : decode cX8_clearMarks 18 = .ok (.iinc 1 1, 3) := by decide +kernel
theorem dX8_clearMarks_21 : decode cX8_clearMarks 21 = .ok (.goto (-17), 3) := by decide +kernel
theorem dX8_clearMarks_24 : decode cX8_clearMarks 24 = .ok (.return_, 1) := by decide +kernel
set_option maxRecDepth 20000 in
theorem ggX8_marksOf_X8_beats : GoodIn wsX8_marksOf wsX8_beats := goodIn_r _ [5, 6, 11, 12, 13, 14, 15, 16, 17, 18, 19, 20, 21, 22, 23, 24, 25, 26, 27, 28, 29, 30] (by decide +kernel) (by decide +kernel)
set_option maxRecDepth 20000 in
theorem gX8_marksOf_X8_beats : GoodIn wsX8_marksOf (wsV RX8 65 RX8 yX8_beats wsX8_beats) := goodIn_app (goodIn_of _ (by decide +kernel)) ggX8_marksOf_X8_beats
set_option maxRecDepth 20000 in
theorem ggX8_marksOf_X8_isMarked : GoodIn wsX8_marksOf wsX8_isMarked := goodIn_r _ [10, 6, 11, 12, 13, 14, 15, 16, 17, 18, 19, 20, 21, 22, 23, 24, 25, 26, 27, 28, 29, 30] (by decide +kernel) (by decide +kernel)
set_option maxRecDepth 20000 in
theorem gX8_marksOf_X8_isMarked : GoodIn wsX8_marksOf (wsV RX8 128 RX8 yX8_isMarked wsX8_isMarked) := goodIn_app (goodIn_of _ (by decide +kernel)) ggX8_marksOf_X8_isMarked
theorem dX8_marksOf_0 : decode cX8_marksOf 0 = .ok (.iconst 0, 1) := by decide +kernel
theorem dX8_marksOf_1 : decode cX8_marksOf 1 = .ok (.istore_n 2, 1) := by decide +kernel
theorem dX8_marksOf_2 : decode cX8_marksOf 2 = .ok (.iconst 0, 1) := by decide +kernel
theorem dX8_marksOf_3 : decode cX8_marksOf 3 = .ok (.istore_n 3, 1) := by decide +kernel
theorem dX8_marksOf_4 : decode cX8_marksOf 4 = .ok (.iload_n 3, 1) := by decide +kernel
theorem dX8_marksOf_5 : decode cX8_marksOf 5 = .ok (.aload_n 0, 1) := by decide +kernel
theorem dX8_marksOf_6 : decode cX8_marksOf 6 = .ok (.invokevirtual 65, 3) := by decide +kernel
theorem dX8_marksOf_9 : decode cX8_marksOf 9 = .ok (.if_icmp .ge 26, 3) := by decide +kernel
theorem dX8_marksOf_12 : decode cX8_marksOf 12 = .ok (.iload_n 2, 1) := by decide +kernel
theorem dX8_marksOf_13 : decode cX8_marksOf 13 = .ok (.aload_n 0, 1) := by decide +kernel
theorem dX8_marksOf_14 : decode cX8_marksOf 14 = .ok (.iload_n 1, 1) := by decide +kernel
theorem dX8_marksOf_15 : decode cX8_marksOf 15 = .ok (.iload_n 3, 1) := by decide +kernel
theorem dX8_marksOf_16 : decode cX8_marksOf 16 = .ok (.invokevirtual 128, 3) := by decide +kernel
theorem dX8_marksOf_19 : decode cX8_marksOf 19 = .ok (.ifCond .eq 7, 3) := by decide +kernel
theorem dX8_marksOf_22 : decode cX8_marksOf 22 = .ok (.iconst 1, 1) := by decide +kernel
theorem dX8_marksOf_23 : decode cX8_marksOf 23 = .ok (.goto 4, 3) := by decide +kernel
theorem dX8_marksOf_26 : decode cX8_marksOf 26 = .ok (.iconst 0, 1) := by decide +kernel
theorem dX8_marksOf_27 : decode cX8_marksOf 27 = .ok (.iadd, 1) := by decide +kernel
theorem dX8_marksOf_28 : decode cX8_marksOf 28 = .ok (.istore_n 2, 1) := by decide +kernel
theorem dX8_marksOf_29 : decode cX8_marksOf 29 = .ok (.iinc 3 1, 3) := by decide +kernel
theorem dX8_marksOf_32 : decode cX8_marksOf 32 = .ok (.goto (-28), 3) := by decide +kernel
theorem dX8_marksOf_35 : decode cX8_marksOf 35 = .ok (.iload_n 2, 1) := by decide +kernel
theorem dX8_marksOf_36 : decode cX8_marksOf 36 = .ok (.ireturn, 1) := by decide +kernel
set_option maxRecDepth 20000 in
theorem ggX8_allMarks_X8_singers : GoodIn wsX8_allMarks wsX8_singers := goodIn_r _ [5, 6, 19, 20, 21, 22, 23, 24, 25, 26, 27, 28, 29, 30, 31, 32, 33, 34, 35, 36, 37, 38] (by decide +kernel) (by decide +kernel)
set_option maxRecDepth 20000 in
theorem gX8_allMarks_X8_singers : GoodIn wsX8_allMarks (wsV RX8 76 RX8 yX8_singers wsX8_singers) := goodIn_app (goodIn_of _ (by decide +kernel)) ggX8_allMarks_X8_singers
set_option maxRecDepth 20000 in
theorem ggX8_allMarks_X8_marksOf : GoodIn wsX8_allMarks wsX8_marksOf := goodIn_r _ [10, 11, 12, 13, 4, 14, 6, 15, 16, 17, 18, 19, 20, 21, 22, 23, 24, 25, 26, 27, 28, 29, 30, 31, 32, 33, 34, 35, 36, 37, 38] (by decide +kernel) (by decide +kernel)
set_option maxRecDepth 20000 in
theorem gX8_allMarks_X8_marksOf : GoodIn wsX8_allMarks (wsV RX8 132 RX8 yX8_marksOf wsX8_marksOf) := goodIn_app (goodIn_of _ (by decide +kernel)) ggX8_allMarks_X8_marksOf
theorem dX8_allMarks_0 : decode cX8_allMarks 0 = .ok (.iconst 0, 1) := by decide +kernel
theorem dX8_allMarks_1 : decode cX8_allMarks 1 = .ok (.istore_n 1, 1) := by decide +kernel
theorem dX8_allMarks_2 : decode cX8_allMarks 2 = .ok (.iconst 0, 1) := by decide +kernel
theorem dX8_allMarks_3 : decode cX8_allMarks 3 = .ok (.istore_n 2, 1) := by decide +kernel
theorem dX8_allMarks_4 : decode cX8_allMarks 4 = .ok (.iload_n 2, 1) := by decide +kernel
theorem dX8_allMarks_5 : decode cX8_allMarks 5 = .ok (.aload_n 0, 1) := by decide +kernel
theorem dX8_allMarks_6 : decode cX8_allMarks 6 = .ok (.invokevirtual 76, 3) := by decide +kernel
theorem dX8_allMarks_9 : decode cX8_allMarks 9 = .ok (.if_icmp .ge 17, 3) := by decide +kernel
theorem dX8_allMarks_12 : decode cX8_allMarks 12 = .ok (.iload_n 1, 1) := by decide +kernel
theorem dX8_allMarks_13 : decode cX8_allMarks 13 = .ok (.aload_n 0, 1) := by decide +kernel
theorem dX8_allMarks_14 : decode cX8_allMarks 14 = .ok (.iload_n 2, 1) := by decide +kernel
theorem dX8_allMarks_15 : decode cX8_allMarks 15 = .ok (.invokevirtual 132, 3) := by decide +kernel
theorem dX8_allMarks_18 : decode cX8_allMarks 18 = .ok (.iadd, 1) := by decide +kernel
theorem dX8_allMarks_19 : decode cX8_allMarks 19 = .ok (.istore_n 1, 1) := by decide +kernel
theorem dX8_allMarks_20 : decode cX8_allMarks 20 = .ok (.iinc 2 1, 3) := by decide +kernel
theorem dX8_allMarks_23 : decode cX8_allMarks 23 = .ok (.goto (-19), 3) := by decide +kernel
theorem dX8_allMarks_26 : decode cX8_allMarks 26 = .ok (.iload_n 1, 1) := by decide +kernel
theorem dX8_allMarks_27 : decode cX8_allMarks 27 = .ok (.ireturn, 1) := by decide +kernel
set_option maxRecDepth 20000 in
theorem ggX8_mark_X8_noSinger : GoodIn wsX8_mark wsX8_noSinger := goodIn_r _ [5, 6, 7, 8, 4, 9, 10, 11, 12, 13, 45, 46, 47, 48, 49, 50, 51, 52, 53, 54, 55, 56, 57, 58, 59, 60, 61, 62, 63, 64] (by decide +kernel) (by decide +kernel)
set_option maxRecDepth 20000 in
theorem gX8_mark_X8_noSinger : GoodIn wsX8_mark (wsV RX8 116 RX8 yX8_noSinger wsX8_noSinger) := goodIn_app (goodIn_of _ (by decide +kernel)) ggX8_mark_X8_noSinger
set_option maxRecDepth 20000 in
theorem ggX8_mark_X8_noBeat : GoodIn wsX8_mark wsX8_noBeat := goodIn_r _ [17, 18, 19, 20, 4, 21, 10, 11, 12, 13, 45, 46, 47, 48, 49, 50, 51, 52, 53, 54, 55, 56, 57, 58, 59, 60, 61, 62, 63, 64] (by decide +kernel) (by decide +kernel)
set_option maxRecDepth 20000 in
theorem gX8_mark_X8_noBeat : GoodIn wsX8_mark (wsV RX8 105 RX8 yX8_noBeat wsX8_noBeat) := goodIn_app (goodIn_of _ (by decide +kernel)) ggX8_mark_X8_noBeat
set_option maxRecDepth 20000 in
theorem ggX8_mark_X8_isMarked : GoodIn wsX8_mark wsX8_isMarked := goodIn_r _ [25, 10, 45, 46, 47, 48, 49, 50, 51, 52, 53, 54, 55, 56, 57, 58, 59, 60, 61, 62, 63, 64] (by decide +kernel) (by decide +kernel)
set_option maxRecDepth 20000 in
theorem gX8_mark_X8_isMarked : GoodIn wsX8_mark (wsV RX8 128 RX8 yX8_isMarked wsX8_isMarked) := goodIn_app (goodIn_of _ (by decide +kernel)) ggX8_mark_X8_isMarked
set_option maxRecDepth 20000 in
theorem ggX8_mark_X8_begin : GoodIn wsX8_mark wsX8_begin := goodIn_r _ [29, 30, 10, 45, 46, 47, 48, 49, 50, 51, 52, 53, 54, 55, 56, 57, 58, 59, 60, 61, 62, 63, 64] (by decide +kernel) (by decide +kernel)
set_option maxRecDepth 20000 in
theorem gX8_mark_X8_begin : GoodIn wsX8_mark (wsV RX8 69 RX8 yX8_begin wsX8_begin) := goodIn_app (goodIn_of _ (by decide +kernel)) ggX8_mark_X8_begin
set_option maxRecDepth 20000 in
theorem ggX8_mark_X8_setMark : GoodIn wsX8_mark wsX8_setMark := goodIn_r _ [34, 10, 45, 46, 47, 48, 49, 50, 51, 52, 53, 54, 55, 56, 57, 58, 59, 60, 61, 62, 63, 64] (by decide +kernel) (by decide +kernel)
set_option maxRecDepth 20000 in
theorem gX8_mark_X8_setMark : GoodIn wsX8_mark (wsV RX8 135 RX8 yX8_setMark wsX8_setMark) := goodIn_app (goodIn_of _ (by decide +kernel)) ggX8_mark_X8_setMark
set_option maxRecDepth 20000 in
theorem ggX8_mark_X8_marksOf : GoodIn wsX8_mark wsX8_marksOf := goodIn_r _ [38, 18, 19, 20, 4, 21, 10, 22, 23, 24, 25, 45, 46, 47, 48, 49, 50, 51, 52, 53, 54, 55, 56, 57, 58, 59, 60, 61, 62, 63, 64] (by decide +kernel) (by decide +kernel)
set_option maxRecDepth 20000 in
theorem gX8_mark_X8_marksOf : GoodIn wsX8_mark (wsV RX8 132 RX8 yX8_marksOf wsX8_marksOf) := goodIn_app (goodIn_of _ (by decide +kernel)) ggX8_mark_X8_marksOf
set_option maxRecDepth 20000 in
theorem ggX8_mark_X8_done : GoodIn wsX8_mark wsX8_done := goodIn_r _ [42, 43, 44, 30, 45, 46, 47, 48, 49, 50, 51, 52, 53, 54, 55, 56, 57, 58, 59, 60, 61, 62, 63, 64] (by decide +kernel) (by decide +kernel)
set_option maxRecDepth 20000 in
theorem gX8_mark_X8_done : GoodIn wsX8_mark (wsV RX8 72 RX8 yX8_done wsX8_done) := goodIn_app (goodIn_of _ (by decide +kernel)) ggX8_mark_X8_done
theorem dX8_mark_0 : decode cX8_mark 0 = .ok (.aload_n 0, 1) := by decide +kernel
theorem dX8_mark_1 : decode cX8_mark 1 = .ok (.iload_n 1, 1) := by decide +kernel
theorem dX8_mark_2 : decode cX8_mark 2 = .ok (.invokevirtual 116, 3) := by decide +kernel
theorem dX8_mark_5 : decode cX8_mark 5 = .ok (.ifCond .ne 11, 3) := by decide +kernel
theorem dX8_mark_8 : decode cX8_mark 8 = .ok (.aload_n 0, 1) := by decide +kernel
theorem dX8_mark_9 : decode cX8_mark 9 = .ok (.iload_n 2, 1) := by decide +kernel
theorem dX8_mark_10 : decode cX8_mark 10 = .ok (.invokevirtual 105, 3) := by decide +kernel
theorem dX8_mark_13 : decode cX8_mark 13 = .ok (.ifCond .eq 5, 3) := by decide +kernel
theorem dX8_mark_16 : decode cX8_mark 16 = .ok (.iconst (-1), 1) := by decide +kernel
theorem dX8_mark_17 : decode cX8_mark 17 = .ok (.ireturn, 1) := by decide +kernel
theorem dX8_mark_18 : decode cX8_mark 18 = .ok (.aload_n 0, 1) := by decide +kernel
theorem dX8_mark_19 : decode cX8_mark 19 = .ok (.iload_n 1, 1) := by decide +kernel
theorem dX8_mark_20 : decode cX8_mark 20 = .ok (.iload_n 2, 1) := by decide +kernel
theorem dX8_mark_21 : decode cX8_mark 21 = .ok (.invokevirtual 128, 3) := by decide +kernel
theorem dX8_mark_24 : decode cX8_mark 24 = .ok (.iload_n 3, 1) := by decide +kernel
theorem dX8_mark_25 : decode cX8_mark 25 = .ok (.if_icmp .ne 6, 3) := by decide +kernel
theorem dX8_mark_28 : decode cX8_mark 28 = .ok (.bipush (-5), 2) := by decide +kernel
theorem dX8_mark_30 : decode cX8_mark 30 = .ok (.ireturn, 1) := by decide +kernel
theorem dX8_mark_31 : decode cX8_mark 31 = .ok (.aload_n 0, 1) := by decide +kernel
theorem dX8_mark_32 : decode cX8_mark 32 = .ok (.invokevirtual 69, 3) := by decide +kernel
theorem dX8_mark_35 : decode cX8_mark 35 = .ok (.aload_n 0, 1) := by decide +kernel
theorem dX8_mark_36 : decode cX8_mark 36 = .ok (.iload_n 1, 1) := by decide +kernel
theorem dX8_mark_37 : decode cX8_mark 37 = .ok (.iload_n 2, 1) := by decide +kernel
theorem dX8_mark_38 : decode cX8_mark 38 = .ok (.invokevirtual 135, 3) := by decide +kernel
theorem dX8_mark_41 : decode cX8_mark 41 = .ok (.aload_n 0, 1) := by decide +kernel
theorem dX8_mark_42 : decode cX8_mark 42 = .ok (.aload_n 0, 1) := by decide +kernel
theorem dX8_mark_43 : decode cX8_mark 43 = .ok (.iload_n 1, 1) := by decide +kernel
theorem dX8_mark_44 : decode cX8_mark 44 = .ok (.invokevirtual 132, 3) := by decide +kernel
theorem dX8_mark_47 : decode cX8_mark 47 = .ok (.invokevirtual 72, 3) := by decide +kernel
theorem dX8_mark_50 : decode cX8_mark 50 = .ok (.ireturn, 1) := by decide +kernel
set_option maxRecDepth 20000 in
theorem ggX8_setReserve_X8_in : GoodIn wsX8_setReserve wsX8_in := goodIn_r _ [5] (by decide +kernel) (by decide +kernel)
set_option maxRecDepth 20000 in
theorem gX8_setReserve_X8_in : GoodIn wsX8_setReserve (va_wsS RX8 61 yX8_in wsX8_in) := goodIn_app (goodIn_of _ (by decide +kernel)) ggX8_setReserve_X8_in
set_option maxRecDepth 20000 in
theorem ggX8_setReserve_X8_begin : GoodIn wsX8_setReserve wsX8_begin := goodIn_r _ [9, 10, 1, 17, 18, 19, 20, 21, 22, 23, 24, 25, 26, 27, 28, 29, 30, 31, 32, 33, 34, 35, 36] (by decide +kernel) (by decide +kernel)
set_option maxRecDepth 20000 in
theorem gX8_setReserve_X8_begin : GoodIn wsX8_setReserve (wsV RX8 69 RX8 yX8_begin wsX8_begin) := goodIn_app (goodIn_of _ (by decide +kernel)) ggX8_setReserve_X8_begin
set_option maxRecDepth 20000 in
theorem ggX8_setReserve_X8_done : GoodIn wsX8_setReserve wsX8_done := goodIn_r _ [14, 15, 16, 10, 17, 18, 19, 20, 21, 22, 23, 24, 25, 26, 27, 28, 29, 30, 31, 32, 33, 34, 35, 36] (by decide +kernel) (by decide +kernel)
set_option maxRecDepth 20000 in
theorem gX8_setReserve_X8_done : GoodIn wsX8_setReserve (wsV RX8 72 RX8 yX8_done wsX8_done) := goodIn_app (goodIn_of _ (by decide +kernel)) ggX8_setReserve_X8_done
theorem dX8_setReserve_0 : decode cX8_setReserve 0 = .ok (.iload_n 1, 1) := by decide +kernel
theorem dX8_setReserve_1 : decode cX8_setReserve 1 = .ok (.iconst 1, 1) := by decide +kernel
theorem dX8_setReserve_2 : decode cX8_setReserve 2 = .ok (.bipush 8, 2) := by decide +kernel
theorem dX8_setReserve_4 : decode cX8_setReserve 4 = .ok (.invokestatic 61, 3) := by decide +kernel
theorem dX8_setReserve_7 : decode cX8_setReserve 7 = .ok (.ifCond .ne 6, 3) := by decide +kernel
theorem dX8_setReserve_10 : decode cX8_setReserve 10 = .ok (.bipush (-2), 2) := by decide +kernel
theorem dX8_setReserve_12 : decode cX8_setReserve 12 = .ok (.ireturn, 1) := by decide +kernel
theorem dX8_setReserve_13 : decode cX8_setReserve 13 = .ok (.aload_n 0, 1) := by decide +kernel
theorem dX8_setReserve_14 : decode cX8_setReserve 14 = .ok (.invokevirtual 69, 3) := by decide +kernel
theorem dX8_setReserve_17 : decode cX8_setReserve 17 = .ok (.aload_n 0, 1) := by decide +kernel
theorem dX8_setReserve_18 : decode cX8_setReserve 18 = .ok (.getfield 7, 3) := by decide +kernel
theorem dX8_setReserve_21 : decode cX8_setReserve 21 = .ok (.iconst 3, 1) := by decide +kernel
theorem dX8_setReserve_22 : decode cX8_setReserve 22 = .ok (.iaload, 1) := by decide +kernel
theorem dX8_setReserve_23 : decode cX8_setReserve 23 = .ok (.istore_n 2, 1) := by decide +kernel
theorem dX8_setReserve_24 : decode cX8_setReserve 24 = .ok (.aload_n 0, 1) := by decide +kernel
theorem dX8_setReserve_25 : decode cX8_setReserve 25 = .ok (.getfield 7, 3) := by decide +kernel
theorem dX8_setReserve_28 : decode cX8_setReserve 28 = .ok (.iconst 3, 1) := by decide +kernel
theorem dX8_setReserve_29 : decode cX8_setReserve 29 = .ok (.iload_n 1, 1) := by decide +kernel
theorem dX8_setReserve_30 : decode cX8_setReserve 30 = .ok (.iastore, 1) := by decide +kernel
theorem dX8_setReserve_31 : decode cX8_setReserve 31 = .ok (.aload_n 0, 1) := by decide +kernel
theorem dX8_setReserve_32 : decode cX8_setReserve 32 = .ok (.iload_n 2, 1) := by decide +kernel
theorem dX8_setReserve_33 : decode cX8_setReserve 33 = .ok (.invokevirtual 72, 3) := by decide +kernel
theorem dX8_setReserve_36 : decode cX8_setReserve 36 = .ok (.ireturn, 1) := by decide +kernel
set_option maxRecDepth 20000 in
theorem ggX8_hasTo_X8_soloAt : GoodIn wsX8_hasTo wsX8_soloAt := goodIn_r _ [5, 6, 7, 8, 4, 9, 10, 11, 12, 13, 14, 15, 16, 17, 26, 27, 28, 29, 30, 31, 32, 33, 34, 35, 36, 37, 38, 39, 40, 41, 42, 43, 44, 45] (by decide +kernel) (by decide +kernel)
set_option maxRecDepth 20000 in
theorem gX8_hasTo_X8_soloAt : GoodIn wsX8_hasTo (wsV RX8 139 RX8 yX8_soloAt wsX8_soloAt) := goodIn_app (goodIn_of _ (by decide +kernel)) ggX8_hasTo_X8_soloAt
set_option maxRecDepth 20000 in
theorem ggX8_hasTo_X8_isRest : GoodIn wsX8_hasTo wsX8_isRest := goodIn_r _ [21, 10, 26, 27, 28, 29, 30, 31, 32, 33, 34, 35, 36, 37, 38, 39, 40, 41, 42, 43, 44, 45] (by decide +kernel) (by decide +kernel)
set_option maxRecDepth 20000 in
theorem gX8_hasTo_X8_isRest : GoodIn wsX8_hasTo (wsV RX8 109 RX8 yX8_isRest wsX8_isRest) := goodIn_app (goodIn_of _ (by decide +kernel)) ggX8_hasTo_X8_isRest
set_option maxRecDepth 20000 in
theorem ggX8_hasTo_X8_of : GoodIn wsX8_hasTo wsX8_of := goodIn_r _ [25, 10, 26, 27, 28, 29, 30, 31, 32, 33, 34, 35, 36, 37, 38, 39, 40, 41, 42, 43, 44, 45] (by decide +kernel) (by decide +kernel)
set_option maxRecDepth 20000 in
theorem gX8_hasTo_X8_of : GoodIn wsX8_hasTo (wsV RX8 112 RX8 yX8_of wsX8_of) := goodIn_app (goodIn_of _ (by decide +kernel)) ggX8_hasTo_X8_of
set_option maxRecDepth 20000 in
theorem ggX8_hasTo_X8_soloOf : GoodIn wsX8_hasTo wsX8_soloOf := goodIn_r _ [14, 10, 26, 27, 28, 29, 30, 31, 32, 33, 34, 35, 36, 37, 38, 39, 40, 41, 42, 43, 44, 45] (by decide +kernel) (by decide +kernel)
set_option maxRecDepth 20000 in
theorem gX8_hasTo_X8_soloOf : GoodIn wsX8_hasTo (wsV RX8 125 RX8 yX8_soloOf wsX8_soloOf) := goodIn_app (goodIn_of _ (by decide +kernel)) ggX8_hasTo_X8_soloOf
theorem dX8_hasTo_0 : decode cX8_hasTo 0 = .ok (.aload_n 0, 1) := by decide +kernel
theorem dX8_hasTo_1 : decode cX8_hasTo 1 = .ok (.iload_n 2, 1) := by decide +kernel
theorem dX8_hasTo_2 : decode cX8_hasTo 2 = .ok (.invokevirtual 139, 3) := by decide +kernel
theorem dX8_hasTo_5 : decode cX8_hasTo 5 = .ok (.istore_n 3, 1) := by decide +kernel
theorem dX8_hasTo_6 : decode cX8_hasTo 6 = .ok (.aload_n 0, 1) := by decide +kernel
theorem dX8_hasTo_7 : decode cX8_hasTo 7 = .ok (.iload_n 2, 1) := by decide +kernel
theorem dX8_hasTo_8 : decode cX8_hasTo 8 = .ok (.invokevirtual 109, 3) := by decide +kernel
theorem dX8_hasTo_11 : decode cX8_hasTo 11 = .ok (.ifCond .ne 31, 3) := by decide +kernel
theorem dX8_hasTo_14 : decode cX8_hasTo 14 = .ok (.aload_n 0, 1) := by decide +kernel
theorem dX8_hasTo_15 : decode cX8_hasTo 15 = .ok (.iload_n 1, 1) := by decide +kernel
theorem dX8_hasTo_16 : decode cX8_hasTo 16 = .ok (.iconst 2, 1) := by decide +kernel
theorem dX8_hasTo_17 : decode cX8_hasTo 17 = .ok (.invokevirtual 112, 3) := by decide +kernel
theorem dX8_hasTo_20 : decode cX8_hasTo 20 = .ok (.iconst 1, 1) := by decide +kernel
theorem dX8_hasTo_21 : decode cX8_hasTo 21 = .ok (.if_icmp .ne 21, 3) := by decide +kernel
theorem dX8_hasTo_24 : decode cX8_hasTo 24 = .ok (.iload_n 3, 1) := by decide +kernel
theorem dX8_hasTo_25 : decode cX8_hasTo 25 = .ok (.ifCond .lt 13, 3) := by decide +kernel
theorem dX8_hasTo_28 : decode cX8_hasTo 28 = .ok (.aload_n 0, 1) := by decide +kernel
theorem dX8_hasTo_29 : decode cX8_hasTo 29 = .ok (.iload_n 3, 1) := by decide +kernel
theorem dX8_hasTo_30 : decode cX8_hasTo 30 = .ok (.iconst 0, 1) := by decide +kernel
theorem dX8_hasTo_31 : decode cX8_hasTo 31 = .ok (.invokevirtual 125, 3) := by decide +kernel
theorem dX8_hasTo_34 : decode cX8_hasTo 34 = .ok (.iload_n 1, 1) := by decide +kernel
theorem dX8_hasTo_35 : decode cX8_hasTo 35 = .ok (.if_icmp .ne 7, 3) := by decide +kernel
theorem dX8_hasTo_38 : decode cX8_hasTo 38 = .ok (.iconst 1, 1) := by decide +kernel
theorem dX8_hasTo_39 : decode cX8_hasTo 39 = .ok (.goto 4, 3) := by decide +kernel
theorem dX8_hasTo_42 : decode cX8_hasTo 42 = .ok (.iconst 0, 1) := by decide +kernel
theorem dX8_hasTo_43 : decode cX8_hasTo 43 = .ok (.ireturn, 1) := by decide +kernel
set_option maxRecDepth 20000 in
theorem ggX8_leftAhead_X8_of : GoodIn wsX8_leftAhead wsX8_of := goodIn_r _ [6, 7, 8, 9, 10, 11, 12, 13, 14, 15, 16, 17, 18, 19, 20, 21, 22, 23, 24, 25, 26, 27] (by decide +kernel) (by decide +kernel)
set_option maxRecDepth 20000 in
theorem gX8_leftAhead_X8_of : GoodIn wsX8_leftAhead (wsV RX8 112 RX8 yX8_of wsX8_of) := goodIn_app (goodIn_of _ (by decide +kernel)) ggX8_leftAhead_X8_of
theorem dX8_leftAhead_0 : decode cX8_leftAhead 0 = .ok (.iload_n 2, 1) := by decide +kernel
theorem dX8_leftAhead_1 : decode cX8_leftAhead 1 = .ok (.ifCond .ne 12, 3) := by decide +kernel
theorem dX8_leftAhead_4 : decode cX8_leftAhead 4 = .ok (.aload_n 0, 1) := by decide +kernel
theorem dX8_leftAhead_5 : decode cX8_leftAhead 5 = .ok (.iload_n 1, 1) := by decide +kernel
theorem dX8_leftAhead_6 : decode cX8_leftAhead 6 = .ok (.iconst 0, 1) := by decide +kernel
theorem dX8_leftAhead_7 : decode cX8_leftAhead 7 = .ok (.invokevirtual 112, 3) := by decide +kernel
theorem dX8_leftAhead_10 : decode cX8_leftAhead 10 = .ok (.goto 16, 3) := by decide +kernel
theorem dX8_leftAhead_13 : decode cX8_leftAhead 13 = .ok (.aload_n 0, 1) := by decide +kernel
theorem dX8_leftAhead_14 : decode cX8_leftAhead 14 = .ok (.getfield 42, 3) := by decide +kernel
theorem dX8_leftAhead_17 : decode cX8_leftAhead 17 = .ok (.bipush 96, 2) := by decide +kernel
theorem dX8_leftAhead_19 : decode cX8_leftAhead 19 = .ok (.iload_n 1, 1) := by decide +kernel
theorem dX8_leftAhead_20 : decode cX8_leftAhead 20 = .ok (.imul, 1) := by decide +kernel
theorem dX8_leftAhead_21 : decode cX8_leftAhead 21 = .ok (.iload_n 2, 1) := by decide +kernel
theorem dX8_leftAhead_22 : decode cX8_leftAhead 22 = .ok (.iadd, 1) := by decide +kernel
theorem dX8_leftAhead_23 : decode cX8_leftAhead 23 = .ok (.iconst 1, 1) := by decide +kernel
theorem dX8_leftAhead_24 : decode cX8_leftAhead 24 = .ok (.isub, 1) := by decide +kernel
theorem dX8_leftAhead_25 : decode cX8_leftAhead 25 = .ok (.iaload, 1) := by decide +kernel
theorem dX8_leftAhead_26 : decode cX8_leftAhead 26 = .ok (.ireturn, 1) := by decide +kernel
set_option maxRecDepth 20000 in
theorem ggX8_live_X8_leftAhead : GoodIn wsX8_live wsX8_leftAhead := goodIn_r _ [7, 2, 8, 9, 10, 6, 11, 12, 47, 48, 49, 50, 51, 52, 53, 54, 55, 56, 57, 58, 59, 60, 61, 62, 63, 64, 65, 66] (by decide +kernel) (by decide +kernel)
set_option maxRecDepth 20000 in
theorem gX8_live_X8_leftAhead : GoodIn wsX8_live (wsV RX8 142 RX8 yX8_leftAhead wsX8_leftAhead) := goodIn_app (goodIn_of _ (by decide +kernel)) ggX8_live_X8_leftAhead
set_option maxRecDepth 20000 in
theorem ggX8_live_X8_hasTo : GoodIn wsX8_live wsX8_hasTo := goodIn_r _ [16, 17, 18, 19, 6, 20, 21, 22, 23, 24, 12, 25, 26, 27, 28, 29, 30, 31, 32, 33, 34, 35, 8, 9, 10, 11, 47, 48, 49, 50, 51, 52, 53, 54, 55, 56, 57, 58, 59, 60, 61, 62, 63, 64, 65, 66] (by decide +kernel) (by decide +kernel)
set_option maxRecDepth 20000 in
theorem gX8_live_X8_hasTo : GoodIn wsX8_live (wsV RX8 145 RX8 yX8_hasTo wsX8_hasTo) := goodIn_app (goodIn_of _ (by decide +kernel)) ggX8_live_X8_hasTo
set_option maxRecDepth 20000 in
theorem ggX8_live_X8_isMarked : GoodIn wsX8_live wsX8_isMarked := goodIn_r _ [39, 12, 47, 48, 49, 50, 51, 52, 53, 54, 55, 56, 57, 58, 59, 60, 61, 62, 63, 64, 65, 66] (by decide +kernel) (by decide +kernel)
set_option maxRecDepth 20000 in
theorem gX8_live_X8_isMarked : GoodIn wsX8_live (wsV RX8 128 RX8 yX8_isMarked wsX8_isMarked) := goodIn_app (goodIn_of _ (by decide +kernel)) ggX8_live_X8_isMarked
set_option maxRecDepth 20000 in
theorem ggX8_live_X8_loud : GoodIn wsX8_live wsX8_loud := goodIn_r _ [43, 12, 47, 48, 49, 50, 51, 52, 53, 54, 55, 56, 57, 58, 59, 60, 61, 62, 63, 64, 65, 66] (by decide +kernel) (by decide +kernel)
set_option maxRecDepth 20000 in
theorem gX8_live_X8_loud : GoodIn wsX8_live (wsV RX8 148 RX8 yX8_loud wsX8_loud) := goodIn_app (goodIn_of _ (by decide +kernel)) ggX8_live_X8_loud
set_option maxRecDepth 20000 in
theorem ggX8_live_X8_of : GoodIn wsX8_live wsX8_of := goodIn_r _ [11, 12, 47, 48, 49, 50, 51, 52, 53, 54, 55, 56, 57, 58, 59, 60, 61, 62, 63, 64, 65, 66] (by decide +kernel) (by decide +kernel)
set_option maxRecDepth 20000 in
theorem gX8_live_X8_of : GoodIn wsX8_live (wsV RX8 112 RX8 yX8_of wsX8_of) := goodIn_app (goodIn_of _ (by decide +kernel)) ggX8_live_X8_of
set_option maxRecDepth 20000 in
theorem ggX8_live_X8_lesser : GoodIn wsX8_live wsX8_lesser := goodIn_r _ [46] (by decide +kernel) (by decide +kernel)
set_option maxRecDepth 20000 in
theorem gX8_live_X8_lesser : GoodIn wsX8_live (va_wsS RX8 151 yX8_lesser wsX8_lesser) := goodIn_app (goodIn_of _ (by decide +kernel)) ggX8_live_X8_lesser
theorem dX8_live_0 : decode cX8_live 0 = .ok (.aload_n 0, 1) := by decide +kernel
theorem dX8_live_1 : decode cX8_live 1 = .ok (.iload_n 1, 1) := by decide +kernel
theorem dX8_live_2 : decode cX8_live 2 = .ok (.iload_n 2, 1) := by decide +kernel
theorem dX8_live_3 : decode cX8_live 3 = .ok (.invokevirtual 142, 3) := by decide +kernel
theorem dX8_live_6 : decode cX8_live 6 = .ok (.istore_n 3, 1) := by decide +kernel
theorem dX8_live_7 : decode cX8_live 7 = .ok (.aload_n 0, 1) := by decide +kernel
theorem dX8_live_8 : decode cX8_live 8 = .ok (.iload_n 1, 1) := by decide +kernel
theorem dX8_live_9 : decode cX8_live 9 = .ok (.iload_n 2, 1) := by decide +kernel
theorem dX8_live_10 : decode cX8_live 10 = .ok (.invokevirtual 145, 3) := by decide +kernel
theorem dX8_live_13 : decode cX8_live 13 = .ok (.ifCond .ne 7, 3) := by decide +kernel
theorem dX8_live_16 : decode cX8_live 16 = .ok (.iconst 3, 1) := by decide +kernel
theorem dX8_live_17 : decode cX8_live 17 = .ok (.goto 30, 3) := by decide +kernel
theorem dX8_live_20 : decode cX8_live 20 = .ok (.aload_n 0, 1) := by decide +kernel
theorem dX8_live_21 : decode cX8_live 21 = .ok (.iload_n 1, 1) := by decide +kernel
theorem dX8_live_22 : decode cX8_live 22 = .ok (.iload_n 2, 1) := by decide +kernel
theorem dX8_live_23 : decode cX8_live 23 = .ok (.invokevirtual 128, 3) := by decide +kernel
theorem dX8_live_26 : decode cX8_live 26 = .ok (.ifCond .eq 7, 3) := by decide +kernel
theorem dX8_live_29 : decode cX8_live 29 = .ok (.iconst 1, 1) := by decide +kernel
theorem dX8_live_30 : decode cX8_live 30 = .ok (.goto 17, 3) := by decide +kernel
theorem dX8_live_33 : decode cX8_live 33 = .ok (.iload_n 3, 1) := by decide +kernel
theorem dX8_live_34 : decode cX8_live 34 = .ok (.aload_n 0, 1) := by decide +kernel
theorem dX8_live_35 : decode cX8_live 35 = .ok (.iload_n 2, 1) := by decide +kernel
theorem dX8_live_36 : decode cX8_live 36 = .ok (.invokevirtual 148, 3) := by decide +kernel
theorem dX8_live_39 : decode cX8_live 39 = .ok (.if_icmp .ge 7, 3) := by decide +kernel
theorem dX8_live_42 : decode cX8_live 42 = .ok (.iconst 2, 1) := by decide +kernel
theorem dX8_live_43 : decode cX8_live 43 = .ok (.goto 4, 3) := by decide +kernel
theorem dX8_live_46 : decode cX8_live 46 = .ok (.iconst 0, 1) := by decide +kernel
theorem dX8_live_47 : decode cX8_live 47 = .ok (.istore 4, 2) := by decide +kernel
theorem dX8_live_49 : decode cX8_live 49 = .ok (.aload_n 0, 1) := by decide +kernel
theorem dX8_live_50 : decode cX8_live 50 = .ok (.getfield 39, 3) := by decide +kernel
theorem dX8_live_53 : decode cX8_live 53 = .ok (.bipush 96, 2) := by decide +kernel
theorem dX8_live_55 : decode cX8_live 55 = .ok (.iload_n 1, 1) := by decide +kernel
theorem dX8_live_56 : decode cX8_live 56 = .ok (.imul, 1) := by decide +kernel
theorem dX8_live_57 : decode cX8_live 57 = .ok (.iload_n 2, 1) := by decide +kernel
theorem dX8_live_58 : decode cX8_live 58 = .ok (.iadd, 1) := by decide +kernel
theorem dX8_live_59 : decode cX8_live 59 = .ok (.iload 4, 2) := by decide +kernel
theorem dX8_live_61 : decode cX8_live 61 = .ok (.iastore, 1) := by decide +kernel
theorem dX8_live_62 : decode cX8_live 62 = .ok (.aload_n 0, 1) := by decide +kernel
theorem dX8_live_63 : decode cX8_live 63 = .ok (.getfield 42, 3) := by decide +kernel
theorem dX8_live_66 : decode cX8_live 66 = .ok (.bipush 96, 2) := by decide +kernel
theorem dX8_live_68 : decode cX8_live 68 = .ok (.iload_n 1, 1) := by decide +kernel
theorem dX8_live_69 : decode cX8_live 69 = .ok (.imul, 1) := by decide +kernel
theorem dX8_live_70 : decode cX8_live 70 = .ok (.iload_n 2, 1) := by decide +kernel
theorem dX8_live_71 : decode cX8_live 71 = .ok (.iadd, 1) := by decide +kernel
theorem dX8_live_72 : decode cX8_live 72 = .ok (.iload 4, 2) := by decide +kernel
theorem dX8_live_74 : decode cX8_live 74 = .ok (.ifCond .ne 13, 3) := by decide +kernel
theorem dX8_live_77 : decode cX8_live 77 = .ok (.iload_n 3, 1) := by decide +kernel
theorem dX8_live_78 : decode cX8_live 78 = .ok (.aload_n 0, 1) := by decide +kernel
theorem dX8_live_79 : decode cX8_live 79 = .ok (.iload_n 2, 1) := by decide +kernel
theorem dX8_live_80 : decode cX8_live 80 = .ok (.invokevirtual 148, 3) := by decide +kernel
theorem dX8_live_83 : decode cX8_live 83 = .ok (.isub, 1) := by decide +kernel
theorem dX8_live_84 : decode cX8_live 84 = .ok (.goto 20, 3) := by decide +kernel
theorem dX8_live_87 : decode cX8_live 87 = .ok (.aload_n 0, 1) := by decide +kernel
theorem dX8_live_88 : decode cX8_live 88 = .ok (.iload_n 1, 1) := by decide +kernel
theorem dX8_live_89 : decode cX8_live 89 = .ok (.iconst 0, 1) := by decide +kernel
theorem dX8_live_90 : decode cX8_live 90 = .ok (.invokevirtual 112, 3) := by decide +kernel
theorem dX8_live_93 : decode cX8_live 93 = .ok (.iload_n 3, 1) := by decide +kernel
theorem dX8_live_94 : decode cX8_live 94 = .ok (.aload_n 0, 1) := by decide +kernel
theorem dX8_live_95 : decode cX8_live 95 = .ok (.iload_n 1, 1) := by decide +kernel
theorem dX8_live_96 : decode cX8_live 96 = .ok (.iconst 1, 1) := by decide +kernel
theorem dX8_live_97 : decode cX8_live 97 = .ok (.invokevirtual 112, 3) := by decide +kernel
theorem dX8_live_100 : decode cX8_live 100 = .ok (.iadd, 1) := by decide +kernel
theorem dX8_live_101 : decode cX8_live 101 = .ok (.invokestatic 151, 3) := by decide +kernel
theorem dX8_live_104 : decode cX8_live 104 = .ok (.iastore, 1) := by decide +kernel
theorem dX8_live_105 : decode cX8_live 105 = .ok (.return_, 1) := by decide +kernel
set_option maxRecDepth 20000 in
theorem ggX8_liveAll_X8_singers : GoodIn wsX8_liveAll wsX8_singers := goodIn_r _ [5, 6, 59, 60, 61, 62, 63, 64, 65, 66, 67, 68, 69, 70, 71, 72, 73, 74, 75, 76, 77, 78] (by decide +kernel) (by decide +kernel)
set_option maxRecDepth 20000 in
theorem gX8_liveAll_X8_singers : GoodIn wsX8_liveAll (wsV RX8 76 RX8 yX8_singers wsX8_singers) := goodIn_app (goodIn_of _ (by decide +kernel)) ggX8_liveAll_X8_singers
set_option maxRecDepth 20000 in
theorem ggX8_liveAll_X8_beats : GoodIn wsX8_liveAll wsX8_beats := goodIn_r _ [10, 6, 59, 60, 61, 62, 63, 64, 65, 66, 67, 68, 69, 70, 71, 72, 73, 74, 75, 76, 77, 78] (by decide +kernel) (by decide +kernel)
set_option maxRecDepth 20000 in
theorem gX8_liveAll_X8_beats : GoodIn wsX8_liveAll (wsV RX8 65 RX8 yX8_beats wsX8_beats) := goodIn_app (goodIn_of _ (by decide +kernel)) ggX8_liveAll_X8_beats
set_option maxRecDepth 20000 in
theorem ggX8_liveAll_X8_live : GoodIn wsX8_liveAll wsX8_live := goodIn_r _ [14, 15, 16, 17, 18, 19, 4, 20, 21, 22, 23, 24, 6, 25, 26, 27, 28, 29, 30, 31, 32, 33, 34, 35, 36, 37, 38, 39, 40, 41, 42, 43, 44, 45, 46, 47, 48, 49, 50, 51, 52, 53, 54, 55, 56, 57, 58, 59, 60, 61, 62, 63, 64, 65, 66, 67, 68, 69, 70, 71, 72, 73, 74, 75, 76, 77, 78] (by decide +kernel) (by decide +kernel)
set_option maxRecDepth 20000 in
theorem gX8_liveAll_X8_live : GoodIn wsX8_liveAll (wsV RX8 154 RX8 yX8_live wsX8_live) := goodIn_app (goodIn_of _ (by decide +kernel)) ggX8_liveAll_X8_live
theorem dX8_liveAll_0 : decode cX8_liveAll 0 = .ok (.iconst 0, 1) := by decide +kernel
theorem dX8_liveAll_1 : decode cX8_liveAll 1 = .ok (.istore_n 1, 1) := by decide +kernel
theorem dX8_liveAll_2 : decode cX8_liveAll 2 = .ok (.iload_n 1, 1) := by decide +kernel
theorem dX8_liveAll_3 : decode cX8_liveAll 3 = .ok (.aload_n 0, 1) := by decide +kernel
theorem dX8_liveAll_4 : decode cX8_liveAll 4 = .ok (.invokevirtual 76, 3) := by decide +kernel
theorem dX8_liveAll_7 : decode cX8_liveAll 7 = .ok (.if_icmp .ge 31, 3) := by decide +kernel
theorem dX8_liveAll_10 : decode cX8_liveAll 10 = .ok (.iconst 0, 1) := by decide +kernel
theorem dX8_liveAll_11 : decode cX8_liveAll 11 = .ok (.istore_n 2, 1) := by decide +kernel
theorem dX8_liveAll_12 : decode cX8_liveAll 12 = .ok (.iload_n 2, 1) := by decide +kernel
theorem dX8_liveAll_13 : decode cX8_liveAll 13 = .ok (.aload_n 0, 1) := by decide +kernel
theorem dX8_liveAll_14 : decode cX8_liveAll 14 = .ok (.invokevirtual 65, 3) := by decide +kernel
theorem dX8_liveAll_17 : decode cX8_liveAll 17 = .ok (.if_icmp .ge 15, 3) := by decide +kernel
theorem dX8_liveAll_20 : decode cX8_liveAll 20 = .ok (.aload_n 0, 1) := by decide +kernel
theorem dX8_liveAll_21 : decode cX8_liveAll 21 = .ok (.iload_n 1, 1) := by decide +kernel
theorem dX8_liveAll_22 : decode cX8_liveAll 22 = .ok (.iload_n 2, 1) := by decide +kernel
theorem dX8_liveAll_23 : decode cX8_liveAll 23 = .ok (.invokevirtual 154, 3) := by decide +kernel
theorem dX8_liveAll_26 : decode cX8_liveAll 26 = .ok (.iinc 2 1, 3) := by decide +kernel
theorem dX8_liveAll_29 : decode cX8_liveAll 29 = .ok (.goto (-17), 3) := by decide +kernel
theorem dX8_liveAll_32 : decode cX8_liveAll 32 = .ok (.iinc 1 1, 3) := by decide +kernel
theorem dX8_liveAll_35 : decode cX8_liveAll 35 = .ok (.goto (-33), 3) := by decide +kernel
theorem dX8_liveAll_38 : decode cX8_liveAll 38 = .ok (.return_, 1) := by decide +kernel
theorem dX8_doesAt_0 : decode cX8_doesAt 0 = .ok (.aload_n 0, 1) := by decide +kernel
theorem dX8_doesAt_1 : decode cX8_doesAt 1 = .ok (.getfield 39, 3) := by decide +kernel
theorem dX8_doesAt_4 : decode cX8_doesAt 4 = .ok (.bipush 96, 2) := by decide +kernel
theorem dX8_doesAt_6 : decode cX8_doesAt 6 = .ok (.iload_n 1, 1) := by decide +kernel
theorem dX8_doesAt_7 : decode cX8_doesAt 7 = .ok (.imul, 1) := by decide +kernel
theorem dX8_doesAt_8 : decode cX8_doesAt 8 = .ok (.iload_n 2, 1) := by decide +kernel
theorem dX8_doesAt_9 : decode cX8_doesAt 9 = .ok (.iadd, 1) := by decide +kernel
theorem dX8_doesAt_10 : decode cX8_doesAt 10 = .ok (.iaload, 1) := by decide +kernel
theorem dX8_doesAt_11 : decode cX8_doesAt 11 = .ok (.ireturn, 1) := by decide +kernel
set_option maxRecDepth 20000 in
theorem ggX8_many_X8_singers : GoodIn wsX8_many wsX8_singers := goodIn_r _ [5, 6, 12, 13, 14, 15, 16, 17, 18, 19, 20, 21, 22, 23, 24, 25, 26, 27, 28, 29, 30, 31] (by decide +kernel) (by decide +kernel)
set_option maxRecDepth 20000 in
theorem gX8_many_X8_singers : GoodIn wsX8_many (wsV RX8 76 RX8 yX8_singers wsX8_singers) := goodIn_app (goodIn_of _ (by decide +kernel)) ggX8_many_X8_singers
set_option maxRecDepth 20000 in
theorem ggX8_many_X8_doesAt : GoodIn wsX8_many wsX8_doesAt := goodIn_r _ [10, 11, 12, 13, 14, 15, 16, 17, 18, 19, 20, 21, 22, 23, 24, 25, 26, 27, 28, 29, 30, 31] (by decide +kernel) (by decide +kernel)
set_option maxRecDepth 20000 in
theorem gX8_many_X8_doesAt : GoodIn wsX8_many (wsV RX8 157 RX8 yX8_doesAt wsX8_doesAt) := goodIn_app (goodIn_of _ (by decide +kernel)) ggX8_many_X8_doesAt
theorem dX8_many_0 : decode cX8_many 0 = .ok (.iconst 0, 1) := by decide +kernel
theorem dX8_many_1 : decode cX8_many 1 = .ok (.istore_n 3, 1) := by decide +kernel
theorem dX8_many_2 : decode cX8_many 2 = .ok (.iconst 0, 1) := by decide +kernel
theorem dX8_many_3 : decode cX8_many 3 = .ok (.istore 4, 2) := by decide +kernel
theorem dX8_many_5 : decode cX8_many 5 = .ok (.iload 4, 2) := by decide +kernel
theorem dX8_many_7 : decode cX8_many 7 = .ok (.aload_n 0, 1) := by decide +kernel
theorem dX8_many_8 : decode cX8_many 8 = .ok (.invokevirtual 76, 3) := by decide +kernel
theorem dX8_many_11 : decode cX8_many 11 = .ok (.if_icmp .ge 28, 3) := by decide +kernel
theorem dX8_many_14 : decode cX8_many 14 = .ok (.iload_n 3, 1) := by decide +kernel
theorem dX8_many_15 : decode cX8_many 15 = .ok (.aload_n 0, 1) := by decide +kernel
theorem dX8_many_16 : decode cX8_many 16 = .ok (.iload 4, 2) := by decide +kernel
theorem dX8_many_18 : decode cX8_many 18 = .ok (.iload_n 1, 1) := by decide +kernel
theorem dX8_many_19 : decode cX8_many 19 = .ok (.invokevirtual 157, 3) := by decide +kernel
theorem dX8_many_22 : decode cX8_many 22 = .ok (.iload_n 2, 1) := by decide +kernel
theorem dX8_many_23 : decode cX8_many 23 = .ok (.if_icmp .ne 7, 3) := by decide +kernel
theorem dX8_many_26 : decode cX8_many 26 = .ok (.iconst 1, 1) := by decide +kernel
theorem dX8_many_27 : decode cX8_many 27 = .ok (.goto 4, 3) := by decide +kernel
theorem dX8_many_30 : decode cX8_many 30 = .ok (.iconst 0, 1) := by decide +kernel
theorem dX8_many_31 : decode cX8_many 31 = .ok (.iadd, 1) := by decide +kernel
theorem dX8_many_32 : decode cX8_many 32 = .ok (.istore_n 3, 1) := by decide +kernel
theorem dX8_many_33 : decode cX8_many 33 = .ok (.iinc 4 1, 3) := by decide +kernel
theorem dX8_many_36 : decode cX8_many 36 = .ok (.goto (-31), 3) := by decide +kernel
theorem dX8_many_39 : decode cX8_many 39 = .ok (.iload_n 3, 1) := by decide +kernel
theorem dX8_many_40 : decode cX8_many 40 = .ok (.ireturn, 1) := by decide +kernel
set_option maxRecDepth 20000 in
theorem ggX8_reserveAt_X8_beats : GoodIn wsX8_reserveAt wsX8_beats := goodIn_r _ [6, 1, 15, 16, 17, 18, 19, 20, 21, 22, 23, 24, 25, 26, 27, 28, 29, 30, 31, 32, 33, 34] (by decide +kernel) (by decide +kernel)
set_option maxRecDepth 20000 in
theorem gX8_reserveAt_X8_beats : GoodIn wsX8_reserveAt (wsV RX8 65 RX8 yX8_beats wsX8_beats) := goodIn_app (goodIn_of _ (by decide +kernel)) ggX8_reserveAt_X8_beats
set_option maxRecDepth 20000 in
theorem ggX8_reserveAt_X8_isRest : GoodIn wsX8_reserveAt wsX8_isRest := goodIn_r _ [10, 1, 15, 16, 17, 18, 19, 20, 21, 22, 23, 24, 25, 26, 27, 28, 29, 30, 31, 32, 33, 34] (by decide +kernel) (by decide +kernel)
set_option maxRecDepth 20000 in
theorem gX8_reserveAt_X8_isRest : GoodIn wsX8_reserveAt (wsV RX8 109 RX8 yX8_isRest wsX8_isRest) := goodIn_app (goodIn_of _ (by decide +kernel)) ggX8_reserveAt_X8_isRest
set_option maxRecDepth 20000 in
theorem ggX8_reserveAt_X8_loud : GoodIn wsX8_reserveAt wsX8_loud := goodIn_r _ [14, 1, 15, 16, 17, 18, 19, 20, 21, 22, 23, 24, 25, 26, 27, 28, 29, 30, 31, 32, 33, 34] (by decide +kernel) (by decide +kernel)
set_option maxRecDepth 20000 in
theorem gX8_reserveAt_X8_loud : GoodIn wsX8_reserveAt (wsV RX8 148 RX8 yX8_loud wsX8_loud) := goodIn_app (goodIn_of _ (by decide +kernel)) ggX8_reserveAt_X8_loud
theorem dX8_reserveAt_0 : decode cX8_reserveAt 0 = .ok (.iconst 0, 1) := by decide +kernel
theorem dX8_reserveAt_1 : decode cX8_reserveAt 1 = .ok (.istore_n 2, 1) := by decide +kernel
theorem dX8_reserveAt_2 : decode cX8_reserveAt 2 = .ok (.aload_n 0, 1) := by decide +kernel
theorem dX8_reserveAt_3 : decode cX8_reserveAt 3 = .ok (.getfield 7, 3) := by decide +kernel
theorem dX8_reserveAt_6 : decode cX8_reserveAt 6 = .ok (.iconst 3, 1) := by decide +kernel
theorem dX8_reserveAt_7 : decode cX8_reserveAt 7 = .ok (.iaload, 1) := by decide +kernel
theorem dX8_reserveAt_8 : decode cX8_reserveAt 8 = .ok (.istore_n 3, 1) := by decide +kernel
theorem dX8_reserveAt_9 : decode cX8_reserveAt 9 = .ok (.iload_n 1, 1) := by decide +kernel
theorem dX8_reserveAt_10 : decode cX8_reserveAt 10 = .ok (.istore 4, 2) := by decide +kernel
theorem dX8_reserveAt_12 : decode cX8_reserveAt 12 = .ok (.iload 4, 2) := by decide +kernel
theorem dX8_reserveAt_14 : decode cX8_reserveAt 14 = .ok (.aload_n 0, 1) := by decide +kernel
theorem dX8_reserveAt_15 : decode cX8_reserveAt 15 = .ok (.invokevirtual 65, 3) := by decide +kernel
theorem dX8_reserveAt_18 : decode cX8_reserveAt 18 = .ok (.if_icmp .ge 52, 3) := by decide +kernel
theorem dX8_reserveAt_21 : decode cX8_reserveAt 21 = .ok (.iload_n 3, 1) := by decide +kernel
theorem dX8_reserveAt_22 : decode cX8_reserveAt 22 = .ok (.ifCond .le 48, 3) := by decide +kernel
theorem dX8_reserveAt_25 : decode cX8_reserveAt 25 = .ok (.iload_n 2, 1) := by decide +kernel
theorem dX8_reserveAt_26 : decode cX8_reserveAt 26 = .ok (.aload_n 0, 1) := by decide +kernel
theorem dX8_reserveAt_27 : decode cX8_reserveAt 27 = .ok (.iload 4, 2) := by decide +kernel
theorem dX8_reserveAt_29 : decode cX8_reserveAt 29 = .ok (.invokevirtual 109, 3) := by decide +kernel
theorem dX8_reserveAt_32 : decode cX8_reserveAt 32 = .ok (.ifCond .eq 7, 3) := by decide +kernel
theorem dX8_reserveAt_35 : decode cX8_reserveAt 35 = .ok (.iconst 0, 1) := by decide +kernel
theorem dX8_reserveAt_36 : decode cX8_reserveAt 36 = .ok (.goto 9, 3) := by decide +kernel
theorem dX8_reserveAt_39 : decode cX8_reserveAt 39 = .ok (.aload_n 0, 1) := by decide +kernel
theorem dX8_reserveAt_40 : decode cX8_reserveAt 40 = .ok (.iload 4, 2) := by decide +kernel
theorem dX8_reserveAt_42 : decode cX8_reserveAt 42 = .ok (.invokevirtual 148, 3) := by decide +kernel
theorem dX8_reserveAt_45 : decode cX8_reserveAt 45 = .ok (.iadd, 1) := by decide +kernel
theorem dX8_reserveAt_46 : decode cX8_reserveAt 46 = .ok (.istore_n 2, 1) := by decide +kernel
theorem dX8_reserveAt_47 : decode cX8_reserveAt 47 = .ok (.iload_n 3, 1) := by decide +kernel
theorem dX8_reserveAt_48 : decode cX8_reserveAt 48 = .ok (.aload_n 0, 1) := by decide +kernel
theorem dX8_reserveAt_49 : decode cX8_reserveAt 49 = .ok (.iload 4, 2) := by decide +kernel
theorem dX8_reserveAt_51 : decode cX8_reserveAt 51 = .ok (.invokevirtual 109, 3) := by decide +kernel
theorem dX8_reserveAt_54 : decode cX8_reserveAt 54 = .ok (.ifCond .eq 7, 3) := by decide +kernel
theorem dX8_reserveAt_57 : decode cX8_reserveAt 57 = .ok (.iconst 0, 1) := by decide +kernel
theorem dX8_reserveAt_58 : decode cX8_reserveAt 58 = .ok (.goto 4, 3) := by decide +kernel
theorem dX8_reserveAt_61 : decode cX8_reserveAt 61 = .ok (.iconst 1, 1) := by decide +kernel
theorem dX8_reserveAt_62 : decode cX8_reserveAt 62 = .ok (.isub, 1) := by decide +kernel
theorem dX8_reserveAt_63 : decode cX8_reserveAt 63 = .ok (.istore_n 3, 1) := by decide +kernel
theorem dX8_reserveAt_64 : decode cX8_reserveAt 64 = .ok (.iinc 4 1, 3) := by decide +kernel
theorem dX8_reserveAt_67 : decode cX8_reserveAt 67 = .ok (.goto (-55), 3) := by decide +kernel
theorem dX8_reserveAt_70 : decode cX8_reserveAt 70 = .ok (.iload_n 2, 1) := by decide +kernel
theorem dX8_reserveAt_71 : decode cX8_reserveAt 71 = .ok (.ireturn, 1) := by decide +kernel
set_option maxRecDepth 20000 in
theorem ggX8_someoneSings_X8_singers : GoodIn wsX8_someoneSings wsX8_singers := goodIn_r _ [6, 7, 21, 22, 23, 24, 25, 26, 27, 28, 29, 30, 31, 32, 33, 34, 35, 36, 37, 38, 39, 40] (by decide +kernel) (by decide +kernel)
set_option maxRecDepth 20000 in
theorem gX8_someoneSings_X8_singers : GoodIn wsX8_someoneSings (wsV RX8 76 RX8 yX8_singers wsX8_singers) := goodIn_app (goodIn_of _ (by decide +kernel)) ggX8_someoneSings_X8_singers
set_option maxRecDepth 20000 in
theorem ggX8_someoneSings_X8_of : GoodIn wsX8_someoneSings wsX8_of := goodIn_r _ [11, 7, 21, 22, 23, 24, 25, 26, 27, 28, 29, 30, 31, 32, 33, 34, 35, 36, 37, 38, 39, 40] (by decide +kernel) (by decide +kernel)
set_option maxRecDepth 20000 in
theorem gX8_someoneSings_X8_of : GoodIn wsX8_someoneSings (wsV RX8 112 RX8 yX8_of wsX8_of) := goodIn_app (goodIn_of _ (by decide +kernel)) ggX8_someoneSings_X8_of
set_option maxRecDepth 20000 in
theorem ggX8_someoneSings_X8_leftAhead : GoodIn wsX8_someoneSings wsX8_leftAhead := goodIn_r _ [15, 16, 8, 9, 10, 5, 11, 7, 21, 22, 23, 24, 25, 26, 27, 28, 29, 30, 31, 32, 33, 34, 35, 36, 37, 38, 39, 40] (by decide +kernel) (by decide +kernel)
set_option maxRecDepth 20000 in
theorem gX8_someoneSings_X8_leftAhead : GoodIn wsX8_someoneSings (wsV RX8 142 RX8 yX8_leftAhead wsX8_leftAhead) := goodIn_app (goodIn_of _ (by decide +kernel)) ggX8_someoneSings_X8_leftAhead
set_option maxRecDepth 20000 in
theorem ggX8_someoneSings_X8_loud : GoodIn wsX8_someoneSings wsX8_loud := goodIn_r _ [20, 7, 21, 22, 23, 24, 25, 26, 27, 28, 29, 30, 31, 32, 33, 34, 35, 36, 37, 38, 39, 40] (by decide +kernel) (by decide +kernel)
set_option maxRecDepth 20000 in
theorem gX8_someoneSings_X8_loud : GoodIn wsX8_someoneSings (wsV RX8 148 RX8 yX8_loud wsX8_loud) := goodIn_app (goodIn_of _ (by decide +kernel)) ggX8_someoneSings_X8_loud
theorem dX8_someoneSings_0 : decode cX8_someoneSings 0 = .ok (.iconst 0, 1) := by decide +kernel
theorem dX8_someoneSings_1 : decode cX8_someoneSings 1 = .ok (.istore_n 2, 1) := by decide +kernel
theorem dX8_someoneSings_2 : decode cX8_someoneSings 2 = .ok (.iconst 0, 1) := by decide +kernel
theorem dX8_someoneSings_3 : decode cX8_someoneSings 3 = .ok (.istore_n 3, 1) := by decide +kernel
theorem dX8_someoneSings_4 : decode cX8_someoneSings 4 = .ok (.iload_n 3, 1) := by decide +kernel
theorem dX8_someoneSings_5 : decode cX8_someoneSings 5 = .ok (.aload_n 0, 1) := by decide +kernel
theorem dX8_someoneSings_6 : decode cX8_someoneSings 6 = .ok (.invokevirtual 76, 3) := by decide +kernel
theorem dX8_someoneSings_9 : decode cX8_someoneSings 9 = .ok (.if_icmp .ge 52, 3) := by decide +kernel
theorem dX8_someoneSings_12 : decode cX8_someoneSings 12 = .ok (.iload_n 2, 1) := by decide +kernel
theorem dX8_someoneSings_13 : decode cX8_someoneSings 13 = .ok (.ifCond .ne 36, 3) := by decide +kernel
theorem dX8_someoneSings_16 : decode cX8_someoneSings 16 = .ok (.aload_n 0, 1) := by decide +kernel
theorem dX8_someoneSings_17 : decode cX8_someoneSings 17 = .ok (.iload_n 3, 1) := by decide +kernel
theorem dX8_someoneSings_18 : decode cX8_someoneSings 18 = .ok (.iconst 2, 1) := by decide +kernel
theorem dX8_someoneSings_19 : decode cX8_someoneSings 19 = .ok (.invokevirtual 112, 3) := by decide +kernel
theorem dX8_someoneSings_22 : decode cX8_someoneSings 22 = .ok (.iconst 1, 1) := by decide +kernel
theorem dX8_someoneSings_23 : decode cX8_someoneSings 23 = .ok (.if_icmp .ne 30, 3) := by decide +kernel
theorem dX8_someoneSings_26 : decode cX8_someoneSings 26 = .ok (.aload_n 0, 1) := by decide +kernel
theorem dX8_someoneSings_27 : decode cX8_someoneSings 27 = .ok (.getfield 45, 3) := by decide +kernel
theorem dX8_someoneSings_30 : decode cX8_someoneSings 30 = .ok (.iload_n 3, 1) := by decide +kernel
theorem dX8_someoneSings_31 : decode cX8_someoneSings 31 = .ok (.baload, 1) := by decide +kernel
theorem dX8_someoneSings_32 : decode cX8_someoneSings 32 = .ok (.ifCond .ne 21, 3) := by decide +kernel
theorem dX8_someoneSings_35 : decode cX8_someoneSings 35 = .ok (.aload_n 0, 1) := by decide +kernel
theorem dX8_someoneSings_36 : decode cX8_someoneSings 36 = .ok (.iload_n 3, 1) := by decide +kernel
theorem dX8_someoneSings_37 : decode cX8_someoneSings 37 = .ok (.iload_n 1, 1) := by decide +kernel
theorem dX8_someoneSings_38 : decode cX8_someoneSings 38 = .ok (.invokevirtual 142, 3) := by decide +kernel
theorem dX8_someoneSings_41 : decode cX8_someoneSings 41 = .ok (.aload_n 0, 1) := by decide +kernel
theorem dX8_someoneSings_42 : decode cX8_someoneSings 42 = .ok (.iload_n 1, 1) := by decide +kernel
theorem dX8_someoneSings_43 : decode cX8_someoneSings 43 = .ok (.invokevirtual 148, 3) := by decide +kernel
theorem dX8_someoneSings_46 : decode cX8_someoneSings 46 = .ok (.if_icmp .lt 7, 3) := by decide +kernel
theorem dX8_someoneSings_49 : decode cX8_someoneSings 49 = .ok (.iconst 1, 1) := by decide +kernel
theorem dX8_someoneSings_50 : decode cX8_someoneSings 50 = .ok (.goto 4, 3) := by decide +kernel
theorem dX8_someoneSings_53 : decode cX8_someoneSings 53 = .ok (.iconst 0, 1) := by decide +kernel
theorem dX8_someoneSings_54 : decode cX8_someoneSings 54 = .ok (.istore_n 2, 1) := by decide +kernel
theorem dX8_someoneSings_55 : decode cX8_someoneSings 55 = .ok (.iinc 3 1, 3) := by decide +kernel
theorem dX8_someoneSings_58 : decode cX8_someoneSings 58 = .ok (.goto (-54), 3) := by decide +kernel
theorem dX8_someoneSings_61 : decode cX8_someoneSings 61 = .ok (.iload_n 2, 1) := by decide +kernel
theorem dX8_someoneSings_62 : decode cX8_someoneSings 62 = .ok (.ireturn, 1) := by decide +kernel
set_option maxRecDepth 20000 in
theorem ggX8_nextToBreathe_X8_singers : GoodIn wsX8_nextToBreathe wsX8_singers := goodIn_r _ [6, 7, 33, 34, 35, 36, 37, 38, 39, 40, 41, 42, 43, 44, 45, 46, 47, 48, 49, 50, 51, 52] (by decide +kernel) (by decide +kernel)
set_option maxRecDepth 20000 in
theorem gX8_nextToBreathe_X8_singers : GoodIn wsX8_nextToBreathe (wsV RX8 76 RX8 yX8_singers wsX8_singers) := goodIn_app (goodIn_of _ (by decide +kernel)) ggX8_nextToBreathe_X8_singers
set_option maxRecDepth 20000 in
theorem ggX8_nextToBreathe_X8_of : GoodIn wsX8_nextToBreathe wsX8_of := goodIn_r _ [11, 7, 33, 34, 35, 36, 37, 38, 39, 40, 41, 42, 43, 44, 45, 46, 47, 48, 49, 50, 51, 52] (by decide +kernel) (by decide +kernel)
set_option maxRecDepth 20000 in
theorem gX8_nextToBreathe_X8_of : GoodIn wsX8_nextToBreathe (wsV RX8 112 RX8 yX8_of wsX8_of) := goodIn_app (goodIn_of _ (by decide +kernel)) ggX8_nextToBreathe_X8_of
set_option maxRecDepth 20000 in
theorem ggX8_nextToBreathe_X8_leftAhead : GoodIn wsX8_nextToBreathe wsX8_leftAhead := goodIn_r _ [15, 16, 8, 9, 10, 5, 11, 7, 33, 34, 35, 36, 37, 38, 39, 40, 41, 42, 43, 44, 45, 46, 47, 48, 49, 50, 51, 52] (by decide +kernel) (by decide +kernel)
set_option maxRecDepth 20000 in
theorem gX8_nextToBreathe_X8_leftAhead : GoodIn wsX8_nextToBreathe (wsV RX8 142 RX8 yX8_leftAhead wsX8_leftAhead) := goodIn_app (goodIn_of _ (by decide +kernel)) ggX8_nextToBreathe_X8_leftAhead
set_option maxRecDepth 20000 in
theorem ggX8_nextToBreathe_X8_reserveAt : GoodIn wsX8_nextToBreathe wsX8_reserveAt := goodIn_r _ [20, 7, 21, 22, 23, 5, 24, 25, 26, 27, 28, 29, 30, 31, 32, 33, 34, 35, 36, 37, 38, 39, 40, 41, 42, 43, 44, 45, 46, 47, 48, 49, 50, 51, 52] (by decide +kernel) (by decide +kernel)
set_option maxRecDepth 20000 in
theorem gX8_nextToBreathe_X8_reserveAt : GoodIn wsX8_nextToBreathe (wsV RX8 160 RX8 yX8_reserveAt wsX8_reserveAt) := goodIn_app (goodIn_of _ (by decide +kernel)) ggX8_nextToBreathe_X8_reserveAt
theorem dX8_nextToBreathe_0 : decode cX8_nextToBreathe 0 = .ok (.bipush (-5), 2) := by decide +kernel
theorem dX8_nextToBreathe_2 : decode cX8_nextToBreathe 2 = .ok (.istore_n 2, 1) := by decide +kernel
theorem dX8_nextToBreathe_3 : decode cX8_nextToBreathe 3 = .ok (.iconst 0, 1) := by decide +kernel
theorem dX8_nextToBreathe_4 : decode cX8_nextToBreathe 4 = .ok (.istore_n 3, 1) := by decide +kernel
theorem dX8_nextToBreathe_5 : decode cX8_nextToBreathe 5 = .ok (.iload_n 3, 1) := by decide +kernel
theorem dX8_nextToBreathe_6 : decode cX8_nextToBreathe 6 = .ok (.aload_n 0, 1) := by decide +kernel
theorem dX8_nextToBreathe_7 : decode cX8_nextToBreathe 7 = .ok (.invokevirtual 76, 3) := by decide +kernel
theorem dX8_nextToBreathe_10 : decode cX8_nextToBreathe 10 = .ok (.if_icmp .ge 79, 3) := by decide +kernel
theorem dX8_nextToBreathe_13 : decode cX8_nextToBreathe 13 = .ok (.aload_n 0, 1) := by decide +kernel
theorem dX8_nextToBreathe_14 : decode cX8_nextToBreathe 14 = .ok (.iload_n 3, 1) := by decide +kernel
theorem dX8_nextToBreathe_15 : decode cX8_nextToBreathe 15 = .ok (.iconst 2, 1) := by decide +kernel
theorem dX8_nextToBreathe_16 : decode cX8_nextToBreathe 16 = .ok (.invokevirtual 112, 3) := by decide +kernel
theorem dX8_nextToBreathe_19 : decode cX8_nextToBreathe 19 = .ok (.iconst 1, 1) := by decide +kernel
theorem dX8_nextToBreathe_20 : decode cX8_nextToBreathe 20 = .ok (.if_icmp .ne 30, 3) := by decide +kernel
theorem dX8_nextToBreathe_23 : decode cX8_nextToBreathe 23 = .ok (.aload_n 0, 1) := by decide +kernel
theorem dX8_nextToBreathe_24 : decode cX8_nextToBreathe 24 = .ok (.getfield 45, 3) := by decide +kernel
theorem dX8_nextToBreathe_27 : decode cX8_nextToBreathe 27 = .ok (.iload_n 3, 1) := by decide +kernel
theorem dX8_nextToBreathe_28 : decode cX8_nextToBreathe 28 = .ok (.baload, 1) := by decide +kernel
theorem dX8_nextToBreathe_29 : decode cX8_nextToBreathe 29 = .ok (.ifCond .ne 21, 3) := by decide +kernel
theorem dX8_nextToBreathe_32 : decode cX8_nextToBreathe 32 = .ok (.aload_n 0, 1) := by decide +kernel
theorem dX8_nextToBreathe_33 : decode cX8_nextToBreathe 33 = .ok (.iload_n 3, 1) := by decide +kernel
theorem dX8_nextToBreathe_34 : decode cX8_nextToBreathe 34 = .ok (.iload_n 1, 1) := by decide +kernel
theorem dX8_nextToBreathe_35 : decode cX8_nextToBreathe 35 = .ok (.invokevirtual 142, 3) := by decide +kernel
theorem dX8_nextToBreathe_38 : decode cX8_nextToBreathe 38 = .ok (.aload_n 0, 1) := by decide +kernel
theorem dX8_nextToBreathe_39 : decode cX8_nextToBreathe 39 = .ok (.iload_n 1, 1) := by decide +kernel
theorem dX8_nextToBreathe_40 : decode cX8_nextToBreathe 40 = .ok (.invokevirtual 160, 3) := by decide +kernel
theorem dX8_nextToBreathe_43 : decode cX8_nextToBreathe 43 = .ok (.if_icmp .ge 7, 3) := by decide +kernel
theorem dX8_nextToBreathe_46 : decode cX8_nextToBreathe 46 = .ok (.iconst 1, 1) := by decide +kernel
theorem dX8_nextToBreathe_47 : decode cX8_nextToBreathe 47 = .ok (.goto 4, 3) := by decide +kernel
theorem dX8_nextToBreathe_50 : decode cX8_nextToBreathe 50 = .ok (.iconst 0, 1) := by decide +kernel
theorem dX8_nextToBreathe_51 : decode cX8_nextToBreathe 51 = .ok (.istore 4, 2) := by decide +kernel
theorem dX8_nextToBreathe_53 : decode cX8_nextToBreathe 53 = .ok (.iload 4, 2) := by decide +kernel
theorem dX8_nextToBreathe_55 : decode cX8_nextToBreathe 55 = .ok (.ifCond .eq 26, 3) := by decide +kernel
theorem dX8_nextToBreathe_58 : decode cX8_nextToBreathe 58 = .ok (.iload_n 2, 1) := by decide +kernel
theorem dX8_nextToBreathe_59 : decode cX8_nextToBreathe 59 = .ok (.ifCond .lt 18, 3) := by decide +kernel
theorem dX8_nextToBreathe_62 : decode cX8_nextToBreathe 62 = .ok (.aload_n 0, 1) := by decide +kernel
theorem dX8_nextToBreathe_63 : decode cX8_nextToBreathe 63 = .ok (.iload_n 3, 1) := by decide +kernel
theorem dX8_nextToBreathe_64 : decode cX8_nextToBreathe 64 = .ok (.iload_n 1, 1) := by decide +kernel
theorem dX8_nextToBreathe_65 : decode cX8_nextToBreathe 65 = .ok (.invokevirtual 142, 3) := by decide +kernel
theorem dX8_nextToBreathe_68 : decode cX8_nextToBreathe 68 = .ok (.aload_n 0, 1) := by decide +kernel
theorem dX8_nextToBreathe_69 : decode cX8_nextToBreathe 69 = .ok (.iload_n 2, 1) := by decide +kernel
theorem dX8_nextToBreathe_70 : decode cX8_nextToBreathe 70 = .ok (.iload_n 1, 1) := by decide +kernel
theorem dX8_nextToBreathe_71 : decode cX8_nextToBreathe 71 = .ok (.invokevirtual 142, 3) := by decide +kernel
theorem dX8_nextToBreathe_74 : decode cX8_nextToBreathe 74 = .ok (.if_icmp .ge 7, 3) := by decide +kernel
theorem dX8_nextToBreathe_77 : decode cX8_nextToBreathe 77 = .ok (.iload_n 3, 1) := by decide +kernel
theorem dX8_nextToBreathe_78 : decode cX8_nextToBreathe 78 = .ok (.goto 4, 3) := by decide +kernel
theorem dX8_nextToBreathe_81 : decode cX8_nextToBreathe 81 = .ok (.iload_n 2, 1) := by decide +kernel
theorem dX8_nextToBreathe_82 : decode cX8_nextToBreathe 82 = .ok (.istore_n 2, 1) := by decide +kernel
theorem dX8_nextToBreathe_83 : decode cX8_nextToBreathe 83 = .ok (.iinc 3 1, 3) := by decide +kernel
theorem dX8_nextToBreathe_86 : decode cX8_nextToBreathe 86 = .ok (.goto (-81), 3) := by decide +kernel
theorem dX8_nextToBreathe_89 : decode cX8_nextToBreathe 89 = .ok (.iload_n 2, 1) := by decide +kernel
theorem dX8_nextToBreathe_90 : decode cX8_nextToBreathe 90 = .ok (.ireturn, 1) := by decide +kernel
set_option maxRecDepth 20000 in
theorem ggX8_giveMarks_X8_presentOnes : GoodIn wsX8_giveMarks wsX8_presentOnes := goodIn_r _ [6, 7, 8, 9, 5, 10, 11, 12, 13, 14, 15, 49, 50, 51, 52, 53, 54, 55, 56, 57, 58, 59, 60, 61, 62, 63, 64, 65, 66, 67, 68] (by decide +kernel) (by decide +kernel)
set_option maxRecDepth 20000 in
theorem gX8_giveMarks_X8_presentOnes : GoodIn wsX8_giveMarks (wsV RX8 119 RX8 yX8_presentOnes wsX8_presentOnes) := goodIn_app (goodIn_of _ (by decide +kernel)) ggX8_giveMarks_X8_presentOnes
set_option maxRecDepth 20000 in
theorem ggX8_giveMarks_X8_nextToBreathe : GoodIn wsX8_giveMarks wsX8_nextToBreathe := goodIn_r _ [19, 1, 7, 8, 9, 5, 10, 11, 12, 13, 14, 15, 20, 21, 22, 23, 24, 25, 26, 27, 28, 29, 30, 31, 32, 33, 34, 35, 36, 37, 38, 39, 40, 49, 50, 51, 52, 53, 54, 55, 56, 57, 58, 59, 60, 61, 62, 63, 64, 65, 66, 67, 68] (by decide +kernel) (by decide +kernel)
set_option maxRecDepth 20000 in
theorem gX8_giveMarks_X8_nextToBreathe : GoodIn wsX8_giveMarks (wsV RX8 163 RX8 yX8_nextToBreathe wsX8_nextToBreathe) := goodIn_app (goodIn_of _ (by decide +kernel)) ggX8_giveMarks_X8_nextToBreathe
set_option maxRecDepth 20000 in
theorem ggX8_giveMarks_X8_someoneSings : GoodIn wsX8_giveMarks wsX8_someoneSings := goodIn_r _ [44, 1, 7, 8, 9, 5, 10, 11, 12, 13, 14, 15, 20, 21, 22, 23, 24, 37, 38, 39, 40, 49, 50, 51, 52, 53, 54, 55, 56, 57, 58, 59, 60, 61, 62, 63, 64, 65, 66, 67, 68] (by decide +kernel) (by decide +kernel)
set_option maxRecDepth 20000 in
theorem gX8_giveMarks_X8_someoneSings : GoodIn wsX8_giveMarks (wsV RX8 166 RX8 yX8_someoneSings wsX8_someoneSings) := goodIn_app (goodIn_of _ (by decide +kernel)) ggX8_giveMarks_X8_someoneSings
set_option maxRecDepth 20000 in
theorem ggX8_giveMarks_X8_setMark : GoodIn wsX8_giveMarks wsX8_setMark := goodIn_r _ [48, 11, 49, 50, 51, 52, 53, 54, 55, 56, 57, 58, 59, 60, 61, 62, 63, 64, 65, 66, 67, 68] (by decide +kernel) (by decide +kernel)
set_option maxRecDepth 20000 in
theorem gX8_giveMarks_X8_setMark : GoodIn wsX8_giveMarks (wsV RX8 135 RX8 yX8_setMark wsX8_setMark) := goodIn_app (goodIn_of _ (by decide +kernel)) ggX8_giveMarks_X8_setMark
theorem dX8_giveMarks_0 : decode cX8_giveMarks 0 = .ok (.iconst 0, 1) := by decide +kernel
theorem dX8_giveMarks_1 : decode cX8_giveMarks 1 = .ok (.istore_n 2, 1) := by decide +kernel
theorem dX8_giveMarks_2 : decode cX8_giveMarks 2 = .ok (.iload_n 2, 1) := by decide +kernel
theorem dX8_giveMarks_3 : decode cX8_giveMarks 3 = .ok (.bipush 12, 2) := by decide +kernel
theorem dX8_giveMarks_5 : decode cX8_giveMarks 5 = .ok (.if_icmp .ge 16, 3) := by decide +kernel
theorem dX8_giveMarks_8 : decode cX8_giveMarks 8 = .ok (.aload_n 0, 1) := by decide +kernel
theorem dX8_giveMarks_9 : decode cX8_giveMarks 9 = .ok (.getfield 45, 3) := by decide +kernel
theorem dX8_giveMarks_12 : decode cX8_giveMarks 12 = .ok (.iload_n 2, 1) := by decide +kernel
theorem dX8_giveMarks_13 : decode cX8_giveMarks 13 = .ok (.iconst 0, 1) := by decide +kernel
theorem dX8_giveMarks_14 : decode cX8_giveMarks 14 = .ok (.bastore, 1) := by decide +kernel
theorem dX8_giveMarks_15 : decode cX8_giveMarks 15 = .ok (.iinc 2 1, 3) := by decide +kernel
theorem dX8_giveMarks_18 : decode cX8_giveMarks 18 = .ok (.goto (-16), 3) := by decide +kernel
theorem dX8_giveMarks_21 : decode cX8_giveMarks 21 = .ok (.aload_n 0, 1) := by decide +kernel
theorem dX8_giveMarks_22 : decode cX8_giveMarks 22 = .ok (.invokevirtual 119, 3) := by decide +kernel
end
section
theorem dX8_giveMarks_25 : decode cX8_giveMarks 25 = .ok (.iconst 2, 1) := by decide +kernel
theorem dX8_giveMarks_26 : decode cX8_giveMarks 26 = .ok (.idiv, 1) := by decide +kernel
theorem dX8_giveMarks_27 : decode cX8_giveMarks 27 = .ok (.istore_n 2, 1) := by decide +kernel
theorem dX8_giveMarks_28 : decode cX8_giveMarks 28 = .ok (.iload_n 2, 1) := by decide +kernel
theorem dX8_giveMarks_29 : decode cX8_giveMarks 29 = .ok (.iconst 1, 1) := by decide +kernel
theorem dX8_giveMarks_30 : decode cX8_giveMarks 30 = .ok (.if_icmp .ge 7, 3) := by decide +kernel
theorem dX8_giveMarks_33 : decode cX8_giveMarks 33 = .ok (.iconst 1, 1) := by decide +kernel
theorem dX8_giveMarks_34 : decode cX8_giveMarks 34 = .ok (.goto 4, 3) := by decide +kernel
theorem dX8_giveMarks_37 : decode cX8_giveMarks 37 = .ok (.iload_n 2, 1) := by decide +kernel
theorem dX8_giveMarks_38 : decode cX8_giveMarks 38 = .ok (.istore_n 3, 1) := by decide +kernel
theorem dX8_giveMarks_39 : decode cX8_giveMarks 39 = .ok (.aload_n 0, 1) := by decide +kernel
theorem dX8_giveMarks_40 : decode cX8_giveMarks 40 = .ok (.iload_n 1, 1) := by decide +kernel
theorem dX8_giveMarks_41 : decode cX8_giveMarks 41 = .ok (.invokevirtual 163, 3) := by decide +kernel
theorem dX8_giveMarks_44 : decode cX8_giveMarks 44 = .ok (.istore 4, 2) := by decide +kernel
theorem dX8_giveMarks_46 : decode cX8_giveMarks 46 = .ok (.iload_n 3, 1) := by decide +kernel
theorem dX8_giveMarks_47 : decode cX8_giveMarks 47 = .ok (.ifCond .le 45, 3) := by decide +kernel
theorem dX8_giveMarks_50 : decode cX8_giveMarks 50 = .ok (.iload 4, 2) := by decide +kernel
theorem dX8_giveMarks_52 : decode cX8_giveMarks 52 = .ok (.ifCond .lt 40, 3) := by decide +kernel
theorem dX8_giveMarks_55 : decode cX8_giveMarks 55 = .ok (.aload_n 0, 1) := by decide +kernel
theorem dX8_giveMarks_56 : decode cX8_giveMarks 56 = .ok (.getfield 45, 3) := by decide +kernel
theorem dX8_giveMarks_59 : decode cX8_giveMarks 59 = .ok (.iload 4, 2) := by decide +kernel
theorem dX8_giveMarks_61 : decode cX8_giveMarks 61 = .ok (.iconst 1, 1) := by decide +kernel
theorem dX8_giveMarks_62 : decode cX8_giveMarks 62 = .ok (.bastore, 1) := by decide +kernel
theorem dX8_giveMarks_63 : decode cX8_giveMarks 63 = .ok (.aload_n 0, 1) := by decide +kernel
theorem dX8_giveMarks_64 : decode cX8_giveMarks 64 = .ok (.iload_n 1, 1) := by decide +kernel
theorem dX8_giveMarks_65 : decode cX8_giveMarks 65 = .ok (.invokevirtual 166, 3) := by decide +kernel
theorem dX8_giveMarks_68 : decode cX8_giveMarks 68 = .ok (.ifCond .ne 4, 3) := by decide +kernel
theorem dX8_giveMarks_71 : decode cX8_giveMarks 71 = .ok (.return_, 1) := by decide +kernel
theorem dX8_giveMarks_72 : decode cX8_giveMarks 72 = .ok (.aload_n 0, 1) := by decide +kernel
theorem dX8_giveMarks_73 : decode cX8_giveMarks 73 = .ok (.iload 4, 2) := by decide +kernel
theorem dX8_giveMarks_75 : decode cX8_giveMarks 75 = .ok (.iload_n 1, 1) := by decide +kernel
theorem dX8_giveMarks_76 : decode cX8_giveMarks 76 = .ok (.invokevirtual 135, 3) := by decide +kernel
theorem dX8_giveMarks_79 : decode cX8_giveMarks 79 = .ok (.iinc 3 (-1), 3) := by decide +kernel
theorem dX8_giveMarks_82 : decode cX8_giveMarks 82 = .ok (.aload_n 0, 1) := by decide +kernel
theorem dX8_giveMarks_83 : decode cX8_giveMarks 83 = .ok (.iload_n 1, 1) := by decide +kernel
theorem dX8_giveMarks_84 : decode cX8_giveMarks 84 = .ok (.invokevirtual 163, 3) := by decide +kernel
theorem dX8_giveMarks_87 : decode cX8_giveMarks 87 = .ok (.istore 4, 2) := by decide +kernel
theorem dX8_giveMarks_89 : decode cX8_giveMarks 89 = .ok (.goto (-43), 3) := by decide +kernel
theorem dX8_giveMarks_92 : decode cX8_giveMarks 92 = .ok (.return_, 1) := by decide +kernel
set_option maxRecDepth 20000 in
theorem ggX8_make_X8_presentOnes : GoodIn wsX8_make wsX8_presentOnes := goodIn_r _ [5, 6, 7, 8, 4, 9, 10, 11, 12, 13, 14, 107, 108, 109, 110, 111, 112, 113, 114, 115, 116, 117, 118, 119, 120, 121, 122, 123, 124, 125, 126] (by decide +kernel) (by decide +kernel)
set_option maxRecDepth 20000 in
theorem gX8_make_X8_presentOnes : GoodIn wsX8_make (wsV RX8 119 RX8 yX8_presentOnes wsX8_presentOnes) := goodIn_app (goodIn_of _ (by decide +kernel)) ggX8_make_X8_presentOnes
set_option maxRecDepth 20000 in
theorem ggX8_make_X8_beats : GoodIn wsX8_make wsX8_beats := goodIn_r _ [18, 10, 107, 108, 109, 110, 111, 112, 113, 114, 115, 116, 117, 118, 119, 120, 121, 122, 123, 124, 125, 126] (by decide +kernel) (by decide +kernel)
set_option maxRecDepth 20000 in
theorem gX8_make_X8_beats : GoodIn wsX8_make (wsV RX8 65 RX8 yX8_beats wsX8_beats) := goodIn_app (goodIn_of _ (by decide +kernel)) ggX8_make_X8_beats
set_option maxRecDepth 20000 in
theorem ggX8_make_X8_begin : GoodIn wsX8_make wsX8_begin := goodIn_r _ [22, 23, 10, 107, 108, 109, 110, 111, 112, 113, 114, 115, 116, 117, 118, 119, 120, 121, 122, 123, 124, 125, 126] (by decide +kernel) (by decide +kernel)
set_option maxRecDepth 20000 in
theorem gX8_make_X8_begin : GoodIn wsX8_make (wsV RX8 69 RX8 yX8_begin wsX8_begin) := goodIn_app (goodIn_of _ (by decide +kernel)) ggX8_make_X8_begin
set_option maxRecDepth 20000 in
theorem ggX8_make_X8_clearMarks : GoodIn wsX8_make wsX8_clearMarks := goodIn_r _ [27, 10, 107, 108, 109, 110, 111, 112, 113, 114, 115, 116, 117, 118, 119, 120, 121, 122, 123, 124, 125, 126] (by decide +kernel) (by decide +kernel)
set_option maxRecDepth 20000 in
theorem gX8_make_X8_clearMarks : GoodIn wsX8_make (wsV RX8 102 RX8 yX8_clearMarks wsX8_clearMarks) := goodIn_app (goodIn_of _ (by decide +kernel)) ggX8_make_X8_clearMarks
set_option maxRecDepth 20000 in
theorem ggX8_make_X8_isRest : GoodIn wsX8_make wsX8_isRest := goodIn_r _ [31, 10, 107, 108, 109, 110, 111, 112, 113, 114, 115, 116, 117, 118, 119, 120, 121, 122, 123, 124, 125, 126] (by decide +kernel) (by decide +kernel)
set_option maxRecDepth 20000 in
theorem gX8_make_X8_isRest : GoodIn wsX8_make (wsV RX8 109 RX8 yX8_isRest wsX8_isRest) := goodIn_app (goodIn_of _ (by decide +kernel)) ggX8_make_X8_isRest
set_option maxRecDepth 20000 in
theorem ggX8_make_X8_soloAt : GoodIn wsX8_make wsX8_soloAt := goodIn_r _ [35, 36, 37, 38, 4, 39, 10, 40, 41, 42, 43, 44, 45, 46, 107, 108, 109, 110, 111, 112, 113, 114, 115, 116, 117, 118, 119, 120, 121, 122, 123, 124, 125, 126] (by decide +kernel) (by decide +kernel)
set_option maxRecDepth 20000 in
theorem gX8_make_X8_soloAt : GoodIn wsX8_make (wsV RX8 139 RX8 yX8_soloAt wsX8_soloAt) := goodIn_app (goodIn_of _ (by decide +kernel)) ggX8_make_X8_soloAt
set_option maxRecDepth 20000 in
theorem ggX8_make_X8_giveMarks : GoodIn wsX8_make wsX8_giveMarks := goodIn_r _ [50, 51, 1, 2, 3, 4, 5, 6, 7, 8, 9, 10, 11, 12, 13, 14, 52, 53, 54, 55, 56, 57, 58, 59, 60, 61, 62, 63, 64, 15, 16, 17, 18, 28, 29, 30, 31, 65, 66, 67, 68, 69, 70, 71, 72, 73, 74, 75, 76, 107, 108, 109, 110, 111, 112, 113, 114, 115, 116, 117, 118, 119, 120, 121, 122, 123, 124, 125, 126] (by decide +kernel) (by decide +kernel)
set_option maxRecDepth 20000 in
theorem gX8_make_X8_giveMarks : GoodIn wsX8_make (wsV RX8 169 RX8 yX8_giveMarks wsX8_giveMarks) := goodIn_app (goodIn_of _ (by decide +kernel)) ggX8_make_X8_giveMarks
set_option maxRecDepth 20000 in
theorem ggX8_make_X8_singers : GoodIn wsX8_make wsX8_singers := goodIn_r _ [9, 10, 107, 108, 109, 110, 111, 112, 113, 114, 115, 116, 117, 118, 119, 120, 121, 122, 123, 124, 125, 126] (by decide +kernel) (by decide +kernel)
set_option maxRecDepth 20000 in
theorem gX8_make_X8_singers : GoodIn wsX8_make (wsV RX8 76 RX8 yX8_singers wsX8_singers) := goodIn_app (goodIn_of _ (by decide +kernel)) ggX8_make_X8_singers
set_option maxRecDepth 20000 in
theorem ggX8_make_X8_live : GoodIn wsX8_make wsX8_live := goodIn_r _ [80, 81, 60, 56, 57, 58, 4, 59, 11, 12, 13, 14, 10, 82, 83, 84, 85, 32, 33, 34, 35, 36, 37, 38, 39, 40, 41, 42, 43, 44, 45, 46, 28, 29, 30, 31, 86, 87, 88, 89, 65, 66, 67, 68, 90, 91, 92, 107, 108, 109, 110, 111, 112, 113, 114, 115, 116, 117, 118, 119, 120, 121, 122, 123, 124, 125, 126] (by decide +kernel) (by decide +kernel)
set_option maxRecDepth 20000 in
theorem gX8_make_X8_live : GoodIn wsX8_make (wsV RX8 154 RX8 yX8_live wsX8_live) := goodIn_app (goodIn_of _ (by decide +kernel)) ggX8_make_X8_live
set_option maxRecDepth 20000 in
theorem ggX8_make_X8_allMarks : GoodIn wsX8_make wsX8_allMarks := goodIn_r _ [96, 6, 7, 8, 4, 9, 10, 97, 98, 99, 100, 15, 16, 17, 18, 86, 87, 88, 89, 107, 108, 109, 110, 111, 112, 113, 114, 115, 116, 117, 118, 119, 120, 121, 122, 123, 124, 125, 126] (by decide +kernel) (by decide +kernel)
set_option maxRecDepth 20000 in
theorem gX8_make_X8_allMarks : GoodIn wsX8_make (wsV RX8 173 RX8 yX8_allMarks wsX8_allMarks) := goodIn_app (goodIn_of _ (by decide +kernel)) ggX8_make_X8_allMarks
set_option maxRecDepth 20000 in
theorem ggX8_make_X8_done : GoodIn wsX8_make wsX8_done := goodIn_r _ [104, 105, 106, 23, 107, 108, 109, 110, 111, 112, 113, 114, 115, 116, 117, 118, 119, 120, 121, 122, 123, 124, 125, 126] (by decide +kernel) (by decide +kernel)
set_option maxRecDepth 20000 in
theorem gX8_make_X8_done : GoodIn wsX8_make (wsV RX8 72 RX8 yX8_done wsX8_done) := goodIn_app (goodIn_of _ (by decide +kernel)) ggX8_make_X8_done
theorem dX8_make_0 : decode cX8_make 0 = .ok (.aload_n 0, 1) := by decide +kernel
theorem dX8_make_1 : decode cX8_make 1 = .ok (.invokevirtual 119, 3) := by decide +kernel
theorem dX8_make_4 : decode cX8_make 4 = .ok (.ifCond .eq 10, 3) := by decide +kernel
theorem dX8_make_7 : decode cX8_make 7 = .ok (.aload_n 0, 1) := by decide +kernel
theorem dX8_make_8 : decode cX8_make 8 = .ok (.invokevirtual 65, 3) := by decide +kernel
theorem dX8_make_11 : decode cX8_make 11 = .ok (.ifCond .ne 6, 3) := by decide +kernel
theorem dX8_make_14 : decode cX8_make 14 = .ok (.bipush (-4), 2) := by decide +kernel
theorem dX8_make_16 : decode cX8_make 16 = .ok (.ireturn, 1) := by decide +kernel
theorem dX8_make_17 : decode cX8_make 17 = .ok (.aload_n 0, 1) := by decide +kernel
theorem dX8_make_18 : decode cX8_make 18 = .ok (.invokevirtual 69, 3) := by decide +kernel
theorem dX8_make_21 : decode cX8_make 21 = .ok (.aload_n 0, 1) := by decide +kernel
theorem dX8_make_22 : decode cX8_make 22 = .ok (.invokevirtual 102, 3) := by decide +kernel
theorem dX8_make_25 : decode cX8_make 25 = .ok (.iconst 0, 1) := by decide +kernel
theorem dX8_make_26 : decode cX8_make 26 = .ok (.istore_n 1, 1) := by decide +kernel
theorem dX8_make_27 : decode cX8_make 27 = .ok (.iload_n 1, 1) := by decide +kernel
theorem dX8_make_28 : decode cX8_make 28 = .ok (.aload_n 0, 1) := by decide +kernel
theorem dX8_make_29 : decode cX8_make 29 = .ok (.invokevirtual 65, 3) := by decide +kernel
theorem dX8_make_32 : decode cX8_make 32 = .ok (.if_icmp .ge 52, 3) := by decide +kernel
theorem dX8_make_35 : decode cX8_make 35 = .ok (.aload_n 0, 1) := by decide +kernel
theorem dX8_make_36 : decode cX8_make 36 = .ok (.iload_n 1, 1) := by decide +kernel
theorem dX8_make_37 : decode cX8_make 37 = .ok (.invokevirtual 109, 3) := by decide +kernel
theorem dX8_make_40 : decode cX8_make 40 = .ok (.ifCond .ne 16, 3) := by decide +kernel
theorem dX8_make_43 : decode cX8_make 43 = .ok (.aload_n 0, 1) := by decide +kernel
theorem dX8_make_44 : decode cX8_make 44 = .ok (.iload_n 1, 1) := by decide +kernel
theorem dX8_make_45 : decode cX8_make 45 = .ok (.invokevirtual 139, 3) := by decide +kernel
theorem dX8_make_48 : decode cX8_make 48 = .ok (.ifCond .ge 8, 3) := by decide +kernel
theorem dX8_make_51 : decode cX8_make 51 = .ok (.aload_n 0, 1) := by decide +kernel
theorem dX8_make_52 : decode cX8_make 52 = .ok (.iload_n 1, 1) := by decide +kernel
theorem dX8_make_53 : decode cX8_make 53 = .ok (.invokevirtual 169, 3) := by decide +kernel
theorem dX8_make_56 : decode cX8_make 56 = .ok (.iconst 0, 1) := by decide +kernel
theorem dX8_make_57 : decode cX8_make 57 = .ok (.istore_n 2, 1) := by decide +kernel
theorem dX8_make_58 : decode cX8_make 58 = .ok (.iload_n 2, 1) := by decide +kernel
theorem dX8_make_59 : decode cX8_make 59 = .ok (.aload_n 0, 1) := by decide +kernel
theorem dX8_make_60 : decode cX8_make 60 = .ok (.invokevirtual 76, 3) := by decide +kernel
theorem dX8_make_63 : decode cX8_make 63 = .ok (.if_icmp .ge 15, 3) := by decide +kernel
theorem dX8_make_66 : decode cX8_make 66 = .ok (.aload_n 0, 1) := by decide +kernel
theorem dX8_make_67 : decode cX8_make 67 = .ok (.iload_n 2, 1) := by decide +kernel
theorem dX8_make_68 : decode cX8_make 68 = .ok (.iload_n 1, 1) := by decide +kernel
theorem dX8_make_69 : decode cX8_make 69 = .ok (.invokevirtual 154, 3) := by decide +kernel
theorem dX8_make_72 : decode cX8_make 72 = .ok (.iinc 2 1, 3) := by decide +kernel
theorem dX8_make_75 : decode cX8_make 75 = .ok (.goto (-17), 3) := by decide +kernel
theorem dX8_make_78 : decode cX8_make 78 = .ok (.iinc 1 1, 3) := by decide +kernel
theorem dX8_make_81 : decode cX8_make 81 = .ok (.goto (-54), 3) := by decide +kernel
theorem dX8_make_84 : decode cX8_make 84 = .ok (.aload_n 0, 1) := by decide +kernel
theorem dX8_make_85 : decode cX8_make 85 = .ok (.aload_n 0, 1) := by decide +kernel
theorem dX8_make_86 : decode cX8_make 86 = .ok (.invokevirtual 173, 3) := by decide +kernel
theorem dX8_make_89 : decode cX8_make 89 = .ok (.invokevirtual 72, 3) := by decide +kernel
theorem dX8_make_92 : decode cX8_make 92 = .ok (.ireturn, 1) := by decide +kernel
theorem dX8_addFault_0 : decode cX8_addFault 0 = .ok (.aload_n 0, 1) := by decide +kernel
theorem dX8_addFault_1 : decode cX8_addFault 1 = .ok (.getfield 48, 3) := by decide +kernel
theorem dX8_addFault_4 : decode cX8_addFault 4 = .ok (.aload_n 0, 1) := by decide +kernel
theorem dX8_addFault_5 : decode cX8_addFault 5 = .ok (.getfield 176, 3) := by decide +kernel
theorem dX8_addFault_8 : decode cX8_addFault 8 = .ok (.iload_n 1, 1) := by decide +kernel
theorem dX8_addFault_9 : decode cX8_addFault 9 = .ok (.iastore, 1) := by decide +kernel
theorem dX8_addFault_10 : decode cX8_addFault 10 = .ok (.aload_n 0, 1) := by decide +kernel
theorem dX8_addFault_11 : decode cX8_addFault 11 = .ok (.getfield 51, 3) := by decide +kernel
theorem dX8_addFault_14 : decode cX8_addFault 14 = .ok (.aload_n 0, 1) := by decide +kernel
theorem dX8_addFault_15 : decode cX8_addFault 15 = .ok (.getfield 176, 3) := by decide +kernel
theorem dX8_addFault_18 : decode cX8_addFault 18 = .ok (.iload_n 2, 1) := by decide +kernel
theorem dX8_addFault_19 : decode cX8_addFault 19 = .ok (.iastore, 1) := by decide +kernel
theorem dX8_addFault_20 : decode cX8_addFault 20 = .ok (.aload_n 0, 1) := by decide +kernel
theorem dX8_addFault_21 : decode cX8_addFault 21 = .ok (.getfield 54, 3) := by decide +kernel
theorem dX8_addFault_24 : decode cX8_addFault 24 = .ok (.aload_n 0, 1) := by decide +kernel
theorem dX8_addFault_25 : decode cX8_addFault 25 = .ok (.getfield 176, 3) := by decide +kernel
theorem dX8_addFault_28 : decode cX8_addFault 28 = .ok (.iload_n 3, 1) := by decide +kernel
theorem dX8_addFault_29 : decode cX8_addFault 29 = .ok (.iastore, 1) := by decide +kernel
theorem dX8_addFault_30 : decode cX8_addFault 30 = .ok (.aload_n 0, 1) := by decide +kernel
theorem dX8_addFault_31 : decode cX8_addFault 31 = .ok (.dup, 1) := by decide +kernel
theorem dX8_addFault_32 : decode cX8_addFault 32 = .ok (.getfield 176, 3) := by decide +kernel
theorem dX8_addFault_35 : decode cX8_addFault 35 = .ok (.iconst 1, 1) := by decide +kernel
theorem dX8_addFault_36 : decode cX8_addFault 36 = .ok (.iadd, 1) := by decide +kernel
theorem dX8_addFault_37 : decode cX8_addFault 37 = .ok (.putfield 176, 3) := by decide +kernel
theorem dX8_addFault_40 : decode cX8_addFault 40 = .ok (.return_, 1) := by decide +kernel
set_option maxRecDepth 20000 in
theorem ggX8_sortOfMark_X8_doesAt : GoodIn wsX8_sortOfMark wsX8_doesAt := goodIn_r _ [5, 6, 39, 40, 41, 42, 43, 44, 45, 46, 47, 48, 49, 50, 51, 52, 53, 54, 55, 56, 57, 58] (by decide +kernel) (by decide +kernel)
set_option maxRecDepth 20000 in
theorem gX8_sortOfMark_X8_doesAt : GoodIn wsX8_sortOfMark (wsV RX8 157 RX8 yX8_doesAt wsX8_doesAt) := goodIn_app (goodIn_of _ (by decide +kernel)) ggX8_sortOfMark_X8_doesAt
set_option maxRecDepth 20000 in
theorem ggX8_sortOfMark_X8_soloAt : GoodIn wsX8_sortOfMark wsX8_soloAt := goodIn_r _ [10, 11, 12, 13, 4, 14, 15, 16, 17, 18, 19, 20, 21, 22, 39, 40, 41, 42, 43, 44, 45, 46, 47, 48, 49, 50, 51, 52, 53, 54, 55, 56, 57, 58] (by decide +kernel) (by decide +kernel)
set_option maxRecDepth 20000 in
theorem gX8_sortOfMark_X8_soloAt : GoodIn wsX8_sortOfMark (wsV RX8 139 RX8 yX8_soloAt wsX8_soloAt) := goodIn_app (goodIn_of _ (by decide +kernel)) ggX8_sortOfMark_X8_soloAt
set_option maxRecDepth 20000 in
theorem ggX8_sortOfMark_X8_firstOf : GoodIn wsX8_sortOfMark wsX8_firstOf := goodIn_r _ [26, 15, 27, 28, 29, 4, 30, 39, 40, 41, 42, 43, 44, 45, 46, 47, 48, 49, 50, 51, 52, 53, 54, 55, 56, 57, 58] (by decide +kernel) (by decide +kernel)
set_option maxRecDepth 20000 in
theorem gX8_sortOfMark_X8_firstOf : GoodIn wsX8_sortOfMark (wsV RX8 179 RX8 yX8_firstOf wsX8_firstOf) := goodIn_app (goodIn_of _ (by decide +kernel)) ggX8_sortOfMark_X8_firstOf
set_option maxRecDepth 20000 in
theorem ggX8_sortOfMark_X8_many : GoodIn wsX8_sortOfMark wsX8_many := goodIn_r _ [34, 35, 36, 37, 4, 38, 15, 1, 2, 3, 5, 6, 39, 40, 41, 42, 43, 44, 45, 46, 47, 48, 49, 50, 51, 52, 53, 54, 55, 56, 57, 58] (by decide +kernel) (by decide +kernel)
set_option maxRecDepth 20000 in
theorem gX8_sortOfMark_X8_many : GoodIn wsX8_sortOfMark (wsV RX8 182 RX8 yX8_many wsX8_many) := goodIn_app (goodIn_of _ (by decide +kernel)) ggX8_sortOfMark_X8_many
theorem dX8_sortOfMark_0 : decode cX8_sortOfMark 0 = .ok (.aload_n 0, 1) := by decide +kernel
theorem dX8_sortOfMark_1 : decode cX8_sortOfMark 1 = .ok (.iload_n 1, 1) := by decide +kernel
theorem dX8_sortOfMark_2 : decode cX8_sortOfMark 2 = .ok (.iload_n 2, 1) := by decide +kernel
theorem dX8_sortOfMark_3 : decode cX8_sortOfMark 3 = .ok (.invokevirtual 157, 3) := by decide +kernel
theorem dX8_sortOfMark_6 : decode cX8_sortOfMark 6 = .ok (.iconst 1, 1) := by decide +kernel
theorem dX8_sortOfMark_7 : decode cX8_sortOfMark 7 = .ok (.if_icmp .eq 6, 3) := by decide +kernel
theorem dX8_sortOfMark_10 : decode cX8_sortOfMark 10 = .ok (.bipush (-5), 2) := by decide +kernel
theorem dX8_sortOfMark_12 : decode cX8_sortOfMark 12 = .ok (.ireturn, 1) := by decide +kernel
theorem dX8_sortOfMark_13 : decode cX8_sortOfMark 13 = .ok (.aload_n 0, 1) := by decide +kernel
theorem dX8_sortOfMark_14 : decode cX8_sortOfMark 14 = .ok (.iload_n 2, 1) := by decide +kernel
theorem dX8_sortOfMark_15 : decode cX8_sortOfMark 15 = .ok (.invokevirtual 139, 3) := by decide +kernel
theorem dX8_sortOfMark_18 : decode cX8_sortOfMark 18 = .ok (.ifCond .lt 5, 3) := by decide +kernel
theorem dX8_sortOfMark_21 : decode cX8_sortOfMark 21 = .ok (.iconst 3, 1) := by decide +kernel
theorem dX8_sortOfMark_22 : decode cX8_sortOfMark 22 = .ok (.ireturn, 1) := by decide +kernel
theorem dX8_sortOfMark_23 : decode cX8_sortOfMark 23 = .ok (.aload_n 0, 1) := by decide +kernel
theorem dX8_sortOfMark_24 : decode cX8_sortOfMark 24 = .ok (.iload_n 2, 1) := by decide +kernel
theorem dX8_sortOfMark_25 : decode cX8_sortOfMark 25 = .ok (.invokevirtual 179, 3) := by decide +kernel
theorem dX8_sortOfMark_28 : decode cX8_sortOfMark 28 = .ok (.iload_n 2, 1) := by decide +kernel
theorem dX8_sortOfMark_29 : decode cX8_sortOfMark 29 = .ok (.if_icmp .eq 17, 3) := by decide +kernel
theorem dX8_sortOfMark_32 : decode cX8_sortOfMark 32 = .ok (.aload_n 0, 1) := by decide +kernel
theorem dX8_sortOfMark_33 : decode cX8_sortOfMark 33 = .ok (.iload_n 2, 1) := by decide +kernel
theorem dX8_sortOfMark_34 : decode cX8_sortOfMark 34 = .ok (.iconst 0, 1) := by decide +kernel
theorem dX8_sortOfMark_35 : decode cX8_sortOfMark 35 = .ok (.invokevirtual 182, 3) := by decide +kernel
theorem dX8_sortOfMark_38 : decode cX8_sortOfMark 38 = .ok (.iconst 2, 1) := by decide +kernel
theorem dX8_sortOfMark_39 : decode cX8_sortOfMark 39 = .ok (.if_icmp .ge 7, 3) := by decide +kernel
theorem dX8_sortOfMark_42 : decode cX8_sortOfMark 42 = .ok (.iconst 2, 1) := by decide +kernel
theorem dX8_sortOfMark_43 : decode cX8_sortOfMark 43 = .ok (.goto 5, 3) := by decide +kernel
theorem dX8_sortOfMark_46 : decode cX8_sortOfMark 46 = .ok (.bipush (-5), 2) := by decide +kernel
theorem dX8_sortOfMark_48 : decode cX8_sortOfMark 48 = .ok (.ireturn, 1) := by decide +kernel
set_option maxRecDepth 20000 in
theorem ggX8_findFaults_X8_liveAll : GoodIn wsX8_findFaults wsX8_liveAll := goodIn_r _ [6, 7, 8, 9, 5, 10, 11, 12, 13, 14, 15, 16, 17, 18, 19, 20, 21, 22, 23, 24, 25, 26, 27, 28, 29, 30, 31, 32, 33, 34, 35, 36, 37, 38, 39, 40, 41, 42, 43, 44, 45, 46, 47, 48, 49, 50, 51, 52, 53, 54, 55, 56, 57, 58, 59, 60, 61, 62, 63, 87, 88, 89, 90, 91, 92, 93, 94, 95, 96, 97, 98, 99, 100, 101, 102, 103, 104, 105, 106] (by decide +kernel) (by decide +kernel)
set_option maxRecDepth 20000 in
theorem gX8_findFaults_X8_liveAll : GoodIn wsX8_findFaults (wsV RX8 185 RX8 yX8_liveAll wsX8_liveAll) := goodIn_app (goodIn_of _ (by decide +kernel)) ggX8_findFaults_X8_liveAll
set_option maxRecDepth 20000 in
theorem ggX8_findFaults_X8_beats : GoodIn wsX8_findFaults wsX8_beats := goodIn_r _ [15, 11, 87, 88, 89, 90, 91, 92, 93, 94, 95, 96, 97, 98, 99, 100, 101, 102, 103, 104, 105, 106] (by decide +kernel) (by decide +kernel)
set_option maxRecDepth 20000 in
theorem gX8_findFaults_X8_beats : GoodIn wsX8_findFaults (wsV RX8 65 RX8 yX8_beats wsX8_beats) := goodIn_app (goodIn_of _ (by decide +kernel)) ggX8_findFaults_X8_beats
set_option maxRecDepth 20000 in
theorem ggX8_findFaults_X8_isRest : GoodIn wsX8_findFaults wsX8_isRest := goodIn_r _ [52, 11, 87, 88, 89, 90, 91, 92, 93, 94, 95, 96, 97, 98, 99, 100, 101, 102, 103, 104, 105, 106] (by decide +kernel) (by decide +kernel)
set_option maxRecDepth 20000 in
theorem gX8_findFaults_X8_isRest : GoodIn wsX8_findFaults (wsV RX8 109 RX8 yX8_isRest wsX8_isRest) := goodIn_app (goodIn_of _ (by decide +kernel)) ggX8_findFaults_X8_isRest
set_option maxRecDepth 20000 in
theorem ggX8_findFaults_X8_many : GoodIn wsX8_findFaults wsX8_many := goodIn_r _ [67, 7, 8, 9, 5, 10, 11, 68, 69, 70, 71, 20, 87, 88, 89, 90, 91, 92, 93, 94, 95, 96, 97, 98, 99, 100, 101, 102, 103, 104, 105, 106] (by decide +kernel) (by decide +kernel)
set_option maxRecDepth 20000 in
theorem gX8_findFaults_X8_many : GoodIn wsX8_findFaults (wsV RX8 182 RX8 yX8_many wsX8_many) := goodIn_app (goodIn_of _ (by decide +kernel)) ggX8_findFaults_X8_many
set_option maxRecDepth 20000 in
theorem ggX8_findFaults_X8_addFault : GoodIn wsX8_findFaults wsX8_addFault := goodIn_r _ [75, 76, 1, 77, 78, 87, 88, 89, 90, 91, 92, 93, 94, 95, 96, 97, 98, 99, 100, 101, 102, 103, 104, 105, 106] (by decide +kernel) (by decide +kernel)
set_option maxRecDepth 20000 in
theorem gX8_findFaults_X8_addFault : GoodIn wsX8_findFaults (wsV RX8 188 RX8 yX8_addFault wsX8_addFault) := goodIn_app (goodIn_of _ (by decide +kernel)) ggX8_findFaults_X8_addFault
set_option maxRecDepth 20000 in
theorem ggX8_findFaults_X8_singers : GoodIn wsX8_findFaults wsX8_singers := goodIn_r _ [10, 11, 87, 88, 89, 90, 91, 92, 93, 94, 95, 96, 97, 98, 99, 100, 101, 102, 103, 104, 105, 106] (by decide +kernel) (by decide +kernel)
set_option maxRecDepth 20000 in
theorem gX8_findFaults_X8_singers : GoodIn wsX8_findFaults (wsV RX8 76 RX8 yX8_singers wsX8_singers) := goodIn_app (goodIn_of _ (by decide +kernel)) ggX8_findFaults_X8_singers
set_option maxRecDepth 20000 in
theorem ggX8_findFaults_X8_doesAt : GoodIn wsX8_findFaults wsX8_doesAt := goodIn_r _ [71, 20, 87, 88, 89, 90, 91, 92, 93, 94, 95, 96, 97, 98, 99, 100, 101, 102, 103, 104, 105, 106] (by decide +kernel) (by decide +kernel)
set_option maxRecDepth 20000 in
theorem gX8_findFaults_X8_doesAt : GoodIn wsX8_findFaults (wsV RX8 157 RX8 yX8_doesAt wsX8_doesAt) := goodIn_app (goodIn_of _ (by decide +kernel)) ggX8_findFaults_X8_doesAt
set_option maxRecDepth 20000 in
theorem ggX8_findFaults_X8_sortOfMark : GoodIn wsX8_findFaults wsX8_sortOfMark := goodIn_r _ [82, 68, 69, 70, 5, 71, 20, 34, 35, 36, 37, 38, 39, 40, 41, 11, 42, 43, 44, 45, 46, 47, 48, 83, 84, 85, 86, 49, 50, 51, 52, 64, 65, 66, 67, 7, 8, 9, 10, 87, 88, 89, 90, 91, 92, 93, 94, 95, 96, 97, 98, 99, 100, 101, 102, 103, 104, 105, 106] (by decide +kernel) (by decide +kernel)
set_option maxRecDepth 20000 in
theorem gX8_findFaults_X8_sortOfMark : GoodIn wsX8_findFaults (wsV RX8 192 RX8 yX8_sortOfMark wsX8_sortOfMark) := goodIn_app (goodIn_of _ (by decide +kernel)) ggX8_findFaults_X8_sortOfMark
theorem dX8_findFaults_0 : decode cX8_findFaults 0 = .ok (.aload_n 0, 1) := by decide +kernel
theorem dX8_findFaults_1 : decode cX8_findFaults 1 = .ok (.invokevirtual 185, 3) := by decide +kernel
theorem dX8_findFaults_4 : decode cX8_findFaults 4 = .ok (.aload_n 0, 1) := by decide +kernel
theorem dX8_findFaults_5 : decode cX8_findFaults 5 = .ok (.iconst 0, 1) := by decide +kernel
theorem dX8_findFaults_6 : decode cX8_findFaults 6 = .ok (.putfield 176, 3) := by decide +kernel
theorem dX8_findFaults_9 : decode cX8_findFaults 9 = .ok (.iconst 0, 1) := by decide +kernel
theorem dX8_findFaults_10 : decode cX8_findFaults 10 = .ok (.istore_n 1, 1) := by decide +kernel
theorem dX8_findFaults_11 : decode cX8_findFaults 11 = .ok (.iload_n 1, 1) := by decide +kernel
theorem dX8_findFaults_12 : decode cX8_findFaults 12 = .ok (.aload_n 0, 1) := by decide +kernel
theorem dX8_findFaults_13 : decode cX8_findFaults 13 = .ok (.invokevirtual 65, 3) := by decide +kernel
theorem dX8_findFaults_16 : decode cX8_findFaults 16 = .ok (.if_icmp .ge 98, 3) := by decide +kernel
theorem dX8_findFaults_19 : decode cX8_findFaults 19 = .ok (.aload_n 0, 1) := by decide +kernel
theorem dX8_findFaults_20 : decode cX8_findFaults 20 = .ok (.iload_n 1, 1) := by decide +kernel
theorem dX8_findFaults_21 : decode cX8_findFaults 21 = .ok (.invokevirtual 109, 3) := by decide +kernel
theorem dX8_findFaults_24 : decode cX8_findFaults 24 = .ok (.ifCond .ne 20, 3) := by decide +kernel
theorem dX8_findFaults_27 : decode cX8_findFaults 27 = .ok (.aload_n 0, 1) := by decide +kernel
theorem dX8_findFaults_28 : decode cX8_findFaults 28 = .ok (.iload_n 1, 1) := by decide +kernel
theorem dX8_findFaults_29 : decode cX8_findFaults 29 = .ok (.iconst 0, 1) := by decide +kernel
theorem dX8_findFaults_30 : decode cX8_findFaults 30 = .ok (.invokevirtual 182, 3) := by decide +kernel
theorem dX8_findFaults_33 : decode cX8_findFaults 33 = .ok (.ifCond .ne 11, 3) := by decide +kernel
theorem dX8_findFaults_36 : decode cX8_findFaults 36 = .ok (.aload_n 0, 1) := by decide +kernel
theorem dX8_findFaults_37 : decode cX8_findFaults 37 = .ok (.iconst 0, 1) := by decide +kernel
theorem dX8_findFaults_38 : decode cX8_findFaults 38 = .ok (.iload_n 1, 1) := by decide +kernel
theorem dX8_findFaults_39 : decode cX8_findFaults 39 = .ok (.bipush (-5), 2) := by decide +kernel
theorem dX8_findFaults_41 : decode cX8_findFaults 41 = .ok (.invokevirtual 188, 3) := by decide +kernel
theorem dX8_findFaults_44 : decode cX8_findFaults 44 = .ok (.iconst 1, 1) := by decide +kernel
theorem dX8_findFaults_45 : decode cX8_findFaults 45 = .ok (.istore_n 2, 1) := by decide +kernel
theorem dX8_findFaults_46 : decode cX8_findFaults 46 = .ok (.iload_n 2, 1) := by decide +kernel
theorem dX8_findFaults_47 : decode cX8_findFaults 47 = .ok (.iconst 4, 1) := by decide +kernel
theorem dX8_findFaults_48 : decode cX8_findFaults 48 = .ok (.if_icmp .ge 60, 3) := by decide +kernel
theorem dX8_findFaults_51 : decode cX8_findFaults 51 = .ok (.iconst 0, 1) := by decide +kernel
theorem dX8_findFaults_52 : decode cX8_findFaults 52 = .ok (.istore_n 3, 1) := by decide +kernel
theorem dX8_findFaults_53 : decode cX8_findFaults 53 = .ok (.iload_n 3, 1) := by decide +kernel
theorem dX8_findFaults_54 : decode cX8_findFaults 54 = .ok (.aload_n 0, 1) := by decide +kernel
theorem dX8_findFaults_55 : decode cX8_findFaults 55 = .ok (.invokevirtual 76, 3) := by decide +kernel
theorem dX8_findFaults_58 : decode cX8_findFaults 58 = .ok (.if_icmp .ge 44, 3) := by decide +kernel
theorem dX8_findFaults_61 : decode cX8_findFaults 61 = .ok (.iload_n 2, 1) := by decide +kernel
theorem dX8_findFaults_62 : decode cX8_findFaults 62 = .ok (.iconst 1, 1) := by decide +kernel
theorem dX8_findFaults_63 : decode cX8_findFaults 63 = .ok (.if_icmp .ne 16, 3) := by decide +kernel
theorem dX8_findFaults_66 : decode cX8_findFaults 66 = .ok (.aload_n 0, 1) := by decide +kernel
theorem dX8_findFaults_67 : decode cX8_findFaults 67 = .ok (.iload_n 3, 1) := by decide +kernel
theorem dX8_findFaults_68 : decode cX8_findFaults 68 = .ok (.iload_n 1, 1) := by decide +kernel
theorem dX8_findFaults_69 : decode cX8_findFaults 69 = .ok (.invokevirtual 157, 3) := by decide +kernel
theorem dX8_findFaults_72 : decode cX8_findFaults 72 = .ok (.iconst 2, 1) := by decide +kernel
theorem dX8_findFaults_73 : decode cX8_findFaults 73 = .ok (.if_icmp .ne 23, 3) := by decide +kernel
theorem dX8_findFaults_76 : decode cX8_findFaults 76 = .ok (.goto 13, 3) := by decide +kernel
theorem dX8_findFaults_79 : decode cX8_findFaults 79 = .ok (.aload_n 0, 1) := by decide +kernel
theorem dX8_findFaults_80 : decode cX8_findFaults 80 = .ok (.iload_n 3, 1) := by decide +kernel
theorem dX8_findFaults_81 : decode cX8_findFaults 81 = .ok (.iload_n 1, 1) := by decide +kernel
theorem dX8_findFaults_82 : decode cX8_findFaults 82 = .ok (.invokevirtual 192, 3) := by decide +kernel
theorem dX8_findFaults_85 : decode cX8_findFaults 85 = .ok (.iload_n 2, 1) := by decide +kernel
theorem dX8_findFaults_86 : decode cX8_findFaults 86 = .ok (.if_icmp .ne 10, 3) := by decide +kernel
theorem dX8_findFaults_89 : decode cX8_findFaults 89 = .ok (.aload_n 0, 1) := by decide +kernel
theorem dX8_findFaults_90 : decode cX8_findFaults 90 = .ok (.iload_n 2, 1) := by decide +kernel
theorem dX8_findFaults_91 : decode cX8_findFaults 91 = .ok (.iload_n 1, 1) := by decide +kernel
theorem dX8_findFaults_92 : decode cX8_findFaults 92 = .ok (.iload_n 3, 1) := by decide +kernel
theorem dX8_findFaults_93 : decode cX8_findFaults 93 = .ok (.invokevirtual 188, 3) := by decide +kernel
theorem dX8_findFaults_96 : decode cX8_findFaults 96 = .ok (.iinc 3 1, 3) := by decide +kernel
theorem dX8_findFaults_99 : decode cX8_findFaults 99 = .ok (.goto (-46), 3) := by decide +kernel
theorem dX8_findFaults_102 : decode cX8_findFaults 102 = .ok (.iinc 2 1, 3) := by decide +kernel
theorem dX8_findFaults_105 : decode cX8_findFaults 105 = .ok (.goto (-59), 3) := by decide +kernel
theorem dX8_findFaults_108 : decode cX8_findFaults 108 = .ok (.iinc 1 1, 3) := by decide +kernel
theorem dX8_findFaults_111 : decode cX8_findFaults 111 = .ok (.goto (-100), 3) := by decide +kernel
theorem dX8_findFaults_114 : decode cX8_findFaults 114 = .ok (.return_, 1) := by decide +kernel
theorem dX8_faultsOf_0 : decode cX8_faultsOf 0 = .ok (.iconst 0, 1) := by decide +kernel
theorem dX8_faultsOf_1 : decode cX8_faultsOf 1 = .ok (.istore_n 2, 1) := by decide +kernel
theorem dX8_faultsOf_2 : decode cX8_faultsOf 2 = .ok (.iconst 0, 1) := by decide +kernel
theorem dX8_faultsOf_3 : decode cX8_faultsOf 3 = .ok (.istore_n 3, 1) := by decide +kernel
theorem dX8_faultsOf_4 : decode cX8_faultsOf 4 = .ok (.iload_n 3, 1) := by decide +kernel
theorem dX8_faultsOf_5 : decode cX8_faultsOf 5 = .ok (.aload_n 0, 1) := by decide +kernel
theorem dX8_faultsOf_6 : decode cX8_faultsOf 6 = .ok (.getfield 176, 3) := by decide +kernel
theorem dX8_faultsOf_9 : decode cX8_faultsOf 9 = .ok (.if_icmp .ge 27, 3) := by decide +kernel
theorem dX8_faultsOf_12 : decode cX8_faultsOf 12 = .ok (.iload_n 2, 1) := by decide +kernel
theorem dX8_faultsOf_13 : decode cX8_faultsOf 13 = .ok (.aload_n 0, 1) := by decide +kernel
theorem dX8_faultsOf_14 : decode cX8_faultsOf 14 = .ok (.getfield 48, 3) := by decide +kernel
theorem dX8_faultsOf_17 : decode cX8_faultsOf 17 = .ok (.iload_n 3, 1) := by decide +kernel
theorem dX8_faultsOf_18 : decode cX8_faultsOf 18 = .ok (.iaload, 1) := by decide +kernel
theorem dX8_faultsOf_19 : decode cX8_faultsOf 19 = .ok (.iload_n 1, 1) := by decide +kernel
theorem dX8_faultsOf_20 : decode cX8_faultsOf 20 = .ok (.if_icmp .ne 7, 3) := by decide +kernel
theorem dX8_faultsOf_23 : decode cX8_faultsOf 23 = .ok (.iconst 1, 1) := by decide +kernel
theorem dX8_faultsOf_24 : decode cX8_faultsOf 24 = .ok (.goto 4, 3) := by decide +kernel
theorem dX8_faultsOf_27 : decode cX8_faultsOf 27 = .ok (.iconst 0, 1) := by decide +kernel
theorem dX8_faultsOf_28 : decode cX8_faultsOf 28 = .ok (.iadd, 1) := by decide +kernel
theorem dX8_faultsOf_29 : decode cX8_faultsOf 29 = .ok (.istore_n 2, 1) := by decide +kernel
theorem dX8_faultsOf_30 : decode cX8_faultsOf 30 = .ok (.iinc 3 1, 3) := by decide +kernel
theorem dX8_faultsOf_33 : decode cX8_faultsOf 33 = .ok (.goto (-29), 3) := by decide +kernel
theorem dX8_faultsOf_36 : decode cX8_faultsOf 36 = .ok (.iload_n 2, 1) := by decide +kernel
theorem dX8_faultsOf_37 : decode cX8_faultsOf 37 = .ok (.ireturn, 1) := by decide +kernel
set_option maxRecDepth 20000 in
theorem ggX8_fault_X8_in : GoodIn wsX8_fault wsX8_in := goodIn_r _ [8] (by decide +kernel) (by decide +kernel)
set_option maxRecDepth 20000 in
theorem gX8_fault_X8_in : GoodIn wsX8_fault (va_wsS RX8 61 yX8_in wsX8_in) := goodIn_app (goodIn_of _ (by decide +kernel)) ggX8_fault_X8_in
set_option maxRecDepth 20000 in
theorem ggX8_fault_X8_findFaults : GoodIn wsX8_fault wsX8_findFaults := goodIn_r _ [12, 1, 13, 14, 15, 7, 16, 17, 18, 19, 20, 21, 22, 23, 24, 25, 26, 27, 28, 29, 30, 31, 32, 33, 34, 35, 36, 37, 38, 39, 40, 41, 42, 43, 44, 45, 46, 47, 48, 49, 50, 51, 52, 53, 54, 55, 5, 6, 8, 56, 57, 58, 59, 60, 61, 62, 63, 64, 65, 66, 67, 68, 69, 70, 71, 72, 73, 74, 75, 76, 77, 78, 79, 80, 81, 82, 2, 3, 4, 83, 84, 85, 86, 87, 88, 89, 90, 91, 92, 93, 94, 95, 96, 97, 98, 99, 100, 101, 102, 103, 104, 105, 106, 107, 108, 109, 110] (by decide +kernel) (by decide +kernel)
set_option maxRecDepth 20000 in
theorem gX8_fault_X8_findFaults : GoodIn wsX8_fault (wsV RX8 195 RX8 yX8_findFaults wsX8_findFaults) := goodIn_app (goodIn_of _ (by decide +kernel)) ggX8_fault_X8_findFaults
theorem dX8_fault_0 : decode cX8_fault 0 = .ok (.iload_n 1, 1) := by decide +kernel
theorem dX8_fault_1 : decode cX8_fault 1 = .ok (.ifCond .lt 12, 3) := by decide +kernel
theorem dX8_fault_4 : decode cX8_fault 4 = .ok (.iload_n 2, 1) := by decide +kernel
theorem dX8_fault_5 : decode cX8_fault 5 = .ok (.iconst 0, 1) := by decide +kernel
theorem dX8_fault_6 : decode cX8_fault 6 = .ok (.iconst 2, 1) := by decide +kernel
theorem dX8_fault_7 : decode cX8_fault 7 = .ok (.invokestatic 61, 3) := by decide +kernel
theorem dX8_fault_10 : decode cX8_fault 10 = .ok (.ifCond .ne 6, 3) := by decide +kernel
theorem dX8_fault_13 : decode cX8_fault 13 = .ok (.bipush (-2), 2) := by decide +kernel
theorem dX8_fault_15 : decode cX8_fault 15 = .ok (.ireturn, 1) := by decide +kernel
theorem dX8_fault_16 : decode cX8_fault 16 = .ok (.aload_n 0, 1) := by decide +kernel
theorem dX8_fault_17 : decode cX8_fault 17 = .ok (.invokevirtual 195, 3) := by decide +kernel
theorem dX8_fault_20 : decode cX8_fault 20 = .ok (.iload_n 1, 1) := by decide +kernel
theorem dX8_fault_21 : decode cX8_fault 21 = .ok (.aload_n 0, 1) := by decide +kernel
theorem dX8_fault_22 : decode cX8_fault 22 = .ok (.getfield 176, 3) := by decide +kernel
theorem dX8_fault_25 : decode cX8_fault 25 = .ok (.if_icmp .lt 6, 3) := by decide +kernel
theorem dX8_fault_28 : decode cX8_fault 28 = .ok (.bipush (-5), 2) := by decide +kernel
theorem dX8_fault_30 : decode cX8_fault 30 = .ok (.ireturn, 1) := by decide +kernel
theorem dX8_fault_31 : decode cX8_fault 31 = .ok (.iload_n 2, 1) := by decide +kernel
theorem dX8_fault_32 : decode cX8_fault 32 = .ok (.ifCond .ne 12, 3) := by decide +kernel
theorem dX8_fault_35 : decode cX8_fault 35 = .ok (.aload_n 0, 1) := by decide +kernel
theorem dX8_fault_36 : decode cX8_fault 36 = .ok (.getfield 48, 3) := by decide +kernel
theorem dX8_fault_39 : decode cX8_fault 39 = .ok (.iload_n 1, 1) := by decide +kernel
theorem dX8_fault_40 : decode cX8_fault 40 = .ok (.iaload, 1) := by decide +kernel
theorem dX8_fault_41 : decode cX8_fault 41 = .ok (.goto 23, 3) := by decide +kernel
theorem dX8_fault_44 : decode cX8_fault 44 = .ok (.iload_n 2, 1) := by decide +kernel
theorem dX8_fault_45 : decode cX8_fault 45 = .ok (.iconst 1, 1) := by decide +kernel
theorem dX8_fault_46 : decode cX8_fault 46 = .ok (.if_icmp .ne 12, 3) := by decide +kernel
theorem dX8_fault_49 : decode cX8_fault 49 = .ok (.aload_n 0, 1) := by decide +kernel
theorem dX8_fault_50 : decode cX8_fault 50 = .ok (.getfield 51, 3) := by decide +kernel
theorem dX8_fault_53 : decode cX8_fault 53 = .ok (.iload_n 1, 1) := by decide +kernel
theorem dX8_fault_54 : decode cX8_fault 54 = .ok (.iaload, 1) := by decide +kernel
theorem dX8_fault_55 : decode cX8_fault 55 = .ok (.goto 9, 3) := by decide +kernel
theorem dX8_fault_58 : decode cX8_fault 58 = .ok (.aload_n 0, 1) := by decide +kernel
theorem dX8_fault_59 : decode cX8_fault 59 = .ok (.getfield 54, 3) := by decide +kernel
theorem dX8_fault_62 : decode cX8_fault 62 = .ok (.iload_n 1, 1) := by decide +kernel
theorem dX8_fault_63 : decode cX8_fault 63 = .ok (.iaload, 1) := by decide +kernel
theorem dX8_fault_64 : decode cX8_fault 64 = .ok (.ireturn, 1) := by decide +kernel
set_option maxRecDepth 20000 in
theorem ggX8_beat_X8_noBeat : GoodIn wsX8_beat wsX8_noBeat := goodIn_r _ [6, 7, 8, 9, 5, 10, 1, 11, 12, 13, 79, 80, 81, 82, 83, 84, 85, 86, 87, 88, 89, 90, 91, 92, 93, 94, 95, 96, 97, 98] (by decide +kernel) (by decide +kernel)
set_option maxRecDepth 20000 in
theorem gX8_beat_X8_noBeat : GoodIn wsX8_beat (wsV RX8 105 RX8 yX8_noBeat wsX8_noBeat) := goodIn_app (goodIn_of _ (by decide +kernel)) ggX8_beat_X8_noBeat
set_option maxRecDepth 20000 in
theorem ggX8_beat_X8_liveAll : GoodIn wsX8_beat wsX8_liveAll := goodIn_r _ [17, 18, 19, 20, 5, 21, 1, 7, 8, 9, 10, 22, 23, 24, 25, 26, 27, 28, 29, 30, 31, 32, 33, 34, 35, 36, 37, 38, 39, 40, 41, 42, 43, 44, 45, 46, 47, 48, 49, 50, 51, 11, 12, 13, 52, 53, 54, 55, 56, 57, 58, 59, 60, 61, 62, 63, 64, 65, 66, 79, 80, 81, 82, 83, 84, 85, 86, 87, 88, 89, 90, 91, 92, 93, 94, 95, 96, 97, 98] (by decide +kernel) (by decide +kernel)
set_option maxRecDepth 20000 in
theorem gX8_beat_X8_liveAll : GoodIn wsX8_beat (wsV RX8 185 RX8 yX8_liveAll wsX8_liveAll) := goodIn_app (goodIn_of _ (by decide +kernel)) ggX8_beat_X8_liveAll
set_option maxRecDepth 20000 in
theorem ggX8_beat_X8_loud : GoodIn wsX8_beat wsX8_loud := goodIn_r _ [63, 1, 79, 80, 81, 82, 83, 84, 85, 86, 87, 88, 89, 90, 91, 92, 93, 94, 95, 96, 97, 98] (by decide +kernel) (by decide +kernel)
set_option maxRecDepth 20000 in
theorem gX8_beat_X8_loud : GoodIn wsX8_beat (wsV RX8 148 RX8 yX8_loud wsX8_loud) := goodIn_app (goodIn_of _ (by decide +kernel)) ggX8_beat_X8_loud
set_option maxRecDepth 20000 in
theorem ggX8_beat_X8_firstOf : GoodIn wsX8_beat wsX8_firstOf := goodIn_r _ [70, 1, 52, 53, 54, 5, 55, 79, 80, 81, 82, 83, 84, 85, 86, 87, 88, 89, 90, 91, 92, 93, 94, 95, 96, 97, 98] (by decide +kernel) (by decide +kernel)
set_option maxRecDepth 20000 in
theorem gX8_beat_X8_firstOf : GoodIn wsX8_beat (wsV RX8 179 RX8 yX8_firstOf wsX8_firstOf) := goodIn_app (goodIn_of _ (by decide +kernel)) ggX8_beat_X8_firstOf
set_option maxRecDepth 20000 in
theorem ggX8_beat_X8_many : GoodIn wsX8_beat wsX8_many := goodIn_r _ [74, 18, 19, 20, 5, 21, 1, 75, 76, 77, 78, 26, 79, 80, 81, 82, 83, 84, 85, 86, 87, 88, 89, 90, 91, 92, 93, 94, 95, 96, 97, 98] (by decide +kernel) (by decide +kernel)
set_option maxRecDepth 20000 in
theorem gX8_beat_X8_many : GoodIn wsX8_beat (wsV RX8 182 RX8 yX8_many wsX8_many) := goodIn_app (goodIn_of _ (by decide +kernel)) ggX8_beat_X8_many
set_option maxRecDepth 20000 in
theorem ggX8_beat_X8_soloAt : GoodIn wsX8_beat wsX8_soloAt := goodIn_r _ [43, 44, 45, 46, 5, 47, 1, 48, 49, 50, 51, 11, 12, 13, 79, 80, 81, 82, 83, 84, 85, 86, 87, 88, 89, 90, 91, 92, 93, 94, 95, 96, 97, 98] (by decide +kernel) (by decide +kernel)
set_option maxRecDepth 20000 in
theorem gX8_beat_X8_soloAt : GoodIn wsX8_beat (wsV RX8 139 RX8 yX8_soloAt wsX8_soloAt) := goodIn_app (goodIn_of _ (by decide +kernel)) ggX8_beat_X8_soloAt
theorem dX8_beat_0 : decode cX8_beat 0 = .ok (.aload_n 0, 1) := by decide +kernel
theorem dX8_beat_1 : decode cX8_beat 1 = .ok (.iload_n 1, 1) := by decide +kernel
theorem dX8_beat_2 : decode cX8_beat 2 = .ok (.invokevirtual 105, 3) := by decide +kernel
theorem dX8_beat_5 : decode cX8_beat 5 = .ok (.ifCond .eq 5, 3) := by decide +kernel
theorem dX8_beat_8 : decode cX8_beat 8 = .ok (.iconst (-1), 1) := by decide +kernel
theorem dX8_beat_9 : decode cX8_beat 9 = .ok (.ireturn, 1) := by decide +kernel
theorem dX8_beat_10 : decode cX8_beat 10 = .ok (.aload_n 0, 1) := by decide +kernel
theorem dX8_beat_11 : decode cX8_beat 11 = .ok (.invokevirtual 185, 3) := by decide +kernel
theorem dX8_beat_14 : decode cX8_beat 14 = .ok (.iload_n 2, 1) := by decide +kernel
theorem dX8_beat_15 : decode cX8_beat 15 = .ok (.tableswitch 106 0 7 #[45, 54, 60, 66, 73, 79, 86, 93], 45) := by decide +kernel
theorem dX8_beat_60 : decode cX8_beat 60 = .ok (.aload_n 0, 1) := by decide +kernel
theorem dX8_beat_61 : decode cX8_beat 61 = .ok (.getfield 7, 3) := by decide +kernel
theorem dX8_beat_64 : decode cX8_beat 64 = .ok (.iconst 4, 1) := by decide +kernel
theorem dX8_beat_65 : decode cX8_beat 65 = .ok (.iload_n 1, 1) := by decide +kernel
theorem dX8_beat_66 : decode cX8_beat 66 = .ok (.iadd, 1) := by decide +kernel
theorem dX8_beat_67 : decode cX8_beat 67 = .ok (.iaload, 1) := by decide +kernel
theorem dX8_beat_68 : decode cX8_beat 68 = .ok (.ireturn, 1) := by decide +kernel
theorem dX8_beat_69 : decode cX8_beat 69 = .ok (.aload_n 0, 1) := by decide +kernel
theorem dX8_beat_70 : decode cX8_beat 70 = .ok (.iload_n 1, 1) := by decide +kernel
theorem dX8_beat_71 : decode cX8_beat 71 = .ok (.invokevirtual 148, 3) := by decide +kernel
theorem dX8_beat_74 : decode cX8_beat 74 = .ok (.ireturn, 1) := by decide +kernel
theorem dX8_beat_75 : decode cX8_beat 75 = .ok (.aload_n 0, 1) := by decide +kernel
theorem dX8_beat_76 : decode cX8_beat 76 = .ok (.iload_n 1, 1) := by decide +kernel
theorem dX8_beat_77 : decode cX8_beat 77 = .ok (.invokevirtual 179, 3) := by decide +kernel
theorem dX8_beat_80 : decode cX8_beat 80 = .ok (.ireturn, 1) := by decide +kernel
theorem dX8_beat_81 : decode cX8_beat 81 = .ok (.aload_n 0, 1) := by decide +kernel
theorem dX8_beat_82 : decode cX8_beat 82 = .ok (.iload_n 1, 1) := by decide +kernel
theorem dX8_beat_83 : decode cX8_beat 83 = .ok (.iconst 0, 1) := by decide +kernel
theorem dX8_beat_84 : decode cX8_beat 84 = .ok (.invokevirtual 182, 3) := by decide +kernel
theorem dX8_beat_87 : decode cX8_beat 87 = .ok (.ireturn, 1) := by decide +kernel
theorem dX8_beat_88 : decode cX8_beat 88 = .ok (.aload_n 0, 1) := by decide +kernel
theorem dX8_beat_89 : decode cX8_beat 89 = .ok (.iload_n 1, 1) := by decide +kernel
theorem dX8_beat_90 : decode cX8_beat 90 = .ok (.invokevirtual 139, 3) := by decide +kernel
theorem dX8_beat_93 : decode cX8_beat 93 = .ok (.ireturn, 1) := by decide +kernel
theorem dX8_beat_94 : decode cX8_beat 94 = .ok (.aload_n 0, 1) := by decide +kernel
theorem dX8_beat_95 : decode cX8_beat 95 = .ok (.iload_n 1, 1) := by decide +kernel
theorem dX8_beat_96 : decode cX8_beat 96 = .ok (.iconst 1, 1) := by decide +kernel
theorem dX8_beat_97 : decode cX8_beat 97 = .ok (.invokevirtual 182, 3) := by decide +kernel
theorem dX8_beat_100 : decode cX8_beat 100 = .ok (.ireturn, 1) := by decide +kernel
theorem dX8_beat_101 : decode cX8_beat 101 = .ok (.aload_n 0, 1) := by decide +kernel
theorem dX8_beat_102 : decode cX8_beat 102 = .ok (.iload_n 1, 1) := by decide +kernel
theorem dX8_beat_103 : decode cX8_beat 103 = .ok (.iconst 2, 1) := by decide +kernel
theorem dX8_beat_104 : decode cX8_beat 104 = .ok (.invokevirtual 182, 3) := by decide +kernel
theorem dX8_beat_107 : decode cX8_beat 107 = .ok (.ireturn, 1) := by decide +kernel
theorem dX8_beat_108 : decode cX8_beat 108 = .ok (.aload_n 0, 1) := by decide +kernel
theorem dX8_beat_109 : decode cX8_beat 109 = .ok (.iload_n 1, 1) := by decide +kernel
theorem dX8_beat_110 : decode cX8_beat 110 = .ok (.iconst 0, 1) := by decide +kernel
theorem dX8_beat_111 : decode cX8_beat 111 = .ok (.invokevirtual 182, 3) := by decide +kernel
theorem dX8_beat_114 : decode cX8_beat 114 = .ok (.aload_n 0, 1) := by decide +kernel
theorem dX8_beat_115 : decode cX8_beat 115 = .ok (.iload_n 1, 1) := by decide +kernel
theorem dX8_beat_116 : decode cX8_beat 116 = .ok (.invokevirtual 148, 3) := by decide +kernel
theorem dX8_beat_119 : decode cX8_beat 119 = .ok (.imul, 1) := by decide +kernel
theorem dX8_beat_120 : decode cX8_beat 120 = .ok (.ireturn, 1) := by decide +kernel
theorem dX8_beat_121 : decode cX8_beat 121 = .ok (.bipush (-2), 2) := by decide +kernel
theorem dX8_beat_123 : decode cX8_beat 123 = .ok (.ireturn, 1) := by decide +kernel
set_option maxRecDepth 20000 in
theorem ggX8_beatsOf_X8_beats : GoodIn wsX8_beatsOf wsX8_beats := goodIn_r _ [5, 6, 12, 13, 14, 15, 16, 17, 18, 19, 20, 21, 22, 23, 24, 25, 26, 27, 28, 29, 30, 31] (by decide +kernel) (by decide +kernel)
set_option maxRecDepth 20000 in
theorem gX8_beatsOf_X8_beats : GoodIn wsX8_beatsOf (wsV RX8 65 RX8 yX8_beats wsX8_beats) := goodIn_app (goodIn_of _ (by decide +kernel)) ggX8_beatsOf_X8_beats
set_option maxRecDepth 20000 in
theorem ggX8_beatsOf_X8_doesAt : GoodIn wsX8_beatsOf wsX8_doesAt := goodIn_r _ [10, 11, 12, 13, 14, 15, 16, 17, 18, 19, 20, 21, 22, 23, 24, 25, 26, 27, 28, 29, 30, 31] (by decide +kernel) (by decide +kernel)
set_option maxRecDepth 20000 in
theorem gX8_beatsOf_X8_doesAt : GoodIn wsX8_beatsOf (wsV RX8 157 RX8 yX8_doesAt wsX8_doesAt) := goodIn_app (goodIn_of _ (by decide +kernel)) ggX8_beatsOf_X8_doesAt
theorem dX8_beatsOf_0 : decode cX8_beatsOf 0 = .ok (.iconst 0, 1) := by decide +kernel
theorem dX8_beatsOf_1 : decode cX8_beatsOf 1 = .ok (.istore_n 3, 1) := by decide +kernel
theorem dX8_beatsOf_2 : decode cX8_beatsOf 2 = .ok (.iconst 0, 1) := by decide +kernel
theorem dX8_beatsOf_3 : decode cX8_beatsOf 3 = .ok (.istore 4, 2) := by decide +kernel
theorem dX8_beatsOf_5 : decode cX8_beatsOf 5 = .ok (.iload 4, 2) := by decide +kernel
theorem dX8_beatsOf_7 : decode cX8_beatsOf 7 = .ok (.aload_n 0, 1) := by decide +kernel
theorem dX8_beatsOf_8 : decode cX8_beatsOf 8 = .ok (.invokevirtual 65, 3) := by decide +kernel
theorem dX8_beatsOf_11 : decode cX8_beatsOf 11 = .ok (.if_icmp .ge 28, 3) := by decide +kernel
theorem dX8_beatsOf_14 : decode cX8_beatsOf 14 = .ok (.iload_n 3, 1) := by decide +kernel
theorem dX8_beatsOf_15 : decode cX8_beatsOf 15 = .ok (.aload_n 0, 1) := by decide +kernel
theorem dX8_beatsOf_16 : decode cX8_beatsOf 16 = .ok (.iload_n 1, 1) := by decide +kernel
theorem dX8_beatsOf_17 : decode cX8_beatsOf 17 = .ok (.iload 4, 2) := by decide +kernel
theorem dX8_beatsOf_19 : decode cX8_beatsOf 19 = .ok (.invokevirtual 157, 3) := by decide +kernel
theorem dX8_beatsOf_22 : decode cX8_beatsOf 22 = .ok (.iload_n 2, 1) := by decide +kernel
theorem dX8_beatsOf_23 : decode cX8_beatsOf 23 = .ok (.if_icmp .ne 7, 3) := by decide +kernel
theorem dX8_beatsOf_26 : decode cX8_beatsOf 26 = .ok (.iconst 1, 1) := by decide +kernel
theorem dX8_beatsOf_27 : decode cX8_beatsOf 27 = .ok (.goto 4, 3) := by decide +kernel
theorem dX8_beatsOf_30 : decode cX8_beatsOf 30 = .ok (.iconst 0, 1) := by decide +kernel
theorem dX8_beatsOf_31 : decode cX8_beatsOf 31 = .ok (.iadd, 1) := by decide +kernel
theorem dX8_beatsOf_32 : decode cX8_beatsOf 32 = .ok (.istore_n 3, 1) := by decide +kernel
theorem dX8_beatsOf_33 : decode cX8_beatsOf 33 = .ok (.iinc 4 1, 3) := by decide +kernel
theorem dX8_beatsOf_36 : decode cX8_beatsOf 36 = .ok (.goto (-31), 3) := by decide +kernel
theorem dX8_beatsOf_39 : decode cX8_beatsOf 39 = .ok (.iload_n 3, 1) := by decide +kernel
theorem dX8_beatsOf_40 : decode cX8_beatsOf 40 = .ok (.ireturn, 1) := by decide +kernel
set_option maxRecDepth 20000 in
theorem ggX8_singer_X8_noSinger : GoodIn wsX8_singer wsX8_noSinger := goodIn_r _ [6, 7, 8, 9, 5, 10, 11, 12, 13, 14, 79, 80, 81, 82, 83, 84, 85, 86, 87, 88, 89, 90, 91, 92, 93, 94, 95, 96, 97, 98] (by decide +kernel) (by decide +kernel)
set_option maxRecDepth 20000 in
theorem gX8_singer_X8_noSinger : GoodIn wsX8_singer (wsV RX8 116 RX8 yX8_noSinger wsX8_noSinger) := goodIn_app (goodIn_of _ (by decide +kernel)) ggX8_singer_X8_noSinger
set_option maxRecDepth 20000 in
theorem ggX8_singer_X8_liveAll : GoodIn wsX8_singer wsX8_liveAll := goodIn_r _ [18, 7, 8, 9, 5, 10, 11, 19, 20, 21, 22, 23, 24, 25, 26, 27, 1, 28, 29, 30, 31, 32, 33, 34, 35, 36, 37, 38, 39, 40, 41, 42, 43, 44, 45, 46, 47, 48, 49, 50, 51, 12, 13, 14, 52, 53, 54, 55, 56, 57, 58, 59, 60, 61, 62, 63, 64, 65, 66, 79, 80, 81, 82, 83, 84, 85, 86, 87, 88, 89, 90, 91, 92, 93, 94, 95, 96, 97, 98] (by decide +kernel) (by decide +kernel)
set_option maxRecDepth 20000 in
theorem gX8_singer_X8_liveAll : GoodIn wsX8_singer (wsV RX8 185 RX8 yX8_liveAll wsX8_liveAll) := goodIn_app (goodIn_of _ (by decide +kernel)) ggX8_singer_X8_liveAll
set_option maxRecDepth 20000 in
theorem ggX8_singer_X8_of : GoodIn wsX8_singer wsX8_of := goodIn_r _ [35, 11, 79, 80, 81, 82, 83, 84, 85, 86, 87, 88, 89, 90, 91, 92, 93, 94, 95, 96, 97, 98] (by decide +kernel) (by decide +kernel)
set_option maxRecDepth 20000 in
theorem gX8_singer_X8_of : GoodIn wsX8_singer (wsV RX8 112 RX8 yX8_of wsX8_of) := goodIn_app (goodIn_of _ (by decide +kernel)) ggX8_singer_X8_of
set_option maxRecDepth 20000 in
theorem ggX8_singer_X8_beats : GoodIn wsX8_singer wsX8_beats := goodIn_r _ [22, 11, 79, 80, 81, 82, 83, 84, 85, 86, 87, 88, 89, 90, 91, 92, 93, 94, 95, 96, 97, 98] (by decide +kernel) (by decide +kernel)
set_option maxRecDepth 20000 in
theorem gX8_singer_X8_beats : GoodIn wsX8_singer (wsV RX8 65 RX8 yX8_beats wsX8_beats) := goodIn_app (goodIn_of _ (by decide +kernel)) ggX8_singer_X8_beats
set_option maxRecDepth 20000 in
theorem ggX8_singer_X8_lesser : GoodIn wsX8_singer wsX8_lesser := goodIn_r _ [66] (by decide +kernel) (by decide +kernel)
set_option maxRecDepth 20000 in
theorem gX8_singer_X8_lesser : GoodIn wsX8_singer (va_wsS RX8 151 yX8_lesser wsX8_lesser) := goodIn_app (goodIn_of _ (by decide +kernel)) ggX8_singer_X8_lesser
set_option maxRecDepth 20000 in
theorem ggX8_singer_X8_doesAt : GoodIn wsX8_singer wsX8_doesAt := goodIn_r _ [70, 27, 79, 80, 81, 82, 83, 84, 85, 86, 87, 88, 89, 90, 91, 92, 93, 94, 95, 96, 97, 98] (by decide +kernel) (by decide +kernel)
set_option maxRecDepth 20000 in
theorem gX8_singer_X8_doesAt : GoodIn wsX8_singer (wsV RX8 157 RX8 yX8_doesAt wsX8_doesAt) := goodIn_app (goodIn_of _ (by decide +kernel)) ggX8_singer_X8_doesAt
set_option maxRecDepth 20000 in
theorem ggX8_singer_X8_marksOf : GoodIn wsX8_singer wsX8_marksOf := goodIn_r _ [74, 19, 20, 21, 5, 22, 11, 56, 57, 58, 59, 79, 80, 81, 82, 83, 84, 85, 86, 87, 88, 89, 90, 91, 92, 93, 94, 95, 96, 97, 98] (by decide +kernel) (by decide +kernel)
set_option maxRecDepth 20000 in
theorem gX8_singer_X8_marksOf : GoodIn wsX8_singer (wsV RX8 132 RX8 yX8_marksOf wsX8_marksOf) := goodIn_app (goodIn_of _ (by decide +kernel)) ggX8_singer_X8_marksOf
set_option maxRecDepth 20000 in
theorem ggX8_singer_X8_beatsOf : GoodIn wsX8_singer wsX8_beatsOf := goodIn_r _ [78, 19, 20, 21, 5, 22, 11, 67, 68, 69, 70, 27, 79, 80, 81, 82, 83, 84, 85, 86, 87, 88, 89, 90, 91, 92, 93, 94, 95, 96, 97, 98] (by decide +kernel) (by decide +kernel)
set_option maxRecDepth 20000 in
theorem gX8_singer_X8_beatsOf : GoodIn wsX8_singer (wsV RX8 198 RX8 yX8_beatsOf wsX8_beatsOf) := goodIn_app (goodIn_of _ (by decide +kernel)) ggX8_singer_X8_beatsOf
theorem dX8_singer_0 : decode cX8_singer 0 = .ok (.aload_n 0, 1) := by decide +kernel
theorem dX8_singer_1 : decode cX8_singer 1 = .ok (.iload_n 1, 1) := by decide +kernel
theorem dX8_singer_2 : decode cX8_singer 2 = .ok (.invokevirtual 116, 3) := by decide +kernel
theorem dX8_singer_5 : decode cX8_singer 5 = .ok (.ifCond .eq 5, 3) := by decide +kernel
theorem dX8_singer_8 : decode cX8_singer 8 = .ok (.iconst (-1), 1) := by decide +kernel
theorem dX8_singer_9 : decode cX8_singer 9 = .ok (.ireturn, 1) := by decide +kernel
theorem dX8_singer_10 : decode cX8_singer 10 = .ok (.aload_n 0, 1) := by decide +kernel
theorem dX8_singer_11 : decode cX8_singer 11 = .ok (.invokevirtual 185, 3) := by decide +kernel
theorem dX8_singer_14 : decode cX8_singer 14 = .ok (.aload_n 0, 1) := by decide +kernel
theorem dX8_singer_15 : decode cX8_singer 15 = .ok (.iload_n 1, 1) := by decide +kernel
theorem dX8_singer_16 : decode cX8_singer 16 = .ok (.iconst 0, 1) := by decide +kernel
theorem dX8_singer_17 : decode cX8_singer 17 = .ok (.invokevirtual 112, 3) := by decide +kernel
theorem dX8_singer_20 : decode cX8_singer 20 = .ok (.istore_n 3, 1) := by decide +kernel
theorem dX8_singer_21 : decode cX8_singer 21 = .ok (.iconst 0, 1) := by decide +kernel
theorem dX8_singer_22 : decode cX8_singer 22 = .ok (.istore 4, 2) := by decide +kernel
theorem dX8_singer_24 : decode cX8_singer 24 = .ok (.iconst 0, 1) := by decide +kernel
theorem dX8_singer_25 : decode cX8_singer 25 = .ok (.istore 5, 2) := by decide +kernel
theorem dX8_singer_27 : decode cX8_singer 27 = .ok (.iconst 0, 1) := by decide +kernel
theorem dX8_singer_28 : decode cX8_singer 28 = .ok (.istore 6, 2) := by decide +kernel
theorem dX8_singer_30 : decode cX8_singer 30 = .ok (.iload 6, 2) := by decide +kernel
theorem dX8_singer_32 : decode cX8_singer 32 = .ok (.aload_n 0, 1) := by decide +kernel
theorem dX8_singer_33 : decode cX8_singer 33 = .ok (.invokevirtual 65, 3) := by decide +kernel
theorem dX8_singer_36 : decode cX8_singer 36 = .ok (.if_icmp .ge 62, 3) := by decide +kernel
theorem dX8_singer_39 : decode cX8_singer 39 = .ok (.iload_n 3, 1) := by decide +kernel
theorem dX8_singer_40 : decode cX8_singer 40 = .ok (.aload_n 0, 1) := by decide +kernel
theorem dX8_singer_41 : decode cX8_singer 41 = .ok (.getfield 42, 3) := by decide +kernel
theorem dX8_singer_44 : decode cX8_singer 44 = .ok (.bipush 96, 2) := by decide +kernel
theorem dX8_singer_46 : decode cX8_singer 46 = .ok (.iload_n 1, 1) := by decide +kernel
theorem dX8_singer_47 : decode cX8_singer 47 = .ok (.imul, 1) := by decide +kernel
theorem dX8_singer_48 : decode cX8_singer 48 = .ok (.iload 6, 2) := by decide +kernel
theorem dX8_singer_50 : decode cX8_singer 50 = .ok (.iadd, 1) := by decide +kernel
theorem dX8_singer_51 : decode cX8_singer 51 = .ok (.iaload, 1) := by decide +kernel
theorem dX8_singer_52 : decode cX8_singer 52 = .ok (.invokestatic 151, 3) := by decide +kernel
theorem dX8_singer_55 : decode cX8_singer 55 = .ok (.istore_n 3, 1) := by decide +kernel
theorem dX8_singer_56 : decode cX8_singer 56 = .ok (.aload_n 0, 1) := by decide +kernel
theorem dX8_singer_57 : decode cX8_singer 57 = .ok (.iload_n 1, 1) := by decide +kernel
theorem dX8_singer_58 : decode cX8_singer 58 = .ok (.iload 6, 2) := by decide +kernel
theorem dX8_singer_60 : decode cX8_singer 60 = .ok (.invokevirtual 157, 3) := by decide +kernel
theorem dX8_singer_63 : decode cX8_singer 63 = .ok (.ifCond .ne 10, 3) := by decide +kernel
theorem dX8_singer_66 : decode cX8_singer 66 = .ok (.iload 4, 2) := by decide +kernel
theorem dX8_singer_68 : decode cX8_singer 68 = .ok (.iconst 1, 1) := by decide +kernel
theorem dX8_singer_69 : decode cX8_singer 69 = .ok (.iadd, 1) := by decide +kernel
theorem dX8_singer_70 : decode cX8_singer 70 = .ok (.goto 4, 3) := by decide +kernel
theorem dX8_singer_73 : decode cX8_singer 73 = .ok (.iconst 0, 1) := by decide +kernel
theorem dX8_singer_74 : decode cX8_singer 74 = .ok (.istore 4, 2) := by decide +kernel
theorem dX8_singer_76 : decode cX8_singer 76 = .ok (.iload 4, 2) := by decide +kernel
theorem dX8_singer_78 : decode cX8_singer 78 = .ok (.iload 5, 2) := by decide +kernel
theorem dX8_singer_80 : decode cX8_singer 80 = .ok (.if_icmp .le 8, 3) := by decide +kernel
theorem dX8_singer_83 : decode cX8_singer 83 = .ok (.iload 4, 2) := by decide +kernel
theorem dX8_singer_85 : decode cX8_singer 85 = .ok (.goto 5, 3) := by decide +kernel
theorem dX8_singer_88 : decode cX8_singer 88 = .ok (.iload 5, 2) := by decide +kernel
theorem dX8_singer_90 : decode cX8_singer 90 = .ok (.istore 5, 2) := by decide +kernel
theorem dX8_singer_92 : decode cX8_singer 92 = .ok (.iinc 6 1, 3) := by decide +kernel
theorem dX8_singer_95 : decode cX8_singer 95 = .ok (.goto (-65), 3) := by decide +kernel
theorem dX8_singer_98 : decode cX8_singer 98 = .ok (.iload_n 2, 1) := by decide +kernel
theorem dX8_singer_99 : decode cX8_singer 99 = .ok (.tableswitch 77 0 7 #[45, 45, 45, 52, 58, 65, 72, 74], 45) := by decide +kernel
theorem dX8_singer_144 : decode cX8_singer 144 = .ok (.aload_n 0, 1) := by decide +kernel
theorem dX8_singer_145 : decode cX8_singer 145 = .ok (.iload_n 1, 1) := by decide +kernel
theorem dX8_singer_146 : decode cX8_singer 146 = .ok (.iload_n 2, 1) := by decide +kernel
theorem dX8_singer_147 : decode cX8_singer 147 = .ok (.invokevirtual 112, 3) := by decide +kernel
theorem dX8_singer_150 : decode cX8_singer 150 = .ok (.ireturn, 1) := by decide +kernel
theorem dX8_singer_151 : decode cX8_singer 151 = .ok (.aload_n 0, 1) := by decide +kernel
theorem dX8_singer_152 : decode cX8_singer 152 = .ok (.iload_n 1, 1) := by decide +kernel
theorem dX8_singer_153 : decode cX8_singer 153 = .ok (.invokevirtual 132, 3) := by decide +kernel
theorem dX8_singer_156 : decode cX8_singer 156 = .ok (.ireturn, 1) := by decide +kernel
theorem dX8_singer_157 : decode cX8_singer 157 = .ok (.aload_n 0, 1) := by decide +kernel
theorem dX8_singer_158 : decode cX8_singer 158 = .ok (.iload_n 1, 1) := by decide +kernel
theorem dX8_singer_159 : decode cX8_singer 159 = .ok (.iconst 0, 1) := by decide +kernel
theorem dX8_singer_160 : decode cX8_singer 160 = .ok (.invokevirtual 198, 3) := by decide +kernel
theorem dX8_singer_163 : decode cX8_singer 163 = .ok (.ireturn, 1) := by decide +kernel
theorem dX8_singer_164 : decode cX8_singer 164 = .ok (.aload_n 0, 1) := by decide +kernel
theorem dX8_singer_165 : decode cX8_singer 165 = .ok (.iload_n 1, 1) := by decide +kernel
theorem dX8_singer_166 : decode cX8_singer 166 = .ok (.iconst 2, 1) := by decide +kernel
theorem dX8_singer_167 : decode cX8_singer 167 = .ok (.invokevirtual 198, 3) := by decide +kernel
theorem dX8_singer_170 : decode cX8_singer 170 = .ok (.ireturn, 1) := by decide +kernel
theorem dX8_singer_171 : decode cX8_singer 171 = .ok (.iload_n 3, 1) := by decide +kernel
theorem dX8_singer_172 : decode cX8_singer 172 = .ok (.ireturn, 1) := by decide +kernel
theorem dX8_singer_173 : decode cX8_singer 173 = .ok (.iload 5, 2) := by decide +kernel
theorem dX8_singer_175 : decode cX8_singer 175 = .ok (.ireturn, 1) := by decide +kernel
theorem dX8_singer_176 : decode cX8_singer 176 = .ok (.bipush (-2), 2) := by decide +kernel
theorem dX8_singer_178 : decode cX8_singer 178 = .ok (.ireturn, 1) := by decide +kernel
set_option maxRecDepth 20000 in
theorem ggX8_does_X8_noSinger : GoodIn wsX8_does wsX8_noSinger := goodIn_r _ [5, 6, 7, 8, 4, 9, 10, 11, 12, 13, 75, 76, 77, 78, 79, 80, 81, 82, 83, 84, 85, 86, 87, 88, 89, 90, 91, 92, 93, 94] (by decide +kernel) (by decide +kernel)
set_option maxRecDepth 20000 in
theorem gX8_does_X8_noSinger : GoodIn wsX8_does (wsV RX8 116 RX8 yX8_noSinger wsX8_noSinger) := goodIn_app (goodIn_of _ (by decide +kernel)) ggX8_does_X8_noSinger
set_option maxRecDepth 20000 in
theorem ggX8_does_X8_noBeat : GoodIn wsX8_does wsX8_noBeat := goodIn_r _ [17, 18, 19, 20, 4, 21, 10, 11, 12, 13, 75, 76, 77, 78, 79, 80, 81, 82, 83, 84, 85, 86, 87, 88, 89, 90, 91, 92, 93, 94] (by decide +kernel) (by decide +kernel)
set_option maxRecDepth 20000 in
theorem gX8_does_X8_noBeat : GoodIn wsX8_does (wsV RX8 105 RX8 yX8_noBeat wsX8_noBeat) := goodIn_app (goodIn_of _ (by decide +kernel)) ggX8_does_X8_noBeat
set_option maxRecDepth 20000 in
theorem ggX8_does_X8_liveAll : GoodIn wsX8_does wsX8_liveAll := goodIn_r _ [25, 6, 7, 8, 4, 9, 10, 18, 19, 20, 21, 26, 27, 28, 29, 30, 31, 32, 33, 34, 35, 36, 37, 38, 39, 40, 41, 42, 43, 44, 45, 46, 47, 48, 49, 50, 51, 52, 53, 54, 55, 11, 12, 13, 56, 57, 58, 59, 60, 61, 62, 63, 64, 65, 66, 67, 68, 69, 70, 75, 76, 77, 78, 79, 80, 81, 82, 83, 84, 85, 86, 87, 88, 89, 90, 91, 92, 93, 94] (by decide +kernel) (by decide +kernel)
set_option maxRecDepth 20000 in
theorem gX8_does_X8_liveAll : GoodIn wsX8_does (wsV RX8 185 RX8 yX8_liveAll wsX8_liveAll) := goodIn_app (goodIn_of _ (by decide +kernel)) ggX8_does_X8_liveAll
set_option maxRecDepth 20000 in
theorem ggX8_does_X8_doesAt : GoodIn wsX8_does wsX8_doesAt := goodIn_r _ [74, 30, 75, 76, 77, 78, 79, 80, 81, 82, 83, 84, 85, 86, 87, 88, 89, 90, 91, 92, 93, 94] (by decide +kernel) (by decide +kernel)
set_option maxRecDepth 20000 in
theorem gX8_does_X8_doesAt : GoodIn wsX8_does (wsV RX8 157 RX8 yX8_doesAt wsX8_doesAt) := goodIn_app (goodIn_of _ (by decide +kernel)) ggX8_does_X8_doesAt
theorem dX8_does_0 : decode cX8_does 0 = .ok (.aload_n 0, 1) := by decide +kernel
theorem dX8_does_1 : decode cX8_does 1 = .ok (.iload_n 1, 1) := by decide +kernel
theorem dX8_does_2 : decode cX8_does 2 = .ok (.invokevirtual 116, 3) := by decide +kernel
theorem dX8_does_5 : decode cX8_does 5 = .ok (.ifCond .ne 11, 3) := by decide +kernel
theorem dX8_does_8 : decode cX8_does 8 = .ok (.aload_n 0, 1) := by decide +kernel
theorem dX8_does_9 : decode cX8_does 9 = .ok (.iload_n 2, 1) := by decide +kernel
theorem dX8_does_10 : decode cX8_does 10 = .ok (.invokevirtual 105, 3) := by decide +kernel
theorem dX8_does_13 : decode cX8_does 13 = .ok (.ifCond .eq 5, 3) := by decide +kernel
theorem dX8_does_16 : decode cX8_does 16 = .ok (.iconst (-1), 1) := by decide +kernel
theorem dX8_does_17 : decode cX8_does 17 = .ok (.ireturn, 1) := by decide +kernel
theorem dX8_does_18 : decode cX8_does 18 = .ok (.aload_n 0, 1) := by decide +kernel
theorem dX8_does_19 : decode cX8_does 19 = .ok (.invokevirtual 185, 3) := by decide +kernel
theorem dX8_does_22 : decode cX8_does 22 = .ok (.aload_n 0, 1) := by decide +kernel
theorem dX8_does_23 : decode cX8_does 23 = .ok (.iload_n 1, 1) := by decide +kernel
theorem dX8_does_24 : decode cX8_does 24 = .ok (.iload_n 2, 1) := by decide +kernel
theorem dX8_does_25 : decode cX8_does 25 = .ok (.invokevirtual 157, 3) := by decide +kernel
theorem dX8_does_28 : decode cX8_does 28 = .ok (.ireturn, 1) := by decide +kernel
set_option maxRecDepth 20000 in
theorem ggX8_left_X8_noSinger : GoodIn wsX8_left wsX8_noSinger := goodIn_r _ [6, 7, 8, 9, 5, 10, 11, 12, 13, 14, 71, 72, 73, 74, 75, 76, 77, 78, 79, 80, 81, 82, 83, 84, 85, 86, 87, 88, 89, 90] (by decide +kernel) (by decide +kernel)
set_option maxRecDepth 20000 in
theorem gX8_left_X8_noSinger : GoodIn wsX8_left (wsV RX8 116 RX8 yX8_noSinger wsX8_noSinger) := goodIn_app (goodIn_of _ (by decide +kernel)) ggX8_left_X8_noSinger
set_option maxRecDepth 20000 in
theorem ggX8_left_X8_noBeat : GoodIn wsX8_left wsX8_noBeat := goodIn_r _ [18, 19, 20, 21, 5, 22, 11, 12, 13, 14, 71, 72, 73, 74, 75, 76, 77, 78, 79, 80, 81, 82, 83, 84, 85, 86, 87, 88, 89, 90] (by decide +kernel) (by decide +kernel)
set_option maxRecDepth 20000 in
theorem gX8_left_X8_noBeat : GoodIn wsX8_left (wsV RX8 105 RX8 yX8_noBeat wsX8_noBeat) := goodIn_app (goodIn_of _ (by decide +kernel)) ggX8_left_X8_noBeat
set_option maxRecDepth 20000 in
theorem ggX8_left_X8_liveAll : GoodIn wsX8_left wsX8_liveAll := goodIn_r _ [26, 7, 8, 9, 5, 10, 11, 19, 20, 21, 22, 27, 28, 29, 30, 31, 1, 32, 33, 34, 35, 36, 37, 38, 39, 40, 41, 42, 43, 44, 45, 46, 47, 48, 49, 50, 51, 52, 53, 54, 55, 12, 13, 14, 56, 57, 58, 59, 60, 61, 62, 63, 64, 65, 66, 67, 68, 69, 70, 71, 72, 73, 74, 75, 76, 77, 78, 79, 80, 81, 82, 83, 84, 85, 86, 87, 88, 89, 90] (by decide +kernel) (by decide +kernel)
set_option maxRecDepth 20000 in
theorem gX8_left_X8_liveAll : GoodIn wsX8_left (wsV RX8 185 RX8 yX8_liveAll wsX8_liveAll) := goodIn_app (goodIn_of _ (by decide +kernel)) ggX8_left_X8_liveAll
theorem dX8_left_0 : decode cX8_left 0 = .ok (.aload_n 0, 1) := by decide +kernel
theorem dX8_left_1 : decode cX8_left 1 = .ok (.iload_n 1, 1) := by decide +kernel
theorem dX8_left_2 : decode cX8_left 2 = .ok (.invokevirtual 116, 3) := by decide +kernel
theorem dX8_left_5 : decode cX8_left 5 = .ok (.ifCond .ne 11, 3) := by decide +kernel
theorem dX8_left_8 : decode cX8_left 8 = .ok (.aload_n 0, 1) := by decide +kernel
theorem dX8_left_9 : decode cX8_left 9 = .ok (.iload_n 2, 1) := by decide +kernel
theorem dX8_left_10 : decode cX8_left 10 = .ok (.invokevirtual 105, 3) := by decide +kernel
theorem dX8_left_13 : decode cX8_left 13 = .ok (.ifCond .eq 5, 3) := by decide +kernel
theorem dX8_left_16 : decode cX8_left 16 = .ok (.iconst (-1), 1) := by decide +kernel
theorem dX8_left_17 : decode cX8_left 17 = .ok (.ireturn, 1) := by decide +kernel
theorem dX8_left_18 : decode cX8_left 18 = .ok (.aload_n 0, 1) := by decide +kernel
theorem dX8_left_19 : decode cX8_left 19 = .ok (.invokevirtual 185, 3) := by decide +kernel
theorem dX8_left_22 : decode cX8_left 22 = .ok (.aload_n 0, 1) := by decide +kernel
theorem dX8_left_23 : decode cX8_left 23 = .ok (.getfield 42, 3) := by decide +kernel
theorem dX8_left_26 : decode cX8_left 26 = .ok (.bipush 96, 2) := by decide +kernel
theorem dX8_left_28 : decode cX8_left 28 = .ok (.iload_n 1, 1) := by decide +kernel
theorem dX8_left_29 : decode cX8_left 29 = .ok (.imul, 1) := by decide +kernel
theorem dX8_left_30 : decode cX8_left 30 = .ok (.iload_n 2, 1) := by decide +kernel
theorem dX8_left_31 : decode cX8_left 31 = .ok (.iadd, 1) := by decide +kernel
theorem dX8_left_32 : decode cX8_left 32 = .ok (.iaload, 1) := by decide +kernel
theorem dX8_left_33 : decode cX8_left 33 = .ok (.ireturn, 1) := by decide +kernel
set_option maxRecDepth 20000 in
theorem ggX8_solo_X8_solos : GoodIn wsX8_solo wsX8_solos := goodIn_r _ [5, 6, 14, 15, 16, 17, 18, 19, 20, 21, 22, 23, 24, 25, 26, 27, 28, 29, 30, 31, 32, 33] (by decide +kernel) (by decide +kernel)
set_option maxRecDepth 20000 in
theorem gX8_solo_X8_solos : GoodIn wsX8_solo (wsV RX8 122 RX8 yX8_solos wsX8_solos) := goodIn_app (goodIn_of _ (by decide +kernel)) ggX8_solo_X8_solos
set_option maxRecDepth 20000 in
theorem ggX8_solo_X8_in : GoodIn wsX8_solo wsX8_in := goodIn_r _ [9] (by decide +kernel) (by decide +kernel)
set_option maxRecDepth 20000 in
theorem gX8_solo_X8_in : GoodIn wsX8_solo (va_wsS RX8 61 yX8_in wsX8_in) := goodIn_app (goodIn_of _ (by decide +kernel)) ggX8_solo_X8_in
set_option maxRecDepth 20000 in
theorem ggX8_solo_X8_soloOf : GoodIn wsX8_solo wsX8_soloOf := goodIn_r _ [13, 6, 14, 15, 16, 17, 18, 19, 20, 21, 22, 23, 24, 25, 26, 27, 28, 29, 30, 31, 32, 33] (by decide +kernel) (by decide +kernel)
set_option maxRecDepth 20000 in
theorem gX8_solo_X8_soloOf : GoodIn wsX8_solo (wsV RX8 125 RX8 yX8_soloOf wsX8_soloOf) := goodIn_app (goodIn_of _ (by decide +kernel)) ggX8_solo_X8_soloOf
theorem dX8_solo_0 : decode cX8_solo 0 = .ok (.iload_n 1, 1) := by decide +kernel
theorem dX8_solo_1 : decode cX8_solo 1 = .ok (.iconst 0, 1) := by decide +kernel
theorem dX8_solo_2 : decode cX8_solo 2 = .ok (.aload_n 0, 1) := by decide +kernel
theorem dX8_solo_3 : decode cX8_solo 3 = .ok (.invokevirtual 122, 3) := by decide +kernel
theorem dX8_solo_6 : decode cX8_solo 6 = .ok (.iconst 1, 1) := by decide +kernel
theorem dX8_solo_7 : decode cX8_solo 7 = .ok (.isub, 1) := by decide +kernel
theorem dX8_solo_8 : decode cX8_solo 8 = .ok (.invokestatic 61, 3) := by decide +kernel
theorem dX8_solo_11 : decode cX8_solo 11 = .ok (.ifCond .ne 5, 3) := by decide +kernel
theorem dX8_solo_14 : decode cX8_solo 14 = .ok (.iconst (-1), 1) := by decide +kernel
theorem dX8_solo_15 : decode cX8_solo 15 = .ok (.ireturn, 1) := by decide +kernel
theorem dX8_solo_16 : decode cX8_solo 16 = .ok (.iload_n 2, 1) := by decide +kernel
theorem dX8_solo_17 : decode cX8_solo 17 = .ok (.iconst 0, 1) := by decide +kernel
theorem dX8_solo_18 : decode cX8_solo 18 = .ok (.iconst 2, 1) := by decide +kernel
theorem dX8_solo_19 : decode cX8_solo 19 = .ok (.invokestatic 61, 3) := by decide +kernel
theorem dX8_solo_22 : decode cX8_solo 22 = .ok (.ifCond .eq 12, 3) := by decide +kernel
theorem dX8_solo_25 : decode cX8_solo 25 = .ok (.aload_n 0, 1) := by decide +kernel
theorem dX8_solo_26 : decode cX8_solo 26 = .ok (.iload_n 1, 1) := by decide +kernel
theorem dX8_solo_27 : decode cX8_solo 27 = .ok (.iload_n 2, 1) := by decide +kernel
theorem dX8_solo_28 : decode cX8_solo 28 = .ok (.invokevirtual 125, 3) := by decide +kernel
theorem dX8_solo_31 : decode cX8_solo 31 = .ok (.goto 5, 3) := by decide +kernel
theorem dX8_solo_34 : decode cX8_solo 34 = .ok (.bipush (-2), 2) := by decide +kernel
theorem dX8_solo_36 : decode cX8_solo 36 = .ok (.ireturn, 1) := by decide +kernel
set_option maxRecDepth 20000 in
theorem ggX8_silentWithout_X8_noSinger : GoodIn wsX8_silentWithout wsX8_noSinger := goodIn_r _ [5, 6, 7, 8, 4, 9, 10, 11, 12, 13, 75, 76, 77, 78, 79, 80, 81, 82, 83, 84, 85, 86, 87, 88, 89, 90, 91, 92, 93, 94] (by decide +kernel) (by decide +kernel)
set_option maxRecDepth 20000 in
theorem gX8_silentWithout_X8_noSinger : GoodIn wsX8_silentWithout (wsV RX8 116 RX8 yX8_noSinger wsX8_noSinger) := goodIn_app (goodIn_of _ (by decide +kernel)) ggX8_silentWithout_X8_noSinger
set_option maxRecDepth 20000 in
theorem ggX8_silentWithout_X8_liveAll : GoodIn wsX8_silentWithout wsX8_liveAll := goodIn_r _ [17, 6, 7, 8, 4, 9, 10, 18, 19, 20, 21, 22, 23, 24, 25, 26, 27, 28, 29, 30, 31, 32, 33, 34, 35, 36, 37, 38, 39, 40, 41, 42, 43, 44, 45, 46, 47, 48, 49, 50, 51, 11, 12, 13, 52, 53, 54, 55, 56, 57, 58, 59, 60, 61, 62, 63, 64, 65, 66, 75, 76, 77, 78, 79, 80, 81, 82, 83, 84, 85, 86, 87, 88, 89, 90, 91, 92, 93, 94] (by decide +kernel) (by decide +kernel)
set_option maxRecDepth 20000 in
theorem gX8_silentWithout_X8_liveAll : GoodIn wsX8_silentWithout (wsV RX8 185 RX8 yX8_liveAll wsX8_liveAll) := goodIn_app (goodIn_of _ (by decide +kernel)) ggX8_silentWithout_X8_liveAll
set_option maxRecDepth 20000 in
theorem ggX8_silentWithout_X8_beats : GoodIn wsX8_silentWithout wsX8_beats := goodIn_r _ [21, 10, 75, 76, 77, 78, 79, 80, 81, 82, 83, 84, 85, 86, 87, 88, 89, 90, 91, 92, 93, 94] (by decide +kernel) (by decide +kernel)
set_option maxRecDepth 20000 in
theorem gX8_silentWithout_X8_beats : GoodIn wsX8_silentWithout (wsV RX8 65 RX8 yX8_beats wsX8_beats) := goodIn_app (goodIn_of _ (by decide +kernel)) ggX8_silentWithout_X8_beats
set_option maxRecDepth 20000 in
theorem ggX8_silentWithout_X8_many : GoodIn wsX8_silentWithout wsX8_many := goodIn_r _ [70, 6, 7, 8, 4, 9, 10, 71, 72, 73, 74, 26, 75, 76, 77, 78, 79, 80, 81, 82, 83, 84, 85, 86, 87, 88, 89, 90, 91, 92, 93, 94] (by decide +kernel) (by decide +kernel)
set_option maxRecDepth 20000 in
theorem gX8_silentWithout_X8_many : GoodIn wsX8_silentWithout (wsV RX8 182 RX8 yX8_many wsX8_many) := goodIn_app (goodIn_of _ (by decide +kernel)) ggX8_silentWithout_X8_many
set_option maxRecDepth 20000 in
theorem ggX8_silentWithout_X8_doesAt : GoodIn wsX8_silentWithout wsX8_doesAt := goodIn_r _ [74, 26, 75, 76, 77, 78, 79, 80, 81, 82, 83, 84, 85, 86, 87, 88, 89, 90, 91, 92, 93, 94] (by decide +kernel) (by decide +kernel)
set_option maxRecDepth 20000 in
theorem gX8_silentWithout_X8_doesAt : GoodIn wsX8_silentWithout (wsV RX8 157 RX8 yX8_doesAt wsX8_doesAt) := goodIn_app (goodIn_of _ (by decide +kernel)) ggX8_silentWithout_X8_doesAt
set_option maxRecDepth 20000 in
theorem ggX8_silentWithout_X8_isRest : GoodIn wsX8_silentWithout wsX8_isRest := goodIn_r _ [55, 10, 75, 76, 77, 78, 79, 80, 81, 82, 83, 84, 85, 86, 87, 88, 89, 90, 91, 92, 93, 94] (by decide +kernel) (by decide +kernel)
set_option maxRecDepth 20000 in
theorem gX8_silentWithout_X8_isRest : GoodIn wsX8_silentWithout (wsV RX8 109 RX8 yX8_isRest wsX8_isRest) := goodIn_app (goodIn_of _ (by decide +kernel)) ggX8_silentWithout_X8_isRest
theorem dX8_silentWithout_0 : decode cX8_silentWithout 0 = .ok (.aload_n 0, 1) := by decide +kernel
theorem dX8_silentWithout_1 : decode cX8_silentWithout 1 = .ok (.iload_n 1, 1) := by decide +kernel
theorem dX8_silentWithout_2 : decode cX8_silentWithout 2 = .ok (.invokevirtual 116, 3) := by decide +kernel
theorem dX8_silentWithout_5 : decode cX8_silentWithout 5 = .ok (.ifCond .eq 5, 3) := by decide +kernel
theorem dX8_silentWithout_8 : decode cX8_silentWithout 8 = .ok (.iconst (-1), 1) := by decide +kernel
theorem dX8_silentWithout_9 : decode cX8_silentWithout 9 = .ok (.ireturn, 1) := by decide +kernel
theorem dX8_silentWithout_10 : decode cX8_silentWithout 10 = .ok (.aload_n 0, 1) := by decide +kernel
theorem dX8_silentWithout_11 : decode cX8_silentWithout 11 = .ok (.invokevirtual 185, 3) := by decide +kernel
theorem dX8_silentWithout_14 : decode cX8_silentWithout 14 = .ok (.iconst 0, 1) := by decide +kernel
theorem dX8_silentWithout_15 : decode cX8_silentWithout 15 = .ok (.istore_n 2, 1) := by decide +kernel
theorem dX8_silentWithout_16 : decode cX8_silentWithout 16 = .ok (.iconst 0, 1) := by decide +kernel
theorem dX8_silentWithout_17 : decode cX8_silentWithout 17 = .ok (.istore_n 3, 1) := by decide +kernel
theorem dX8_silentWithout_18 : decode cX8_silentWithout 18 = .ok (.iload_n 3, 1) := by decide +kernel
theorem dX8_silentWithout_19 : decode cX8_silentWithout 19 = .ok (.aload_n 0, 1) := by decide +kernel
theorem dX8_silentWithout_20 : decode cX8_silentWithout 20 = .ok (.invokevirtual 65, 3) := by decide +kernel
theorem dX8_silentWithout_23 : decode cX8_silentWithout 23 = .ok (.if_icmp .ge 53, 3) := by decide +kernel
theorem dX8_silentWithout_26 : decode cX8_silentWithout 26 = .ok (.aload_n 0, 1) := by decide +kernel
theorem dX8_silentWithout_27 : decode cX8_silentWithout 27 = .ok (.iload_n 3, 1) := by decide +kernel
theorem dX8_silentWithout_28 : decode cX8_silentWithout 28 = .ok (.iconst 0, 1) := by decide +kernel
theorem dX8_silentWithout_29 : decode cX8_silentWithout 29 = .ok (.invokevirtual 182, 3) := by decide +kernel
theorem dX8_silentWithout_32 : decode cX8_silentWithout 32 = .ok (.aload_n 0, 1) := by decide +kernel
theorem dX8_silentWithout_33 : decode cX8_silentWithout 33 = .ok (.iload_n 1, 1) := by decide +kernel
theorem dX8_silentWithout_34 : decode cX8_silentWithout 34 = .ok (.iload_n 3, 1) := by decide +kernel
theorem dX8_silentWithout_35 : decode cX8_silentWithout 35 = .ok (.invokevirtual 157, 3) := by decide +kernel
theorem dX8_silentWithout_38 : decode cX8_silentWithout 38 = .ok (.ifCond .ne 7, 3) := by decide +kernel
theorem dX8_silentWithout_41 : decode cX8_silentWithout 41 = .ok (.iconst 1, 1) := by decide +kernel
theorem dX8_silentWithout_42 : decode cX8_silentWithout 42 = .ok (.goto 4, 3) := by decide +kernel
theorem dX8_silentWithout_45 : decode cX8_silentWithout 45 = .ok (.iconst 0, 1) := by decide +kernel
theorem dX8_silentWithout_46 : decode cX8_silentWithout 46 = .ok (.isub, 1) := by decide +kernel
theorem dX8_silentWithout_47 : decode cX8_silentWithout 47 = .ok (.istore 4, 2) := by decide +kernel
theorem dX8_silentWithout_49 : decode cX8_silentWithout 49 = .ok (.iload_n 2, 1) := by decide +kernel
theorem dX8_silentWithout_50 : decode cX8_silentWithout 50 = .ok (.aload_n 0, 1) := by decide +kernel
theorem dX8_silentWithout_51 : decode cX8_silentWithout 51 = .ok (.iload_n 3, 1) := by decide +kernel
theorem dX8_silentWithout_52 : decode cX8_silentWithout 52 = .ok (.invokevirtual 109, 3) := by decide +kernel
theorem dX8_silentWithout_55 : decode cX8_silentWithout 55 = .ok (.ifCond .ne 12, 3) := by decide +kernel
theorem dX8_silentWithout_58 : decode cX8_silentWithout 58 = .ok (.iload 4, 2) := by decide +kernel
theorem dX8_silentWithout_60 : decode cX8_silentWithout 60 = .ok (.ifCond .ne 7, 3) := by decide +kernel
theorem dX8_silentWithout_63 : decode cX8_silentWithout 63 = .ok (.iconst 1, 1) := by decide +kernel
theorem dX8_silentWithout_64 : decode cX8_silentWithout 64 = .ok (.goto 4, 3) := by decide +kernel
theorem dX8_silentWithout_67 : decode cX8_silentWithout 67 = .ok (.iconst 0, 1) := by decide +kernel
theorem dX8_silentWithout_68 : decode cX8_silentWithout 68 = .ok (.iadd, 1) := by decide +kernel
theorem dX8_silentWithout_69 : decode cX8_silentWithout 69 = .ok (.istore_n 2, 1) := by decide +kernel
theorem dX8_silentWithout_70 : decode cX8_silentWithout 70 = .ok (.iinc 3 1, 3) := by decide +kernel
theorem dX8_silentWithout_73 : decode cX8_silentWithout 73 = .ok (.goto (-55), 3) := by decide +kernel
theorem dX8_silentWithout_76 : decode cX8_silentWithout 76 = .ok (.iload_n 2, 1) := by decide +kernel
theorem dX8_silentWithout_77 : decode cX8_silentWithout 77 = .ok (.ireturn, 1) := by decide +kernel
set_option maxRecDepth 20000 in
theorem ggX8_breathFor_X8_noSinger : GoodIn wsX8_breathFor wsX8_noSinger := goodIn_r _ [6, 7, 8, 9, 5, 10, 1, 11, 12, 13, 71, 72, 73, 74, 75, 76, 77, 78, 79, 80, 81, 82, 83, 84, 85, 86, 87, 88, 89, 90] (by decide +kernel) (by decide +kernel)
set_option maxRecDepth 20000 in
theorem gX8_breathFor_X8_noSinger : GoodIn wsX8_breathFor (wsV RX8 116 RX8 yX8_noSinger wsX8_noSinger) := goodIn_app (goodIn_of _ (by decide +kernel)) ggX8_breathFor_X8_noSinger
set_option maxRecDepth 20000 in
theorem ggX8_breathFor_X8_of : GoodIn wsX8_breathFor wsX8_of := goodIn_r _ [17, 1, 71, 72, 73, 74, 75, 76, 77, 78, 79, 80, 81, 82, 83, 84, 85, 86, 87, 88, 89, 90] (by decide +kernel) (by decide +kernel)
set_option maxRecDepth 20000 in
theorem gX8_breathFor_X8_of : GoodIn wsX8_breathFor (wsV RX8 112 RX8 yX8_of wsX8_of) := goodIn_app (goodIn_of _ (by decide +kernel)) ggX8_breathFor_X8_of
set_option maxRecDepth 20000 in
theorem ggX8_breathFor_X8_beats : GoodIn wsX8_breathFor wsX8_beats := goodIn_r _ [21, 1, 71, 72, 73, 74, 75, 76, 77, 78, 79, 80, 81, 82, 83, 84, 85, 86, 87, 88, 89, 90] (by decide +kernel) (by decide +kernel)
set_option maxRecDepth 20000 in
theorem gX8_breathFor_X8_beats : GoodIn wsX8_breathFor (wsV RX8 65 RX8 yX8_beats wsX8_beats) := goodIn_app (goodIn_of _ (by decide +kernel)) ggX8_breathFor_X8_beats
set_option maxRecDepth 20000 in
theorem ggX8_breathFor_X8_live : GoodIn wsX8_breathFor wsX8_live := goodIn_r _ [25, 26, 27, 28, 29, 30, 5, 31, 14, 15, 16, 17, 1, 32, 33, 34, 35, 36, 37, 38, 39, 40, 41, 42, 43, 44, 45, 46, 47, 11, 12, 13, 48, 49, 50, 51, 52, 53, 54, 55, 56, 57, 58, 59, 60, 61, 62, 71, 72, 73, 74, 75, 76, 77, 78, 79, 80, 81, 82, 83, 84, 85, 86, 87, 88, 89, 90] (by decide +kernel) (by decide +kernel)
set_option maxRecDepth 20000 in
theorem gX8_breathFor_X8_live : GoodIn wsX8_breathFor (wsV RX8 154 RX8 yX8_live wsX8_live) := goodIn_app (goodIn_of _ (by decide +kernel)) ggX8_breathFor_X8_live
set_option maxRecDepth 20000 in
theorem ggX8_breathFor_X8_beatsOf : GoodIn wsX8_breathFor wsX8_beatsOf := goodIn_r _ [66, 18, 19, 20, 5, 21, 1, 67, 68, 69, 70, 26, 71, 72, 73, 74, 75, 76, 77, 78, 79, 80, 81, 82, 83, 84, 85, 86, 87, 88, 89, 90] (by decide +kernel) (by decide +kernel)
set_option maxRecDepth 20000 in
theorem gX8_breathFor_X8_beatsOf : GoodIn wsX8_breathFor (wsV RX8 198 RX8 yX8_beatsOf wsX8_beatsOf) := goodIn_app (goodIn_of _ (by decide +kernel)) ggX8_breathFor_X8_beatsOf
theorem dX8_breathFor_0 : decode cX8_breathFor 0 = .ok (.aload_n 0, 1) := by decide +kernel
theorem dX8_breathFor_1 : decode cX8_breathFor 1 = .ok (.iload_n 1, 1) := by decide +kernel
theorem dX8_breathFor_2 : decode cX8_breathFor 2 = .ok (.invokevirtual 116, 3) := by decide +kernel
theorem dX8_breathFor_5 : decode cX8_breathFor 5 = .ok (.ifCond .eq 5, 3) := by decide +kernel
theorem dX8_breathFor_8 : decode cX8_breathFor 8 = .ok (.iconst (-1), 1) := by decide +kernel
theorem dX8_breathFor_9 : decode cX8_breathFor 9 = .ok (.ireturn, 1) := by decide +kernel
theorem dX8_breathFor_10 : decode cX8_breathFor 10 = .ok (.aload_n 0, 1) := by decide +kernel
theorem dX8_breathFor_11 : decode cX8_breathFor 11 = .ok (.iload_n 1, 1) := by decide +kernel
theorem dX8_breathFor_12 : decode cX8_breathFor 12 = .ok (.iconst 0, 1) := by decide +kernel
theorem dX8_breathFor_13 : decode cX8_breathFor 13 = .ok (.invokevirtual 112, 3) := by decide +kernel
theorem dX8_breathFor_16 : decode cX8_breathFor 16 = .ok (.istore_n 2, 1) := by decide +kernel
theorem dX8_breathFor_17 : decode cX8_breathFor 17 = .ok (.bipush (-5), 2) := by decide +kernel
theorem dX8_breathFor_19 : decode cX8_breathFor 19 = .ok (.istore_n 3, 1) := by decide +kernel
theorem dX8_breathFor_20 : decode cX8_breathFor 20 = .ok (.bipush 40, 2) := by decide +kernel
theorem dX8_breathFor_22 : decode cX8_breathFor 22 = .ok (.istore 4, 2) := by decide +kernel
theorem dX8_breathFor_24 : decode cX8_breathFor 24 = .ok (.iload 4, 2) := by decide +kernel
theorem dX8_breathFor_26 : decode cX8_breathFor 26 = .ok (.iconst 4, 1) := by decide +kernel
theorem dX8_breathFor_27 : decode cX8_breathFor 27 = .ok (.if_icmp .lt 64, 3) := by decide +kernel
theorem dX8_breathFor_30 : decode cX8_breathFor 30 = .ok (.aload_n 0, 1) := by decide +kernel
theorem dX8_breathFor_31 : decode cX8_breathFor 31 = .ok (.getfield 7, 3) := by decide +kernel
theorem dX8_breathFor_34 : decode cX8_breathFor 34 = .ok (.sipush 196, 3) := by decide +kernel
theorem dX8_breathFor_37 : decode cX8_breathFor 37 = .ok (.iconst 3, 1) := by decide +kernel
theorem dX8_breathFor_38 : decode cX8_breathFor 38 = .ok (.iload_n 1, 1) := by decide +kernel
theorem dX8_breathFor_39 : decode cX8_breathFor 39 = .ok (.imul, 1) := by decide +kernel
theorem dX8_breathFor_40 : decode cX8_breathFor 40 = .ok (.iadd, 1) := by decide +kernel
theorem dX8_breathFor_41 : decode cX8_breathFor 41 = .ok (.iload 4, 2) := by decide +kernel
theorem dX8_breathFor_43 : decode cX8_breathFor 43 = .ok (.iastore, 1) := by decide +kernel
theorem dX8_breathFor_44 : decode cX8_breathFor 44 = .ok (.iconst 0, 1) := by decide +kernel
theorem dX8_breathFor_45 : decode cX8_breathFor 45 = .ok (.istore 5, 2) := by decide +kernel
theorem dX8_breathFor_47 : decode cX8_breathFor 47 = .ok (.iload 5, 2) := by decide +kernel
theorem dX8_breathFor_49 : decode cX8_breathFor 49 = .ok (.aload_n 0, 1) := by decide +kernel
theorem dX8_breathFor_50 : decode cX8_breathFor 50 = .ok (.invokevirtual 65, 3) := by decide +kernel
theorem dX8_breathFor_53 : decode cX8_breathFor 53 = .ok (.if_icmp .ge 16, 3) := by decide +kernel
theorem dX8_breathFor_56 : decode cX8_breathFor 56 = .ok (.aload_n 0, 1) := by decide +kernel
theorem dX8_breathFor_57 : decode cX8_breathFor 57 = .ok (.iload_n 1, 1) := by decide +kernel
theorem dX8_breathFor_58 : decode cX8_breathFor 58 = .ok (.iload 5, 2) := by decide +kernel
theorem dX8_breathFor_60 : decode cX8_breathFor 60 = .ok (.invokevirtual 154, 3) := by decide +kernel
theorem dX8_breathFor_63 : decode cX8_breathFor 63 = .ok (.iinc 5 1, 3) := by decide +kernel
theorem dX8_breathFor_66 : decode cX8_breathFor 66 = .ok (.goto (-19), 3) := by decide +kernel
theorem dX8_breathFor_69 : decode cX8_breathFor 69 = .ok (.aload_n 0, 1) := by decide +kernel
theorem dX8_breathFor_70 : decode cX8_breathFor 70 = .ok (.iload_n 1, 1) := by decide +kernel
theorem dX8_breathFor_71 : decode cX8_breathFor 71 = .ok (.iconst 2, 1) := by decide +kernel
theorem dX8_breathFor_72 : decode cX8_breathFor 72 = .ok (.invokevirtual 198, 3) := by decide +kernel
theorem dX8_breathFor_75 : decode cX8_breathFor 75 = .ok (.ifCond .ne 8, 3) := by decide +kernel
theorem dX8_breathFor_78 : decode cX8_breathFor 78 = .ok (.iload 4, 2) := by decide +kernel
theorem dX8_breathFor_80 : decode cX8_breathFor 80 = .ok (.goto 4, 3) := by decide +kernel
theorem dX8_breathFor_83 : decode cX8_breathFor 83 = .ok (.iload_n 3, 1) := by decide +kernel
theorem dX8_breathFor_84 : decode cX8_breathFor 84 = .ok (.istore_n 3, 1) := by decide +kernel
theorem dX8_breathFor_85 : decode cX8_breathFor 85 = .ok (.iinc 4 (-1), 3) := by decide +kernel
theorem dX8_breathFor_88 : decode cX8_breathFor 88 = .ok (.goto (-64), 3) := by decide +kernel
theorem dX8_breathFor_91 : decode cX8_breathFor 91 = .ok (.aload_n 0, 1) := by decide +kernel
theorem dX8_breathFor_92 : decode cX8_breathFor 92 = .ok (.getfield 7, 3) := by decide +kernel
theorem dX8_breathFor_95 : decode cX8_breathFor 95 = .ok (.sipush 196, 3) := by decide +kernel
theorem dX8_breathFor_98 : decode cX8_breathFor 98 = .ok (.iconst 3, 1) := by decide +kernel
theorem dX8_breathFor_99 : decode cX8_breathFor 99 = .ok (.iload_n 1, 1) := by decide +kernel
theorem dX8_breathFor_100 : decode cX8_breathFor 100 = .ok (.imul, 1) := by decide +kernel
theorem dX8_breathFor_101 : decode cX8_breathFor 101 = .ok (.iadd, 1) := by decide +kernel
theorem dX8_breathFor_102 : decode cX8_breathFor 102 = .ok (.iload_n 2, 1) := by decide +kernel
theorem dX8_breathFor_103 : decode cX8_breathFor 103 = .ok (.iastore, 1) := by decide +kernel
theorem dX8_breathFor_104 : decode cX8_breathFor 104 = .ok (.iload_n 3, 1) := by decide +kernel
theorem dX8_breathFor_105 : decode cX8_breathFor 105 = .ok (.ireturn, 1) := by decide +kernel
set_option maxRecDepth 20000 in
theorem ggX8_count_X8_findFaults : GoodIn wsX8_count wsX8_findFaults := goodIn_r _ [9, 1, 10, 11, 12, 8, 13, 14, 15, 16, 17, 2, 18, 19, 20, 21, 22, 23, 24, 25, 26, 27, 28, 29, 30, 31, 32, 33, 34, 35, 36, 37, 38, 39, 40, 41, 42, 43, 44, 45, 46, 47, 48, 49, 50, 51, 52, 53, 54, 55, 56, 57, 58, 59, 60, 61, 62, 63, 64, 65, 66, 67, 68, 69, 70, 71, 72, 73, 74, 75, 76, 77, 78, 79, 80, 81, 82, 83, 84, 85, 86, 87, 88, 89, 90, 91, 92, 109, 110, 111, 112, 113, 114, 115, 116, 117, 118, 119, 120, 121, 122, 123, 124, 125, 126, 127, 128] (by decide +kernel) (by decide +kernel)
set_option maxRecDepth 20000 in
theorem gX8_count_X8_findFaults : GoodIn wsX8_count (wsV RX8 195 RX8 yX8_findFaults wsX8_findFaults) := goodIn_app (goodIn_of _ (by decide +kernel)) ggX8_count_X8_findFaults
set_option maxRecDepth 20000 in
theorem ggX8_count_X8_beats : GoodIn wsX8_count wsX8_beats := goodIn_r _ [21, 2, 109, 110, 111, 112, 113, 114, 115, 116, 117, 118, 119, 120, 121, 122, 123, 124, 125, 126, 127, 128] (by decide +kernel) (by decide +kernel)
set_option maxRecDepth 20000 in
theorem gX8_count_X8_beats : GoodIn wsX8_count (wsV RX8 65 RX8 yX8_beats wsX8_beats) := goodIn_app (goodIn_of _ (by decide +kernel)) ggX8_count_X8_beats
set_option maxRecDepth 20000 in
theorem ggX8_count_X8_isRest : GoodIn wsX8_count wsX8_isRest := goodIn_r _ [58, 2, 109, 110, 111, 112, 113, 114, 115, 116, 117, 118, 119, 120, 121, 122, 123, 124, 125, 126, 127, 128] (by decide +kernel) (by decide +kernel)
set_option maxRecDepth 20000 in
theorem gX8_count_X8_isRest : GoodIn wsX8_count (wsV RX8 109 RX8 yX8_isRest wsX8_isRest) := goodIn_app (goodIn_of _ (by decide +kernel)) ggX8_count_X8_isRest
set_option maxRecDepth 20000 in
theorem ggX8_count_X8_firstOf : GoodIn wsX8_count wsX8_firstOf := goodIn_r _ [92, 2, 55, 56, 57, 8, 58, 109, 110, 111, 112, 113, 114, 115, 116, 117, 118, 119, 120, 121, 122, 123, 124, 125, 126, 127, 128] (by decide +kernel) (by decide +kernel)
set_option maxRecDepth 20000 in
theorem gX8_count_X8_firstOf : GoodIn wsX8_count (wsV RX8 179 RX8 yX8_firstOf wsX8_firstOf) := goodIn_app (goodIn_of _ (by decide +kernel)) ggX8_count_X8_firstOf
set_option maxRecDepth 20000 in
theorem ggX8_count_X8_singers : GoodIn wsX8_count wsX8_singers := goodIn_r _ [17, 2, 109, 110, 111, 112, 113, 114, 115, 116, 117, 118, 119, 120, 121, 122, 123, 124, 125, 126, 127, 128] (by decide +kernel) (by decide +kernel)
set_option maxRecDepth 20000 in
theorem gX8_count_X8_singers : GoodIn wsX8_count (wsV RX8 76 RX8 yX8_singers wsX8_singers) := goodIn_app (goodIn_of _ (by decide +kernel)) ggX8_count_X8_singers
set_option maxRecDepth 20000 in
theorem ggX8_count_X8_presentOnes : GoodIn wsX8_count wsX8_presentOnes := goodIn_r _ [96, 14, 15, 16, 8, 17, 2, 32, 33, 34, 35, 109, 110, 111, 112, 113, 114, 115, 116, 117, 118, 119, 120, 121, 122, 123, 124, 125, 126, 127, 128] (by decide +kernel) (by decide +kernel)
set_option maxRecDepth 20000 in
theorem gX8_count_X8_presentOnes : GoodIn wsX8_count (wsV RX8 119 RX8 yX8_presentOnes wsX8_presentOnes) := goodIn_app (goodIn_of _ (by decide +kernel)) ggX8_count_X8_presentOnes
set_option maxRecDepth 20000 in
theorem ggX8_count_X8_solos : GoodIn wsX8_count wsX8_solos := goodIn_r _ [47, 2, 109, 110, 111, 112, 113, 114, 115, 116, 117, 118, 119, 120, 121, 122, 123, 124, 125, 126, 127, 128] (by decide +kernel) (by decide +kernel)
set_option maxRecDepth 20000 in
theorem gX8_count_X8_solos : GoodIn wsX8_count (wsV RX8 122 RX8 yX8_solos wsX8_solos) := goodIn_app (goodIn_of _ (by decide +kernel)) ggX8_count_X8_solos
set_option maxRecDepth 20000 in
theorem ggX8_count_X8_allMarks : GoodIn wsX8_count wsX8_allMarks := goodIn_r _ [100, 14, 15, 16, 8, 17, 2, 101, 102, 103, 104, 18, 19, 20, 21, 59, 60, 61, 62, 109, 110, 111, 112, 113, 114, 115, 116, 117, 118, 119, 120, 121, 122, 123, 124, 125, 126, 127, 128] (by decide +kernel) (by decide +kernel)
set_option maxRecDepth 20000 in
theorem gX8_count_X8_allMarks : GoodIn wsX8_count (wsV RX8 173 RX8 yX8_allMarks wsX8_allMarks) := goodIn_app (goodIn_of _ (by decide +kernel)) ggX8_count_X8_allMarks
set_option maxRecDepth 20000 in
theorem ggX8_count_X8_faultsOf : GoodIn wsX8_count wsX8_faultsOf := goodIn_r _ [108, 1, 82, 109, 110, 111, 112, 113, 114, 115, 116, 117, 118, 119, 120, 121, 122, 123, 124, 125, 126, 127, 128] (by decide +kernel) (by decide +kernel)
set_option maxRecDepth 20000 in
theorem gX8_count_X8_faultsOf : GoodIn wsX8_count (wsV RX8 201 RX8 yX8_faultsOf wsX8_faultsOf) := goodIn_app (goodIn_of _ (by decide +kernel)) ggX8_count_X8_faultsOf
theorem dX8_count_0 : decode cX8_count 0 = .ok (.aload_n 0, 1) := by decide +kernel
theorem dX8_count_1 : decode cX8_count 1 = .ok (.invokevirtual 195, 3) := by decide +kernel
theorem dX8_count_4 : decode cX8_count 4 = .ok (.iconst 0, 1) := by decide +kernel
theorem dX8_count_5 : decode cX8_count 5 = .ok (.istore_n 2, 1) := by decide +kernel
theorem dX8_count_6 : decode cX8_count 6 = .ok (.iconst 0, 1) := by decide +kernel
theorem dX8_count_7 : decode cX8_count 7 = .ok (.istore_n 3, 1) := by decide +kernel
theorem dX8_count_8 : decode cX8_count 8 = .ok (.iconst 0, 1) := by decide +kernel
theorem dX8_count_9 : decode cX8_count 9 = .ok (.istore 4, 2) := by decide +kernel
theorem dX8_count_11 : decode cX8_count 11 = .ok (.iconst 0, 1) := by decide +kernel
theorem dX8_count_12 : decode cX8_count 12 = .ok (.istore 5, 2) := by decide +kernel
theorem dX8_count_14 : decode cX8_count 14 = .ok (.iload 5, 2) := by decide +kernel
theorem dX8_count_16 : decode cX8_count 16 = .ok (.aload_n 0, 1) := by decide +kernel
theorem dX8_count_17 : decode cX8_count 17 = .ok (.invokevirtual 65, 3) := by decide +kernel
theorem dX8_count_20 : decode cX8_count 20 = .ok (.if_icmp .ge 87, 3) := by decide +kernel
theorem dX8_count_23 : decode cX8_count 23 = .ok (.iload_n 2, 1) := by decide +kernel
theorem dX8_count_24 : decode cX8_count 24 = .ok (.aload_n 0, 1) := by decide +kernel
theorem dX8_count_25 : decode cX8_count 25 = .ok (.iload 5, 2) := by decide +kernel
theorem dX8_count_27 : decode cX8_count 27 = .ok (.invokevirtual 109, 3) := by decide +kernel
theorem dX8_count_30 : decode cX8_count 30 = .ok (.ifCond .eq 7, 3) := by decide +kernel
theorem dX8_count_33 : decode cX8_count 33 = .ok (.iconst 1, 1) := by decide +kernel
theorem dX8_count_34 : decode cX8_count 34 = .ok (.goto 4, 3) := by decide +kernel
theorem dX8_count_37 : decode cX8_count 37 = .ok (.iconst 0, 1) := by decide +kernel
theorem dX8_count_38 : decode cX8_count 38 = .ok (.iadd, 1) := by decide +kernel
theorem dX8_count_39 : decode cX8_count 39 = .ok (.istore_n 2, 1) := by decide +kernel
theorem dX8_count_40 : decode cX8_count 40 = .ok (.iload_n 3, 1) := by decide +kernel
theorem dX8_count_41 : decode cX8_count 41 = .ok (.aload_n 0, 1) := by decide +kernel
theorem dX8_count_42 : decode cX8_count 42 = .ok (.iload 5, 2) := by decide +kernel
theorem dX8_count_44 : decode cX8_count 44 = .ok (.invokevirtual 179, 3) := by decide +kernel
theorem dX8_count_47 : decode cX8_count 47 = .ok (.iload 5, 2) := by decide +kernel
theorem dX8_count_49 : decode cX8_count 49 = .ok (.if_icmp .ne 7, 3) := by decide +kernel
theorem dX8_count_52 : decode cX8_count 52 = .ok (.iconst 1, 1) := by decide +kernel
theorem dX8_count_53 : decode cX8_count 53 = .ok (.goto 4, 3) := by decide +kernel
theorem dX8_count_56 : decode cX8_count 56 = .ok (.iconst 0, 1) := by decide +kernel
theorem dX8_count_57 : decode cX8_count 57 = .ok (.iadd, 1) := by decide +kernel
theorem dX8_count_58 : decode cX8_count 58 = .ok (.istore_n 3, 1) := by decide +kernel
theorem dX8_count_59 : decode cX8_count 59 = .ok (.aload_n 0, 1) := by decide +kernel
theorem dX8_count_60 : decode cX8_count 60 = .ok (.iload 5, 2) := by decide +kernel
theorem dX8_count_62 : decode cX8_count 62 = .ok (.invokevirtual 109, 3) := by decide +kernel
theorem dX8_count_65 : decode cX8_count 65 = .ok (.ifCond .eq 7, 3) := by decide +kernel
theorem dX8_count_68 : decode cX8_count 68 = .ok (.iconst 0, 1) := by decide +kernel
theorem dX8_count_69 : decode cX8_count 69 = .ok (.goto 14, 3) := by decide +kernel
theorem dX8_count_72 : decode cX8_count 72 = .ok (.iload 5, 2) := by decide +kernel
theorem dX8_count_74 : decode cX8_count 74 = .ok (.aload_n 0, 1) := by decide +kernel
theorem dX8_count_75 : decode cX8_count 75 = .ok (.iload 5, 2) := by decide +kernel
theorem dX8_count_77 : decode cX8_count 77 = .ok (.invokevirtual 179, 3) := by decide +kernel
theorem dX8_count_80 : decode cX8_count 80 = .ok (.isub, 1) := by decide +kernel
theorem dX8_count_81 : decode cX8_count 81 = .ok (.iconst 1, 1) := by decide +kernel
theorem dX8_count_82 : decode cX8_count 82 = .ok (.iadd, 1) := by decide +kernel
theorem dX8_count_83 : decode cX8_count 83 = .ok (.istore 6, 2) := by decide +kernel
theorem dX8_count_85 : decode cX8_count 85 = .ok (.iload 6, 2) := by decide +kernel
theorem dX8_count_87 : decode cX8_count 87 = .ok (.iload 4, 2) := by decide +kernel
theorem dX8_count_89 : decode cX8_count 89 = .ok (.if_icmp .le 8, 3) := by decide +kernel
theorem dX8_count_92 : decode cX8_count 92 = .ok (.iload 6, 2) := by decide +kernel
theorem dX8_count_94 : decode cX8_count 94 = .ok (.goto 5, 3) := by decide +kernel
theorem dX8_count_97 : decode cX8_count 97 = .ok (.iload 4, 2) := by decide +kernel
theorem dX8_count_99 : decode cX8_count 99 = .ok (.istore 4, 2) := by decide +kernel
theorem dX8_count_101 : decode cX8_count 101 = .ok (.iinc 5 1, 3) := by decide +kernel
theorem dX8_count_104 : decode cX8_count 104 = .ok (.goto (-90), 3) := by decide +kernel
theorem dX8_count_107 : decode cX8_count 107 = .ok (.iload_n 1, 1) := by decide +kernel
theorem dX8_count_108 : decode cX8_count 108 = .ok (.tableswitch 143 0 15 #[80, 85, 87, 89, 94, 99, 104, 109, 114, 114, 114, 114, 123, 130, 133, 138], 80) := by decide +kernel
theorem dX8_count_188 : decode cX8_count 188 = .ok (.aload_n 0, 1) := by decide +kernel
theorem dX8_count_189 : decode cX8_count 189 = .ok (.invokevirtual 65, 3) := by decide +kernel
theorem dX8_count_192 : decode cX8_count 192 = .ok (.ireturn, 1) := by decide +kernel
theorem dX8_count_193 : decode cX8_count 193 = .ok (.iload_n 2, 1) := by decide +kernel
theorem dX8_count_194 : decode cX8_count 194 = .ok (.ireturn, 1) := by decide +kernel
theorem dX8_count_195 : decode cX8_count 195 = .ok (.iload_n 3, 1) := by decide +kernel
theorem dX8_count_196 : decode cX8_count 196 = .ok (.ireturn, 1) := by decide +kernel
theorem dX8_count_197 : decode cX8_count 197 = .ok (.aload_n 0, 1) := by decide +kernel
theorem dX8_count_198 : decode cX8_count 198 = .ok (.invokevirtual 76, 3) := by decide +kernel
theorem dX8_count_201 : decode cX8_count 201 = .ok (.ireturn, 1) := by decide +kernel
theorem dX8_count_202 : decode cX8_count 202 = .ok (.aload_n 0, 1) := by decide +kernel
theorem dX8_count_203 : decode cX8_count 203 = .ok (.invokevirtual 119, 3) := by decide +kernel
theorem dX8_count_206 : decode cX8_count 206 = .ok (.ireturn, 1) := by decide +kernel
theorem dX8_count_207 : decode cX8_count 207 = .ok (.aload_n 0, 1) := by decide +kernel
theorem dX8_count_208 : decode cX8_count 208 = .ok (.invokevirtual 122, 3) := by decide +kernel
theorem dX8_count_211 : decode cX8_count 211 = .ok (.ireturn, 1) := by decide +kernel
theorem dX8_count_212 : decode cX8_count 212 = .ok (.aload_n 0, 1) := by decide +kernel
theorem dX8_count_213 : decode cX8_count 213 = .ok (.invokevirtual 173, 3) := by decide +kernel
theorem dX8_count_216 : decode cX8_count 216 = .ok (.ireturn, 1) := by decide +kernel
theorem dX8_count_217 : decode cX8_count 217 = .ok (.aload_n 0, 1) := by decide +kernel
theorem dX8_count_218 : decode cX8_count 218 = .ok (.getfield 176, 3) := by decide +kernel
theorem dX8_count_221 : decode cX8_count 221 = .ok (.ireturn, 1) := by decide +kernel
theorem dX8_count_222 : decode cX8_count 222 = .ok (.aload_n 0, 1) := by decide +kernel
theorem dX8_count_223 : decode cX8_count 223 = .ok (.iload_n 1, 1) := by decide +kernel
theorem dX8_count_224 : decode cX8_count 224 = .ok (.bipush 8, 2) := by decide +kernel
theorem dX8_count_226 : decode cX8_count 226 = .ok (.isub, 1) := by decide +kernel
theorem dX8_count_227 : decode cX8_count 227 = .ok (.invokevirtual 201, 3) := by decide +kernel
theorem dX8_count_230 : decode cX8_count 230 = .ok (.ireturn, 1) := by decide +kernel
theorem dX8_count_231 : decode cX8_count 231 = .ok (.aload_n 0, 1) := by decide +kernel
theorem dX8_count_232 : decode cX8_count 232 = .ok (.getfield 7, 3) := by decide +kernel
theorem dX8_count_235 : decode cX8_count 235 = .ok (.iconst 3, 1) := by decide +kernel
theorem dX8_count_236 : decode cX8_count 236 = .ok (.iaload, 1) := by decide +kernel
theorem dX8_count_237 : decode cX8_count 237 = .ok (.ireturn, 1) := by decide +kernel
theorem dX8_count_238 : decode cX8_count 238 = .ok (.iload 4, 2) := by decide +kernel
theorem dX8_count_240 : decode cX8_count 240 = .ok (.ireturn, 1) := by decide +kernel
theorem dX8_count_241 : decode cX8_count 241 = .ok (.aload_n 0, 1) := by decide +kernel
theorem dX8_count_242 : decode cX8_count 242 = .ok (.getfield 57, 3) := by decide +kernel
theorem dX8_count_245 : decode cX8_count 245 = .ok (.ireturn, 1) := by decide +kernel
theorem dX8_count_246 : decode cX8_count 246 = .ok (.aload_n 0, 1) := by decide +kernel
theorem dX8_count_247 : decode cX8_count 247 = .ok (.getfield 79, 3) := by decide +kernel
theorem dX8_count_250 : decode cX8_count 250 = .ok (.ireturn, 1) := by decide +kernel
theorem dX8_count_251 : decode cX8_count 251 = .ok (.bipush (-2), 2) := by decide +kernel
theorem dX8_count_253 : decode cX8_count 253 = .ok (.ireturn, 1) := by decide +kernel
theorem dJ6_bitCount_0f7a4_0 : decode cJ6_bitCount_0f7a4 0 = .ok (.iload_n 0, 1) := by decide +kernel
theorem dJ6_bitCount_0f7a4_1 : decode cJ6_bitCount_0f7a4 1 = .ok (.iload_n 0, 1) := by decide +kernel
theorem dJ6_bitCount_0f7a4_2 : decode cJ6_bitCount_0f7a4 2 = .ok (.iconst 1, 1) := by decide +kernel
theorem dJ6_bitCount_0f7a4_3 : decode cJ6_bitCount_0f7a4 3 = .ok (.iushr, 1) := by decide +kernel
theorem dJ6_bitCount_0f7a4_4 : decode cJ6_bitCount_0f7a4 4 = .ok (.ldc_w 265, 3) := by decide +kernel
theorem dJ6_bitCount_0f7a4_7 : decode cJ6_bitCount_0f7a4 7 = .ok (.iand, 1) := by decide +kernel
theorem dJ6_bitCount_0f7a4_8 : decode cJ6_bitCount_0f7a4 8 = .ok (.isub, 1) := by decide +kernel
theorem dJ6_bitCount_0f7a4_9 : decode cJ6_bitCount_0f7a4 9 = .ok (.istore_n 0, 1) := by decide +kernel
theorem dJ6_bitCount_0f7a4_10 : decode cJ6_bitCount_0f7a4 10 = .ok (.iload_n 0, 1) := by decide +kernel
theorem dJ6_bitCount_0f7a4_11 : decode cJ6_bitCount_0f7a4 11 = .ok (.ldc_w 266, 3) := by decide +kernel
theorem dJ6_bitCount_0f7a4_14 : decode cJ6_bitCount_0f7a4 14 = .ok (.iand, 1) := by decide +kernel
theorem dJ6_bitCount_0f7a4_15 : decode cJ6_bitCount_0f7a4 15 = .ok (.iload_n 0, 1) := by decide +kernel
theorem dJ6_bitCount_0f7a4_16 : decode cJ6_bitCount_0f7a4 16 = .ok (.iconst 2, 1) := by decide +kernel
theorem dJ6_bitCount_0f7a4_17 : decode cJ6_bitCount_0f7a4 17 = .ok (.iushr, 1) := by decide +kernel
theorem dJ6_bitCount_0f7a4_18 : decode cJ6_bitCount_0f7a4 18 = .ok (.ldc_w 266, 3) := by decide +kernel
theorem dJ6_bitCount_0f7a4_21 : decode cJ6_bitCount_0f7a4 21 = .ok (.iand, 1) := by decide +kernel
theorem dJ6_bitCount_0f7a4_22 : decode cJ6_bitCount_0f7a4 22 = .ok (.iadd, 1) := by decide +kernel
theorem dJ6_bitCount_0f7a4_23 : decode cJ6_bitCount_0f7a4 23 = .ok (.istore_n 0, 1) := by decide +kernel
theorem dJ6_bitCount_0f7a4_24 : decode cJ6_bitCount_0f7a4 24 = .ok (.iload_n 0, 1) := by decide +kernel
theorem dJ6_bitCount_0f7a4_25 : decode cJ6_bitCount_0f7a4 25 = .ok (.iload_n 0, 1) := by decide +kernel
theorem dJ6_bitCount_0f7a4_26 : decode cJ6_bitCount_0f7a4 26 = .ok (.iconst 4, 1) := by decide +kernel
theorem dJ6_bitCount_0f7a4_27 : decode cJ6_bitCount_0f7a4 27 = .ok (.iushr, 1) := by decide +kernel
theorem dJ6_bitCount_0f7a4_28 : decode cJ6_bitCount_0f7a4 28 = .ok (.iadd, 1) := by decide +kernel
theorem dJ6_bitCount_0f7a4_29 : decode cJ6_bitCount_0f7a4 29 = .ok (.ldc_w 267, 3) := by decide +kernel
theorem dJ6_bitCount_0f7a4_32 : decode cJ6_bitCount_0f7a4 32 = .ok (.iand, 1) := by decide +kernel
theorem dJ6_bitCount_0f7a4_33 : decode cJ6_bitCount_0f7a4 33 = .ok (.istore_n 0, 1) := by decide +kernel
theorem dJ6_bitCount_0f7a4_34 : decode cJ6_bitCount_0f7a4 34 = .ok (.iload_n 0, 1) := by decide +kernel
theorem dJ6_bitCount_0f7a4_35 : decode cJ6_bitCount_0f7a4 35 = .ok (.iload_n 0, 1) := by decide +kernel
theorem dJ6_bitCount_0f7a4_36 : decode cJ6_bitCount_0f7a4 36 = .ok (.bipush 8, 2) := by decide +kernel
theorem dJ6_bitCount_0f7a4_38 : decode cJ6_bitCount_0f7a4 38 = .ok (.iushr, 1) := by decide +kernel
theorem dJ6_bitCount_0f7a4_39 : decode cJ6_bitCount_0f7a4 39 = .ok (.iadd, 1) := by decide +kernel
theorem dJ6_bitCount_0f7a4_40 : decode cJ6_bitCount_0f7a4 40 = .ok (.istore_n 0, 1) := by decide +kernel
theorem dJ6_bitCount_0f7a4_41 : decode cJ6_bitCount_0f7a4 41 = .ok (.iload_n 0, 1) := by decide +kernel
theorem dJ6_bitCount_0f7a4_42 : decode cJ6_bitCount_0f7a4 42 = .ok (.iload_n 0, 1) := by decide +kernel
theorem dJ6_bitCount_0f7a4_43 : decode cJ6_bitCount_0f7a4 43 = .ok (.bipush 16, 2) := by decide +kernel
theorem dJ6_bitCount_0f7a4_45 : decode cJ6_bitCount_0f7a4 45 = .ok (.iushr, 1) := by decide +kernel
theorem dJ6_bitCount_0f7a4_46 : decode cJ6_bitCount_0f7a4 46 = .ok (.iadd, 1) := by decide +kernel
theorem dJ6_bitCount_0f7a4_47 : decode cJ6_bitCount_0f7a4 47 = .ok (.istore_n 0, 1) := by decide +kernel
theorem dJ6_bitCount_0f7a4_48 : decode cJ6_bitCount_0f7a4 48 = .ok (.iload_n 0, 1) := by decide +kernel
theorem dJ6_bitCount_0f7a4_49 : decode cJ6_bitCount_0f7a4 49 = .ok (.bipush 63, 2) := by decide +kernel
theorem dJ6_bitCount_0f7a4_51 : decode cJ6_bitCount_0f7a4 51 = .ok (.iand, 1) := by decide +kernel
theorem dJ6_bitCount_0f7a4_52 : decode cJ6_bitCount_0f7a4 52 = .ok (.ireturn, 1) := by decide +kernel
theorem dJ9_max_7cf53_0 : decode cJ9_max_7cf53 0 = .ok (.iload_n 0, 1) := by decide +kernel
theorem dJ9_max_7cf53_1 : decode cJ9_max_7cf53 1 = .ok (.iload_n 1, 1) := by decide +kernel
theorem dJ9_max_7cf53_2 : decode cJ9_max_7cf53 2 = .ok (.if_icmp .lt 7, 3) := by decide +kernel
theorem dJ9_max_7cf53_5 : decode cJ9_max_7cf53 5 = .ok (.iload_n 0, 1) := by decide +kernel
theorem dJ9_max_7cf53_6 : decode cJ9_max_7cf53 6 = .ok (.goto 4, 3) := by decide +kernel
theorem dJ9_max_7cf53_9 : decode cJ9_max_7cf53 9 = .ok (.iload_n 1, 1) := by decide +kernel
theorem dJ9_max_7cf53_10 : decode cJ9_max_7cf53 10 = .ok (.ireturn, 1) := by decide +kernel
theorem dJ9_min_7cf53_0 : decode cJ9_min_7cf53 0 = .ok (.iload_n 0, 1) := by decide +kernel
theorem dJ9_min_7cf53_1 : decode cJ9_min_7cf53 1 = .ok (.iload_n 1, 1) := by decide +kernel
theorem dJ9_min_7cf53_2 : decode cJ9_min_7cf53 2 = .ok (.if_icmp .gt 7, 3) := by decide +kernel
theorem dJ9_min_7cf53_5 : decode cJ9_min_7cf53 5 = .ok (.iload_n 0, 1) := by decide +kernel
theorem dJ9_min_7cf53_6 : decode cJ9_min_7cf53 6 = .ok (.goto 4, 3) := by decide +kernel
theorem dJ9_min_7cf53_9 : decode cJ9_min_7cf53 9 = .ok (.iload_n 1, 1) := by decide +kernel
theorem dJ9_min_7cf53_10 : decode cJ9_min_7cf53 10 = .ok (.ireturn, 1) := by decide +kernel
end
