-- ===== PART A: goes FIRST, ahead of the names: the tables' words, and 'selects' of the private methods out of them =====
/-- a private method of a class that the tables say can be made, by its rows of tables_1 -/
def lw_okq (q : MethodName × Nat) : Prop := (q.1.cls ≠ "java/lang/invoke/MethodHandle" ∧ q.1.cls ≠ "java/lang/invoke/VarHandle") ∧ Cond.instantiable q.1.cls q.2 ∈ tables_1 ∧ Cond.privateMethod q.1 ∈ tables_1 ∧ Cond.instanceMethod q.1 ∈ tables_1
theorem lw_p0 : lw_okq (⟨"ThanksOwed$Page", "fits", "(I)Z"⟩, 2) := ⟨⟨by decide +kernel, by decide +kernel⟩, List.mem_of_getElem? (i := 25) (by decide +kernel), List.mem_of_getElem? (i := 255) (by decide +kernel), List.mem_of_getElem? (i := 256) (by decide +kernel)⟩
theorem lw_p1 : lw_okq (⟨"ThanksOwed$Town", "passPairWeek", "(II)I"⟩, 8) := ⟨⟨by decide +kernel, by decide +kernel⟩, List.mem_of_getElem? (i := 42) (by decide +kernel), List.mem_of_getElem? (i := 387) (by decide +kernel), List.mem_of_getElem? (i := 388) (by decide +kernel)⟩
theorem lw_p2 : lw_okq (⟨"ThanksOwed", "foreseeRuin", "()V"⟩, 13) := ⟨⟨by decide +kernel, by decide +kernel⟩, List.mem_of_getElem? (i := 17) (by decide +kernel), List.mem_of_getElem? (i := 429) (by decide +kernel), List.mem_of_getElem? (i := 430) (by decide +kernel)⟩
theorem lw_p3 : lw_okq (⟨"ThanksOwed", "noteRuined", "(I)V"⟩, 13) := ⟨⟨by decide +kernel, by decide +kernel⟩, List.mem_of_getElem? (i := 17) (by decide +kernel), List.mem_of_getElem? (i := 444) (by decide +kernel), List.mem_of_getElem? (i := 445) (by decide +kernel)⟩
theorem lw_p4 : lw_okq (⟨"ThanksOwed$Settlement", "mostWithoutOne", "(II)I"⟩, 2) := ⟨⟨by decide +kernel, by decide +kernel⟩, List.mem_of_getElem? (i := 153) (by decide +kernel), List.mem_of_getElem? (i := 462) (by decide +kernel), List.mem_of_getElem? (i := 463) (by decide +kernel)⟩
theorem lw_p5 : lw_okq (⟨"ThanksOwed$RingSearch", "extend", "(LThanksOwed$Town;III)V"⟩, 4) := ⟨⟨by decide +kernel, by decide +kernel⟩, List.mem_of_getElem? (i := 134) (by decide +kernel), List.mem_of_getElem? (i := 479) (by decide +kernel), List.mem_of_getElem? (i := 480) (by decide +kernel)⟩
theorem lw_p6 : lw_okq (⟨"ThanksOwed$RingSearch", "close", "(II)V"⟩, 4) := ⟨⟨by decide +kernel, by decide +kernel⟩, List.mem_of_getElem? (i := 134) (by decide +kernel), List.mem_of_getElem? (i := 485) (by decide +kernel), List.mem_of_getElem? (i := 486) (by decide +kernel)⟩
theorem lw_p7 : lw_okq (⟨"ThanksOwed$RingSearch", "isInRow", "(II)Z"⟩, 4) := ⟨⟨by decide +kernel, by decide +kernel⟩, List.mem_of_getElem? (i := 134) (by decide +kernel), List.mem_of_getElem? (i := 490) (by decide +kernel), List.mem_of_getElem? (i := 491) (by decide +kernel)⟩
theorem lw_p8 : lw_okq (⟨"ThanksOwed$Acceptance", "owedBehind", "(LThanksOwed$Town;LThanksOwed$Offers;III)I"⟩, 2) := ⟨⟨by decide +kernel, by decide +kernel⟩, List.mem_of_getElem? (i := 166) (by decide +kernel), List.mem_of_getElem? (i := 527) (by decide +kernel), List.mem_of_getElem? (i := 528) (by decide +kernel)⟩
theorem lw_p9 : lw_okq (⟨"ThanksOwed$Acceptance", "weigh", "(II)V"⟩, 2) := ⟨⟨by decide +kernel, by decide +kernel⟩, List.mem_of_getElem? (i := 166) (by decide +kernel), List.mem_of_getElem? (i := 545) (by decide +kernel), List.mem_of_getElem? (i := 546) (by decide +kernel)⟩
theorem lw_p10 : lw_okq (⟨"ThanksOwed", "digestPerson", "(JI)J"⟩, 13) := ⟨⟨by decide +kernel, by decide +kernel⟩, List.mem_of_getElem? (i := 17) (by decide +kernel), List.mem_of_getElem? (i := 613) (by decide +kernel), List.mem_of_getElem? (i := 614) (by decide +kernel)⟩
theorem lw_p11 : lw_okq (⟨"ThanksOwedModel", "faultNow", "()I"⟩, 36) := ⟨⟨by decide +kernel, by decide +kernel⟩, List.mem_of_getElem? (i := 621) (by decide +kernel), List.mem_of_getElem? (i := 752) (by decide +kernel), List.mem_of_getElem? (i := 753) (by decide +kernel)⟩
theorem lw_p12 : lw_okq (⟨"ThanksOwedModel", "isGood", "(I)Z"⟩, 36) := ⟨⟨by decide +kernel, by decide +kernel⟩, List.mem_of_getElem? (i := 621) (by decide +kernel), List.mem_of_getElem? (i := 756) (by decide +kernel), List.mem_of_getElem? (i := 757) (by decide +kernel)⟩
theorem lw_p13 : lw_okq (⟨"ThanksOwedModel", "clearPair", "(I)V"⟩, 36) := ⟨⟨by decide +kernel, by decide +kernel⟩, List.mem_of_getElem? (i := 621) (by decide +kernel), List.mem_of_getElem? (i := 768) (by decide +kernel), List.mem_of_getElem? (i := 769) (by decide +kernel)⟩
theorem lw_p14 : lw_okq (⟨"ThanksOwedModel", "isPerson", "(I)Z"⟩, 36) := ⟨⟨by decide +kernel, by decide +kernel⟩, List.mem_of_getElem? (i := 621) (by decide +kernel), List.mem_of_getElem? (i := 776) (by decide +kernel), List.mem_of_getElem? (i := 777) (by decide +kernel)⟩
theorem lw_p15 : lw_okq (⟨"ThanksOwedModel", "personNow", "(II)I"⟩, 36) := ⟨⟨by decide +kernel, by decide +kernel⟩, List.mem_of_getElem? (i := 621) (by decide +kernel), List.mem_of_getElem? (i := 780) (by decide +kernel), List.mem_of_getElem? (i := 781) (by decide +kernel)⟩
def lw_privs_1 : List (MethodName × Nat) := [(⟨"ThanksOwed$Page", "fits", "(I)Z"⟩, 2), (⟨"ThanksOwed$Town", "passPairWeek", "(II)I"⟩, 8), (⟨"ThanksOwed", "foreseeRuin", "()V"⟩, 13), (⟨"ThanksOwed", "noteRuined", "(I)V"⟩, 13), (⟨"ThanksOwed$Settlement", "mostWithoutOne", "(II)I"⟩, 2), (⟨"ThanksOwed$RingSearch", "extend", "(LThanksOwed$Town;III)V"⟩, 4), (⟨"ThanksOwed$RingSearch", "close", "(II)V"⟩, 4), (⟨"ThanksOwed$RingSearch", "isInRow", "(II)Z"⟩, 4), (⟨"ThanksOwed$Acceptance", "owedBehind", "(LThanksOwed$Town;LThanksOwed$Offers;III)I"⟩, 2), (⟨"ThanksOwed$Acceptance", "weigh", "(II)V"⟩, 2), (⟨"ThanksOwed", "digestPerson", "(JI)J"⟩, 13), (⟨"ThanksOwedModel", "faultNow", "()I"⟩, 36), (⟨"ThanksOwedModel", "isGood", "(I)Z"⟩, 36), (⟨"ThanksOwedModel", "clearPair", "(I)V"⟩, 36), (⟨"ThanksOwedModel", "isPerson", "(I)Z"⟩, 36), (⟨"ThanksOwedModel", "personNow", "(II)I"⟩, 36)]
theorem lw_r1 : ∀ q ∈ lw_privs_1, lw_okq q := List.forall_mem_cons.mpr ⟨lw_p0, List.forall_mem_cons.mpr ⟨lw_p1, List.forall_mem_cons.mpr ⟨lw_p2, List.forall_mem_cons.mpr ⟨lw_p3, List.forall_mem_cons.mpr ⟨lw_p4, List.forall_mem_cons.mpr ⟨lw_p5, List.forall_mem_cons.mpr ⟨lw_p6, List.forall_mem_cons.mpr ⟨lw_p7, List.forall_mem_cons.mpr ⟨lw_p8, List.forall_mem_cons.mpr ⟨lw_p9, List.forall_mem_cons.mpr ⟨lw_p10, List.forall_mem_cons.mpr ⟨lw_p11, List.forall_mem_cons.mpr ⟨lw_p12, List.forall_mem_cons.mpr ⟨lw_p13, List.forall_mem_cons.mpr ⟨lw_p14, List.forall_mem_cons.mpr ⟨lw_p15, fun _ h => absurd h List.not_mem_nil⟩⟩⟩⟩⟩⟩⟩⟩⟩⟩⟩⟩⟩⟩⟩⟩
theorem lw_p16 : lw_okq (⟨"ThanksOwedModel", "owesAll", "(II)I"⟩, 36) := ⟨⟨by decide +kernel, by decide +kernel⟩, List.mem_of_getElem? (i := 621) (by decide +kernel), List.mem_of_getElem? (i := 784) (by decide +kernel), List.mem_of_getElem? (i := 785) (by decide +kernel)⟩
theorem lw_p17 : lw_okq (⟨"ThanksOwedModel", "owedBy", "(II)I"⟩, 36) := ⟨⟨by decide +kernel, by decide +kernel⟩, List.mem_of_getElem? (i := 621) (by decide +kernel), List.mem_of_getElem? (i := 788) (by decide +kernel), List.mem_of_getElem? (i := 789) (by decide +kernel)⟩
theorem lw_p18 : lw_okq (⟨"ThanksOwedModel", "net", "(II)I"⟩, 36) := ⟨⟨by decide +kernel, by decide +kernel⟩, List.mem_of_getElem? (i := 621) (by decide +kernel), List.mem_of_getElem? (i := 792) (by decide +kernel), List.mem_of_getElem? (i := 793) (by decide +kernel)⟩
theorem lw_p19 : lw_okq (⟨"ThanksOwedModel", "areTwo", "(II)Z"⟩, 36) := ⟨⟨by decide +kernel, by decide +kernel⟩, List.mem_of_getElem? (i := 621) (by decide +kernel), List.mem_of_getElem? (i := 804) (by decide +kernel), List.mem_of_getElem? (i := 805) (by decide +kernel)⟩
theorem lw_p20 : lw_okq (⟨"ThanksOwedModel", "betweenNow", "(III)I"⟩, 36) := ⟨⟨by decide +kernel, by decide +kernel⟩, List.mem_of_getElem? (i := 621) (by decide +kernel), List.mem_of_getElem? (i := 808) (by decide +kernel), List.mem_of_getElem? (i := 809) (by decide +kernel)⟩
theorem lw_p21 : lw_okq (⟨"ThanksOwedModel", "neverThanks", "(I)Z"⟩, 36) := ⟨⟨by decide +kernel, by decide +kernel⟩, List.mem_of_getElem? (i := 621) (by decide +kernel), List.mem_of_getElem? (i := 816) (by decide +kernel), List.mem_of_getElem? (i := 817) (by decide +kernel)⟩
theorem lw_p22 : lw_okq (⟨"ThanksOwedModel", "thank", "(IIII)V"⟩, 36) := ⟨⟨by decide +kernel, by decide +kernel⟩, List.mem_of_getElem? (i := 621) (by decide +kernel), List.mem_of_getElem? (i := 820) (by decide +kernel), List.mem_of_getElem? (i := 821) (by decide +kernel)⟩
theorem lw_p23 : lw_okq (⟨"ThanksOwedModel", "grunt", "(III)V"⟩, 36) := ⟨⟨by decide +kernel, by decide +kernel⟩, List.mem_of_getElem? (i := 621) (by decide +kernel), List.mem_of_getElem? (i := 830) (by decide +kernel), List.mem_of_getElem? (i := 831) (by decide +kernel)⟩
theorem lw_p24 : lw_okq (⟨"ThanksOwedModel", "goWeek", "(I)I"⟩, 36) := ⟨⟨by decide +kernel, by decide +kernel⟩, List.mem_of_getElem? (i := 621) (by decide +kernel), List.mem_of_getElem? (i := 838) (by decide +kernel), List.mem_of_getElem? (i := 839) (by decide +kernel)⟩
theorem lw_p25 : lw_okq (⟨"ThanksOwedModel", "grows", "(III)I"⟩, 36) := ⟨⟨by decide +kernel, by decide +kernel⟩, List.mem_of_getElem? (i := 621) (by decide +kernel), List.mem_of_getElem? (i := 842) (by decide +kernel), List.mem_of_getElem? (i := 843) (by decide +kernel)⟩
theorem lw_p26 : lw_okq (⟨"ThanksOwedModel", "ruinNow", "(I)I"⟩, 36) := ⟨⟨by decide +kernel, by decide +kernel⟩, List.mem_of_getElem? (i := 621) (by decide +kernel), List.mem_of_getElem? (i := 870) (by decide +kernel), List.mem_of_getElem? (i := 871) (by decide +kernel)⟩
theorem lw_p27 : lw_okq (⟨"ThanksOwedModel", "copy", "()V"⟩, 36) := ⟨⟨by decide +kernel, by decide +kernel⟩, List.mem_of_getElem? (i := 621) (by decide +kernel), List.mem_of_getElem? (i := 874) (by decide +kernel), List.mem_of_getElem? (i := 875) (by decide +kernel)⟩
theorem lw_p28 : lw_okq (⟨"ThanksOwedModel", "settlingNow", "()I"⟩, 36) := ⟨⟨by decide +kernel, by decide +kernel⟩, List.mem_of_getElem? (i := 621) (by decide +kernel), List.mem_of_getElem? (i := 882) (by decide +kernel), List.mem_of_getElem? (i := 883) (by decide +kernel)⟩
theorem lw_p29 : lw_okq (⟨"ThanksOwedModel", "layGroups", "(II)V"⟩, 36) := ⟨⟨by decide +kernel, by decide +kernel⟩, List.mem_of_getElem? (i := 621) (by decide +kernel), List.mem_of_getElem? (i := 886) (by decide +kernel), List.mem_of_getElem? (i := 887) (by decide +kernel)⟩
theorem lw_p30 : lw_okq (⟨"ThanksOwedModel", "bestRingNow", "(I)I"⟩, 36) := ⟨⟨by decide +kernel, by decide +kernel⟩, List.mem_of_getElem? (i := 621) (by decide +kernel), List.mem_of_getElem? (i := 897) (by decide +kernel), List.mem_of_getElem? (i := 898) (by decide +kernel)⟩
theorem lw_p31 : lw_okq (⟨"ThanksOwedModel", "ringBy", "(II)I"⟩, 36) := ⟨⟨by decide +kernel, by decide +kernel⟩, List.mem_of_getElem? (i := 621) (by decide +kernel), List.mem_of_getElem? (i := 901) (by decide +kernel), List.mem_of_getElem? (i := 902) (by decide +kernel)⟩
def lw_privs_2 : List (MethodName × Nat) := [(⟨"ThanksOwedModel", "owesAll", "(II)I"⟩, 36), (⟨"ThanksOwedModel", "owedBy", "(II)I"⟩, 36), (⟨"ThanksOwedModel", "net", "(II)I"⟩, 36), (⟨"ThanksOwedModel", "areTwo", "(II)Z"⟩, 36), (⟨"ThanksOwedModel", "betweenNow", "(III)I"⟩, 36), (⟨"ThanksOwedModel", "neverThanks", "(I)Z"⟩, 36), (⟨"ThanksOwedModel", "thank", "(IIII)V"⟩, 36), (⟨"ThanksOwedModel", "grunt", "(III)V"⟩, 36), (⟨"ThanksOwedModel", "goWeek", "(I)I"⟩, 36), (⟨"ThanksOwedModel", "grows", "(III)I"⟩, 36), (⟨"ThanksOwedModel", "ruinNow", "(I)I"⟩, 36), (⟨"ThanksOwedModel", "copy", "()V"⟩, 36), (⟨"ThanksOwedModel", "settlingNow", "()I"⟩, 36), (⟨"ThanksOwedModel", "layGroups", "(II)V"⟩, 36), (⟨"ThanksOwedModel", "bestRingNow", "(I)I"⟩, 36), (⟨"ThanksOwedModel", "ringBy", "(II)I"⟩, 36)]
theorem lw_r2 : ∀ q ∈ lw_privs_2, lw_okq q := List.forall_mem_cons.mpr ⟨lw_p16, List.forall_mem_cons.mpr ⟨lw_p17, List.forall_mem_cons.mpr ⟨lw_p18, List.forall_mem_cons.mpr ⟨lw_p19, List.forall_mem_cons.mpr ⟨lw_p20, List.forall_mem_cons.mpr ⟨lw_p21, List.forall_mem_cons.mpr ⟨lw_p22, List.forall_mem_cons.mpr ⟨lw_p23, List.forall_mem_cons.mpr ⟨lw_p24, List.forall_mem_cons.mpr ⟨lw_p25, List.forall_mem_cons.mpr ⟨lw_p26, List.forall_mem_cons.mpr ⟨lw_p27, List.forall_mem_cons.mpr ⟨lw_p28, List.forall_mem_cons.mpr ⟨lw_p29, List.forall_mem_cons.mpr ⟨lw_p30, List.forall_mem_cons.mpr ⟨lw_p31, fun _ h => absurd h List.not_mem_nil⟩⟩⟩⟩⟩⟩⟩⟩⟩⟩⟩⟩⟩⟩⟩⟩
theorem lw_p32 : lw_okq (⟨"ThanksOwedModel", "acceptNow", "(IIII)I"⟩, 36) := ⟨⟨by decide +kernel, by decide +kernel⟩, List.mem_of_getElem? (i := 621) (by decide +kernel), List.mem_of_getElem? (i := 918) (by decide +kernel), List.mem_of_getElem? (i := 919) (by decide +kernel)⟩
theorem lw_p33 : lw_okq (⟨"ThanksOwedModel", "owesBy", "(IIII)I"⟩, 36) := ⟨⟨by decide +kernel, by decide +kernel⟩, List.mem_of_getElem? (i := 621) (by decide +kernel), List.mem_of_getElem? (i := 922) (by decide +kernel), List.mem_of_getElem? (i := 923) (by decide +kernel)⟩
theorem lw_p34 : lw_okq (⟨"ThanksOwedModel", "grownNow", "(IIIII)I"⟩, 36) := ⟨⟨by decide +kernel, by decide +kernel⟩, List.mem_of_getElem? (i := 621) (by decide +kernel), List.mem_of_getElem? (i := 930) (by decide +kernel), List.mem_of_getElem? (i := 931) (by decide +kernel)⟩
theorem lw_p35 : lw_okq (⟨"ThanksOwedModel", "yearsNow", "(III)I"⟩, 36) := ⟨⟨by decide +kernel, by decide +kernel⟩, List.mem_of_getElem? (i := 621) (by decide +kernel), List.mem_of_getElem? (i := 938) (by decide +kernel), List.mem_of_getElem? (i := 939) (by decide +kernel)⟩
theorem lw_p36 : lw_okq (⟨"ThanksOwedModel", "goYear", "()V"⟩, 36) := ⟨⟨by decide +kernel, by decide +kernel⟩, List.mem_of_getElem? (i := 621) (by decide +kernel), List.mem_of_getElem? (i := 942) (by decide +kernel), List.mem_of_getElem? (i := 943) (by decide +kernel)⟩
theorem lw_p37 : lw_okq (⟨"ThanksOwedModel", "draw", "(I)I"⟩, 36) := ⟨⟨by decide +kernel, by decide +kernel⟩, List.mem_of_getElem? (i := 621) (by decide +kernel), List.mem_of_getElem? (i := 946) (by decide +kernel), List.mem_of_getElem? (i := 947) (by decide +kernel)⟩
theorem lw_p38 : lw_okq (⟨"ThanksOwedModel", "howMany", "(I)I"⟩, 36) := ⟨⟨by decide +kernel, by decide +kernel⟩, List.mem_of_getElem? (i := 621) (by decide +kernel), List.mem_of_getElem? (i := 966) (by decide +kernel), List.mem_of_getElem? (i := 967) (by decide +kernel)⟩
theorem lw_p39 : lw_okq (⟨"ThanksOwedModel", "ruinedMany", "()I"⟩, 36) := ⟨⟨by decide +kernel, by decide +kernel⟩, List.mem_of_getElem? (i := 621) (by decide +kernel), List.mem_of_getElem? (i := 970) (by decide +kernel), List.mem_of_getElem? (i := 971) (by decide +kernel)⟩
theorem lw_p40 : lw_okq (⟨"ThanksOwedModel", "owedAll", "()I"⟩, 36) := ⟨⟨by decide +kernel, by decide +kernel⟩, List.mem_of_getElem? (i := 621) (by decide +kernel), List.mem_of_getElem? (i := 974) (by decide +kernel), List.mem_of_getElem? (i := 975) (by decide +kernel)⟩
theorem lw_p41 : lw_okq (⟨"ThanksOwedModel", "mixPerson", "(I)V"⟩, 36) := ⟨⟨by decide +kernel, by decide +kernel⟩, List.mem_of_getElem? (i := 621) (by decide +kernel), List.mem_of_getElem? (i := 983) (by decide +kernel), List.mem_of_getElem? (i := 984) (by decide +kernel)⟩
theorem lw_p42 : lw_okq (⟨"ThanksOwedModel", "mix", "(J)V"⟩, 36) := ⟨⟨by decide +kernel, by decide +kernel⟩, List.mem_of_getElem? (i := 621) (by decide +kernel), List.mem_of_getElem? (i := 987) (by decide +kernel), List.mem_of_getElem? (i := 988) (by decide +kernel)⟩
def lw_privs_3 : List (MethodName × Nat) := [(⟨"ThanksOwedModel", "acceptNow", "(IIII)I"⟩, 36), (⟨"ThanksOwedModel", "owesBy", "(IIII)I"⟩, 36), (⟨"ThanksOwedModel", "grownNow", "(IIIII)I"⟩, 36), (⟨"ThanksOwedModel", "yearsNow", "(III)I"⟩, 36), (⟨"ThanksOwedModel", "goYear", "()V"⟩, 36), (⟨"ThanksOwedModel", "draw", "(I)I"⟩, 36), (⟨"ThanksOwedModel", "howMany", "(I)I"⟩, 36), (⟨"ThanksOwedModel", "ruinedMany", "()I"⟩, 36), (⟨"ThanksOwedModel", "owedAll", "()I"⟩, 36), (⟨"ThanksOwedModel", "mixPerson", "(I)V"⟩, 36), (⟨"ThanksOwedModel", "mix", "(J)V"⟩, 36)]
theorem lw_r3 : ∀ q ∈ lw_privs_3, lw_okq q := List.forall_mem_cons.mpr ⟨lw_p32, List.forall_mem_cons.mpr ⟨lw_p33, List.forall_mem_cons.mpr ⟨lw_p34, List.forall_mem_cons.mpr ⟨lw_p35, List.forall_mem_cons.mpr ⟨lw_p36, List.forall_mem_cons.mpr ⟨lw_p37, List.forall_mem_cons.mpr ⟨lw_p38, List.forall_mem_cons.mpr ⟨lw_p39, List.forall_mem_cons.mpr ⟨lw_p40, List.forall_mem_cons.mpr ⟨lw_p41, List.forall_mem_cons.mpr ⟨lw_p42, fun _ h => absurd h List.not_mem_nil⟩⟩⟩⟩⟩⟩⟩⟩⟩⟩⟩
def lw_privs : List (MethodName × Nat) := lw_privs_1 ++ (lw_privs_2 ++ (lw_privs_3))
def lw_tbl : List Cond := k2_sels lw_privs ++ tables_1
theorem lw_privs_ok : ∀ q ∈ lw_privs, lw_okq q := by
  show ∀ q ∈ lw_privs_1 ++ (lw_privs_2 ++ (lw_privs_3)), lw_okq q
  exact List.forall_mem_append.mpr ⟨lw_r1, List.forall_mem_append.mpr ⟨lw_r2, lw_r3⟩⟩

def RX0 : String := "ThanksOwed$Acceptance"
def TX0 : u_T := fun k => match k with
  | 0 => ("ThanksOwed$Acceptance", "bits", "I", false)
  | _ => ("ThanksOwed$Acceptance", "owed", "I", false)
def tyX0 : Nat → FieldType := fun k => match k with
  | 0 => .int
  | _ => .int
abbrev wsX00 : List Cond := u_ws RX0 TX0 2
theorem nmX0 : ∀ a, a < 2 → ∀ b, b < 2 → a ≠ b → (TX0 a).2.1 ≠ (TX0 b).2.1 := by decide +kernel
theorem tyX0_ok : ∀ k, k < 2 → parseFieldDescriptor (TX0 k).2.2.1 = some (tyX0 k) := by decide +kernel
abbrev cX0_init : ByteArray := prog_2_method_1_code
def yX0_init : MethodName := ⟨RX0, "<init>", "()V"⟩
abbrev cX0_search : ByteArray := prog_2_method_2_code
def yX0_search : MethodName := ⟨RX0, "search", "(LThanksOwed$Town;LThanksOwed$Offers;III)V"⟩
abbrev cX0_weigh : ByteArray := prog_2_method_3_code
def yX0_weigh : MethodName := ⟨RX0, "weigh", "(II)V"⟩
abbrev cX0_owedBehind : ByteArray := prog_2_method_4_code
def yX0_owedBehind : MethodName := ⟨RX0, "owedBehind", "(LThanksOwed$Town;LThanksOwed$Offers;III)I"⟩
def RX1 : String := "ThanksOwed$Draws"
def TX1 : u_T := fun k => match k with
  | _ => ("ThanksOwed$Draws", "seed", "I", false)
def tyX1 : Nat → FieldType := fun k => match k with
  | _ => .int
abbrev wsX10 : List Cond := u_ws RX1 TX1 1
theorem nmX1 : ∀ a, a < 1 → ∀ b, b < 1 → a ≠ b → (TX1 a).2.1 ≠ (TX1 b).2.1 := by decide +kernel
theorem tyX1_ok : ∀ k, k < 1 → parseFieldDescriptor (TX1 k).2.2.1 = some (tyX1 k) := by decide +kernel
abbrev cX1_init : ByteArray := prog_3_method_1_code
def yX1_init : MethodName := ⟨RX1, "<init>", "()V"⟩
abbrev cX1_next : ByteArray := prog_3_method_2_code
def yX1_next : MethodName := ⟨RX1, "next", "(I)I"⟩
def RX2 : String := "ThanksOwed$Kind"
def TX2 : u_T := fun k => match k with
  | _ => ("", "", "", false)
def tyX2 : Nat → FieldType := fun k => match k with
  | _ => .int
abbrev wsX20 : List Cond := u_ws RX2 TX2 0
theorem nmX2 : ∀ a, a < 0 → ∀ b, b < 0 → a ≠ b → (TX2 a).2.1 ≠ (TX2 b).2.1 := by decide +kernel
theorem tyX2_ok : ∀ k, k < 0 → parseFieldDescriptor (TX2 k).2.2.1 = some (tyX2 k) := by decide +kernel
abbrev cX2_isA : ByteArray := prog_4_method_4_code
def yX2_isA : MethodName := ⟨RX2, "isA", "(LThanksOwed$Kind;)Z"⟩
def RX3 : String := "ThanksOwed$Law"
def TX3 : u_T := fun k => match k with
  | 0 => ("ThanksOwed$Law", "rate", "I", false)
  | 1 => ("ThanksOwed$Law", "up", "Z", false)
  | 2 => ("ThanksOwed$Law", "free", "I", false)
  | _ => ("ThanksOwed$Law", "sulk", "I", false)
def tyX3 : Nat → FieldType := fun k => match k with
  | 0 => .int
  | 1 => .boolean
  | 2 => .int
  | _ => .int
abbrev wsX30 : List Cond := u_ws RX3 TX3 4
theorem nmX3 : ∀ a, a < 4 → ∀ b, b < 4 → a ≠ b → (TX3 a).2.1 ≠ (TX3 b).2.1 := by decide +kernel
theorem tyX3_ok : ∀ k, k < 4 → parseFieldDescriptor (TX3 k).2.2.1 = some (tyX3 k) := by decide +kernel
abbrev cX3_init : ByteArray := prog_5_method_1_code
def yX3_init : MethodName := ⟨RX3, "<init>", "()V"⟩
abbrev cX3_readFrom : ByteArray := prog_5_method_2_code
def yX3_readFrom : MethodName := ⟨RX3, "readFrom", "(LThanksOwed$Page;)V"⟩
abbrev cX3_copyFrom : ByteArray := prog_5_method_3_code
def yX3_copyFrom : MethodName := ⟨RX3, "copyFrom", "(LThanksOwed$Law;)V"⟩
abbrev cX3_tenths : ByteArray := prog_5_method_4_code
def yX3_tenths : MethodName := ⟨RX3, "tenths", "(LThanksOwed$Kind;LThanksOwed$Kind;)I"⟩
abbrev cX3_owedNextWeek : ByteArray := prog_5_method_5_code
def yX3_owedNextWeek : MethodName := ⟨RX3, "owedNextWeek", "(II)I"⟩
abbrev cX3_owedAfter : ByteArray := prog_5_method_6_code
def yX3_owedAfter : MethodName := ⟨RX3, "owedAfter", "(IIII)I"⟩
def RX4 : String := "ThanksOwed$Offers"
def TX4 : u_T := fun k => match k with
  | 0 => ("ThanksOwed$Offers", "from", "[I", true)
  | 1 => ("ThanksOwed$Offers", "to", "[I", true)
  | 2 => ("ThanksOwed$Offers", "sizes", "[I", true)
  | _ => ("ThanksOwed$Offers", "count", "I", false)
def tyX4 : Nat → FieldType := fun k => match k with
  | 0 => .array .int
  | 1 => .array .int
  | 2 => .array .int
  | _ => .int
abbrev wsX40 : List Cond := u_ws RX4 TX4 4
theorem nmX4 : ∀ a, a < 4 → ∀ b, b < 4 → a ≠ b → (TX4 a).2.1 ≠ (TX4 b).2.1 := by decide +kernel
theorem tyX4_ok : ∀ k, k < 4 → parseFieldDescriptor (TX4 k).2.2.1 = some (tyX4 k) := by decide +kernel
abbrev cX4_init : ByteArray := prog_6_method_1_code
def yX4_init : MethodName := ⟨RX4, "<init>", "()V"⟩
abbrev cX4_copyFrom : ByteArray := prog_6_method_2_code
def yX4_copyFrom : MethodName := ⟨RX4, "copyFrom", "(LThanksOwed$Offers;)V"⟩
abbrev cX4_put : ByteArray := prog_6_method_3_code
def yX4_put : MethodName := ⟨RX4, "put", "(III)V"⟩
abbrev cX4_bitsFor : ByteArray := prog_6_method_4_code
def yX4_bitsFor : MethodName := ⟨RX4, "bitsFor", "(I)I"⟩
abbrev cX4_sizeOf : ByteArray := prog_6_method_5_code
def yX4_sizeOf : MethodName := ⟨RX4, "sizeOf", "(I)I"⟩
abbrev cX4_sizeFrom : ByteArray := prog_6_method_6_code
def yX4_sizeFrom : MethodName := ⟨RX4, "sizeFrom", "(II)I"⟩
def RX5 : String := "ThanksOwed$Page"
def TX5 : u_T := fun k => match k with
  | 0 => ("ThanksOwed$Page", "codes", "[I", true)
  | _ => ("ThanksOwed$Page", "length", "I", false)
def tyX5 : Nat → FieldType := fun k => match k with
  | 0 => .array .int
  | _ => .int
abbrev wsX50 : List Cond := u_ws RX5 TX5 2
theorem nmX5 : ∀ a, a < 2 → ∀ b, b < 2 → a ≠ b → (TX5 a).2.1 ≠ (TX5 b).2.1 := by decide +kernel
theorem tyX5_ok : ∀ k, k < 2 → parseFieldDescriptor (TX5 k).2.2.1 = some (tyX5 k) := by decide +kernel
abbrev cX5_init : ByteArray := prog_7_method_1_code
def yX5_init : MethodName := ⟨RX5, "<init>", "()V"⟩
abbrev cX5_put : ByteArray := prog_7_method_2_code
def yX5_put : MethodName := ⟨RX5, "put", "(I)V"⟩
abbrev cX5_firstFault : ByteArray := prog_7_method_3_code
def yX5_firstFault : MethodName := ⟨RX5, "firstFault", "()I"⟩
abbrev cX5_isLaw : ByteArray := prog_7_method_4_code
def yX5_isLaw : MethodName := ⟨RX5, "isLaw", "()Z"⟩
abbrev cX5_digit : ByteArray := prog_7_method_5_code
def yX5_digit : MethodName := ⟨RX5, "digit", "(I)I"⟩
abbrev cX5_fits : ByteArray := prog_7_method_6_code
def yX5_fits : MethodName := ⟨RX5, "fits", "(I)Z"⟩
def RX6 : String := "ThanksOwed$RingSearch"
def TX6 : u_T := fun k => match k with
  | 0 => ("ThanksOwed$RingSearch", "row", "[I", true)
  | 1 => ("ThanksOwed$RingSearch", "best", "[I", true)
  | 2 => ("ThanksOwed$RingSearch", "bestLength", "I", false)
  | _ => ("ThanksOwed$RingSearch", "bestTotal", "I", false)
def tyX6 : Nat → FieldType := fun k => match k with
  | 0 => .array .int
  | 1 => .array .int
  | 2 => .int
  | _ => .int
abbrev wsX60 : List Cond := u_ws RX6 TX6 4
theorem nmX6 : ∀ a, a < 4 → ∀ b, b < 4 → a ≠ b → (TX6 a).2.1 ≠ (TX6 b).2.1 := by decide +kernel
theorem tyX6_ok : ∀ k, k < 4 → parseFieldDescriptor (TX6 k).2.2.1 = some (tyX6 k) := by decide +kernel
abbrev cX6_init : ByteArray := prog_8_method_1_code
def yX6_init : MethodName := ⟨RX6, "<init>", "()V"⟩
abbrev cX6_search : ByteArray := prog_8_method_2_code
def yX6_search : MethodName := ⟨RX6, "search", "(LThanksOwed$Town;)V"⟩
abbrev cX6_tell : ByteArray := prog_8_method_3_code
def yX6_tell : MethodName := ⟨RX6, "tell", "(I)I"⟩
abbrev cX6_extend : ByteArray := prog_8_method_4_code
def yX6_extend : MethodName := ⟨RX6, "extend", "(LThanksOwed$Town;III)V"⟩
abbrev cX6_isInRow : ByteArray := prog_8_method_5_code
def yX6_isInRow : MethodName := ⟨RX6, "isInRow", "(II)Z"⟩
abbrev cX6_close : ByteArray := prog_8_method_6_code
def yX6_close : MethodName := ⟨RX6, "close", "(II)V"⟩
def RX7 : String := "ThanksOwed$Settlement"
def TX7 : u_T := fun k => match k with
  | 0 => ("ThanksOwed$Settlement", "sums", "[I", true)
  | _ => ("ThanksOwed$Settlement", "evenGroups", "[I", true)
def tyX7 : Nat → FieldType := fun k => match k with
  | 0 => .array .int
  | _ => .array .int
abbrev wsX70 : List Cond := u_ws RX7 TX7 2
theorem nmX7 : ∀ a, a < 2 → ∀ b, b < 2 → a ≠ b → (TX7 a).2.1 ≠ (TX7 b).2.1 := by decide +kernel
theorem tyX7_ok : ∀ k, k < 2 → parseFieldDescriptor (TX7 k).2.2.1 = some (tyX7 k) := by decide +kernel
abbrev cX7_init : ByteArray := prog_9_method_1_code
def yX7_init : MethodName := ⟨RX7, "<init>", "()V"⟩
abbrev cX7_fewestPayments : ByteArray := prog_9_method_2_code
def yX7_fewestPayments : MethodName := ⟨RX7, "fewestPayments", "(LThanksOwed$Town;)I"⟩
abbrev cX7_mostWithoutOne : ByteArray := prog_9_method_3_code
def yX7_mostWithoutOne : MethodName := ⟨RX7, "mostWithoutOne", "(II)I"⟩
def RX8 : String := "ThanksOwed$Town"
def TX8 : u_T := fun k => match k with
  | 0 => ("ThanksOwed$Town", "law", "LThanksOwed$Law;", true)
  | 1 => ("ThanksOwed$Town", "kinds", "[I", true)
  | 2 => ("ThanksOwed$Town", "wealth", "[I", true)
  | 3 => ("ThanksOwed$Town", "owes", "[I", true)
  | 4 => ("ThanksOwed$Town", "free", "[I", true)
  | 5 => ("ThanksOwed$Town", "offended", "[I", true)
  | 6 => ("ThanksOwed$Town", "people", "I", false)
  | _ => ("ThanksOwed$Town", "weeks", "I", false)
def tyX8 : Nat → FieldType := fun k => match k with
  | 0 => .object "ThanksOwed$Law"
  | 1 => .array .int
  | 2 => .array .int
  | 3 => .array .int
  | 4 => .array .int
  | 5 => .array .int
  | 6 => .int
  | _ => .int
abbrev wsX80 : List Cond := u_ws RX8 TX8 8
theorem nmX8 : ∀ a, a < 8 → ∀ b, b < 8 → a ≠ b → (TX8 a).2.1 ≠ (TX8 b).2.1 := by decide +kernel
theorem tyX8_ok : ∀ k, k < 8 → parseFieldDescriptor (TX8 k).2.2.1 = some (tyX8 k) := by decide +kernel
abbrev cX8_init : ByteArray := prog_10_method_1_code
def yX8_init : MethodName := ⟨RX8, "<init>", "()V"⟩
abbrev cX8_copyFrom : ByteArray := prog_10_method_2_code
def yX8_copyFrom : MethodName := ⟨RX8, "copyFrom", "(LThanksOwed$Town;)V"⟩
abbrev cX8_welcome : ByteArray := prog_10_method_3_code
def yX8_welcome : MethodName := ⟨RX8, "welcome", "(II)I"⟩
abbrev cX8_has : ByteArray := prog_10_method_4_code
def yX8_has : MethodName := ⟨RX8, "has", "(I)Z"⟩
abbrev cX8_hasBoth : ByteArray := prog_10_method_5_code
def yX8_hasBoth : MethodName := ⟨RX8, "hasBoth", "(II)Z"⟩
abbrev cX8_kindOf : ByteArray := prog_10_method_6_code
def yX8_kindOf : MethodName := ⟨RX8, "kindOf", "(I)LThanksOwed$Kind;"⟩
abbrev cX8_owedBy : ByteArray := prog_10_method_7_code
def yX8_owedBy : MethodName := ⟨RX8, "owedBy", "(I)I"⟩
abbrev cX8_owedTo : ByteArray := prog_10_method_8_code
def yX8_owedTo : MethodName := ⟨RX8, "owedTo", "(I)I"⟩
abbrev cX8_net : ByteArray := prog_10_method_9_code
def yX8_net : MethodName := ⟨RX8, "net", "(I)I"⟩
abbrev cX8_isRuined : ByteArray := prog_10_method_10_code
def yX8_isRuined : MethodName := ⟨RX8, "isRuined", "(I)Z"⟩
abbrev cX8_ruinedOnes : ByteArray := prog_10_method_11_code
def yX8_ruinedOnes : MethodName := ⟨RX8, "ruinedOnes", "()I"⟩
abbrev cX8_allOwed : ByteArray := prog_10_method_12_code
def yX8_allOwed : MethodName := ⟨RX8, "allOwed", "()I"⟩
abbrev cX8_isOffended : ByteArray := prog_10_method_13_code
def yX8_isOffended : MethodName := ⟨RX8, "isOffended", "(II)Z"⟩
abbrev cX8_thank : ByteArray := prog_10_method_14_code
def yX8_thank : MethodName := ⟨RX8, "thank", "(III)V"⟩
abbrev cX8_grunt : ByteArray := prog_10_method_15_code
def yX8_grunt : MethodName := ⟨RX8, "grunt", "(II)V"⟩
abbrev cX8_passWeek : ByteArray := prog_10_method_16_code
def yX8_passWeek : MethodName := ⟨RX8, "passWeek", "()I"⟩
abbrev cX8_passPairWeek : ByteArray := prog_10_method_17_code
def yX8_passPairWeek : MethodName := ⟨RX8, "passPairWeek", "(II)I"⟩
abbrev cX8_shareOut : ByteArray := prog_10_method_18_code
def yX8_shareOut : MethodName := ⟨RX8, "shareOut", "(II)I"⟩
abbrev cX8_liveWeek : ByteArray := prog_10_method_19_code
def yX8_liveWeek : MethodName := ⟨RX8, "liveWeek", "(LThanksOwed$Draws;)V"⟩
def RX9 : String := "ThanksOwed"
def TX9 : u_T := fun k => match k with
  | 0 => ("ThanksOwed", "page", "LThanksOwed$Page;", true)
  | 1 => ("ThanksOwed", "town", "LThanksOwed$Town;", true)
  | 2 => ("ThanksOwed", "offers", "LThanksOwed$Offers;", true)
  | 3 => ("ThanksOwed", "keptTown", "LThanksOwed$Town;", true)
  | 4 => ("ThanksOwed", "keptOffers", "LThanksOwed$Offers;", true)
  | 5 => ("ThanksOwed", "wouldBe", "LThanksOwed$Town;", true)
  | 6 => ("ThanksOwed", "rings", "LThanksOwed$RingSearch;", true)
  | 7 => ("ThanksOwed", "settlement", "LThanksOwed$Settlement;", true)
  | 8 => ("ThanksOwed", "acceptance", "LThanksOwed$Acceptance;", true)
  | 9 => ("ThanksOwed", "draws", "LThanksOwed$Draws;", true)
  | 10 => ("ThanksOwed", "ruinWeeks", "[I", true)
  | 11 => ("ThanksOwed", "imageKept", "Z", false)
  | _ => ("ThanksOwed", "lawsRead", "I", false)
def tyX9 : Nat → FieldType := fun k => match k with
  | 0 => .object "ThanksOwed$Page"
  | 1 => .object "ThanksOwed$Town"
  | 2 => .object "ThanksOwed$Offers"
  | 3 => .object "ThanksOwed$Town"
  | 4 => .object "ThanksOwed$Offers"
  | 5 => .object "ThanksOwed$Town"
  | 6 => .object "ThanksOwed$RingSearch"
  | 7 => .object "ThanksOwed$Settlement"
  | 8 => .object "ThanksOwed$Acceptance"
  | 9 => .object "ThanksOwed$Draws"
  | 10 => .array .int
  | 11 => .boolean
  | _ => .int
abbrev wsX90 : List Cond := u_ws RX9 TX9 13
theorem nmX9 : ∀ a, a < 13 → ∀ b, b < 13 → a ≠ b → (TX9 a).2.1 ≠ (TX9 b).2.1 := by decide +kernel
theorem tyX9_ok : ∀ k, k < 13 → parseFieldDescriptor (TX9 k).2.2.1 = some (tyX9 k) := by decide +kernel
abbrev cX9_init : ByteArray := prog_1_method_1_code
def yX9_init : MethodName := ⟨RX9, "<init>", "()V"⟩
abbrev cX9_letter : ByteArray := prog_1_method_2_code
def yX9_letter : MethodName := ⟨RX9, "letter", "(I)I"⟩
abbrev cX9_blank : ByteArray := prog_1_method_3_code
def yX9_blank : MethodName := ⟨RX9, "blank", "()I"⟩
abbrev cX9_fault : ByteArray := prog_1_method_4_code
def yX9_fault : MethodName := ⟨RX9, "fault", "()I"⟩
abbrev cX9_law : ByteArray := prog_1_method_5_code
def yX9_law : MethodName := ⟨RX9, "law", "()I"⟩
abbrev cX9_person : ByteArray := prog_1_method_6_code
def yX9_person : MethodName := ⟨RX9, "person", "(II)I"⟩
abbrev cX9_about : ByteArray := prog_1_method_7_code
def yX9_about : MethodName := ⟨RX9, "about", "(II)I"⟩
abbrev cX9_as : ByteArray := prog_1_method_8_code
def yX9_as : MethodName := ⟨RX9, "as", "(II)I"⟩
abbrev cX9_between : ByteArray := prog_1_method_9_code
def yX9_between : MethodName := ⟨RX9, "between", "(III)I"⟩
abbrev cX9_favour : ByteArray := prog_1_method_10_code
def yX9_favour : MethodName := ⟨RX9, "favour", "(IIIZ)I"⟩
abbrev cX9_week : ByteArray := prog_1_method_11_code
def yX9_week : MethodName := ⟨RX9, "week", "()I"⟩
abbrev cX9_pay : ByteArray := prog_1_method_12_code
def yX9_pay : MethodName := ⟨RX9, "pay", "(III)I"⟩
abbrev cX9_setOff : ByteArray := prog_1_method_13_code
def yX9_setOff : MethodName := ⟨RX9, "setOff", "(II)I"⟩
abbrev cX9_ring : ByteArray := prog_1_method_14_code
def yX9_ring : MethodName := ⟨RX9, "ring", "(III)I"⟩
abbrev cX9_forgive : ByteArray := prog_1_method_15_code
def yX9_forgive : MethodName := ⟨RX9, "forgive", "(II)I"⟩
abbrev cX9_bankrupt : ByteArray := prog_1_method_16_code
def yX9_bankrupt : MethodName := ⟨RX9, "bankrupt", "(I)I"⟩
abbrev cX9_ruin : ByteArray := prog_1_method_17_code
def yX9_ruin : MethodName := ⟨RX9, "ruin", "(I)I"⟩
abbrev cX9_settling : ByteArray := prog_1_method_18_code
def yX9_settling : MethodName := ⟨RX9, "settling", "()I"⟩
abbrev cX9_bestRing : ByteArray := prog_1_method_19_code
def yX9_bestRing : MethodName := ⟨RX9, "bestRing", "(I)I"⟩
abbrev cX9_offer : ByteArray := prog_1_method_20_code
def yX9_offer : MethodName := ⟨RX9, "offer", "(III)I"⟩
abbrev cX9_forget : ByteArray := prog_1_method_21_code
def yX9_forget : MethodName := ⟨RX9, "forget", "()I"⟩
abbrev cX9_accept : ByteArray := prog_1_method_22_code
def yX9_accept : MethodName := ⟨RX9, "accept", "(IIII)I"⟩
abbrev cX9_grown : ByteArray := prog_1_method_23_code
def yX9_grown : MethodName := ⟨RX9, "grown", "(IIIII)I"⟩
abbrev cX9_years : ByteArray := prog_1_method_24_code
def yX9_years : MethodName := ⟨RX9, "years", "(III)I"⟩
abbrev cX9_image : ByteArray := prog_1_method_25_code
def yX9_image : MethodName := ⟨RX9, "image", "()I"⟩
abbrev cX9_restore : ByteArray := prog_1_method_26_code
def yX9_restore : MethodName := ⟨RX9, "restore", "()I"⟩
abbrev cX9_count : ByteArray := prog_1_method_27_code
def yX9_count : MethodName := ⟨RX9, "count", "(I)I"⟩
abbrev cX9_digest : ByteArray := prog_1_method_28_code
def yX9_digest : MethodName := ⟨RX9, "digest", "()J"⟩
abbrev cX9_digestPerson : ByteArray := prog_1_method_29_code
def yX9_digestPerson : MethodName := ⟨RX9, "digestPerson", "(JI)J"⟩
abbrev cX9_foreseeRuin : ByteArray := prog_1_method_30_code
def yX9_foreseeRuin : MethodName := ⟨RX9, "foreseeRuin", "()V"⟩
abbrev cX9_noteRuined : ByteArray := prog_1_method_31_code
def yX9_noteRuined : MethodName := ⟨RX9, "noteRuined", "(I)V"⟩
abbrev cX9_within : ByteArray := prog_1_method_32_code
def yX9_within : MethodName := ⟨RX9, "within", "(III)Z"⟩
abbrev cX9_isKind : ByteArray := prog_1_method_33_code
def yX9_isKind : MethodName := ⟨RX9, "isKind", "(I)Z"⟩
abbrev cX9_isSize : ByteArray := prog_1_method_34_code
def yX9_isSize : MethodName := ⟨RX9, "isSize", "(I)Z"⟩
abbrev cX9_oneIf : ByteArray := prog_1_method_35_code
def yX9_oneIf : MethodName := ⟨RX9, "oneIf", "(Z)I"⟩
abbrev cX9_isAmong : ByteArray := prog_1_method_36_code
def yX9_isAmong : MethodName := ⟨RX9, "isAmong", "(II)Z"⟩
abbrev cX9_pairOf : ByteArray := prog_1_method_37_code
def yX9_pairOf : MethodName := ⟨RX9, "pairOf", "(II)I"⟩
def RX10 : String := "ThanksOwedModel"
def TX10 : u_T := fun k => match k with
  | 0 => ("ThanksOwedModel", "reads", "I", false)
  | 1 => ("ThanksOwedModel", "rate", "I", false)
  | 2 => ("ThanksOwedModel", "up", "I", false)
  | 3 => ("ThanksOwedModel", "free", "I", false)
  | 4 => ("ThanksOwedModel", "sulk", "I", false)
  | 5 => ("ThanksOwedModel", "people", "I", false)
  | 6 => ("ThanksOwedModel", "kindOf", "[I", true)
  | 7 => ("ThanksOwedModel", "wealthOf", "[I", true)
  | 8 => ("ThanksOwedModel", "owesOf", "[I", true)
  | 9 => ("ThanksOwedModel", "freeOf", "[I", true)
  | 10 => ("ThanksOwedModel", "offendedOf", "[I", true)
  | 11 => ("ThanksOwedModel", "weeks", "I", false)
  | 12 => ("ThanksOwedModel", "offers", "I", false)
  | 13 => ("ThanksOwedModel", "offerFrom", "[I", true)
  | 14 => ("ThanksOwedModel", "offerTo", "[I", true)
  | 15 => ("ThanksOwedModel", "offerSize", "[I", true)
  | 16 => ("ThanksOwedModel", "pageLength", "I", false)
  | 17 => ("ThanksOwedModel", "page", "[B", true)
  | 18 => ("ThanksOwedModel", "sumOf", "[I", true)
  | 19 => ("ThanksOwedModel", "groupsOf", "[I", true)
  | 20 => ("ThanksOwedModel", "row", "[I", true)
  | 21 => ("ThanksOwedModel", "seedNow", "J", false)
  | 22 => ("ThanksOwedModel", "isKept", "Z", false)
  | 23 => ("ThanksOwedModel", "keptRate", "I", false)
  | 24 => ("ThanksOwedModel", "keptUp", "I", false)
  | 25 => ("ThanksOwedModel", "keptFree", "I", false)
  | 26 => ("ThanksOwedModel", "keptSulk", "I", false)
  | 27 => ("ThanksOwedModel", "keptPeople", "I", false)
  | 28 => ("ThanksOwedModel", "keptWeeks", "I", false)
  | 29 => ("ThanksOwedModel", "keptOffers", "I", false)
  | 30 => ("ThanksOwedModel", "keptWealth", "[I", true)
  | 31 => ("ThanksOwedModel", "keptOwes", "[I", true)
  | 32 => ("ThanksOwedModel", "keptFreeOf", "[I", true)
  | 33 => ("ThanksOwedModel", "keptOffended", "[I", true)
  | 34 => ("ThanksOwedModel", "keptOffer", "[I", true)
  | _ => ("ThanksOwedModel", "h", "J", false)
def tyX10 : Nat → FieldType := fun k => match k with
  | 0 => .int
  | 1 => .int
  | 2 => .int
  | 3 => .int
  | 4 => .int
  | 5 => .int
  | 6 => .array .int
  | 7 => .array .int
  | 8 => .array .int
  | 9 => .array .int
  | 10 => .array .int
  | 11 => .int
  | 12 => .int
  | 13 => .array .int
  | 14 => .array .int
  | 15 => .array .int
  | 16 => .int
  | 17 => .array .byte
  | 18 => .array .int
  | 19 => .array .int
  | 20 => .array .int
  | 21 => .long
  | 22 => .boolean
  | 23 => .int
  | 24 => .int
  | 25 => .int
  | 26 => .int
  | 27 => .int
  | 28 => .int
  | 29 => .int
  | 30 => .array .int
  | 31 => .array .int
  | 32 => .array .int
  | 33 => .array .int
  | 34 => .array .int
  | _ => .long
abbrev wsX100 : List Cond := u_ws RX10 TX10 36
theorem nmX10 : ∀ a, a < 36 → ∀ b, b < 36 → a ≠ b → (TX10 a).2.1 ≠ (TX10 b).2.1 := by decide +kernel
theorem tyX10_ok : ∀ k, k < 36 → parseFieldDescriptor (TX10 k).2.2.1 = some (tyX10 k) := by decide +kernel
abbrev cX10_init : ByteArray := prog_12_method_1_code
def yX10_init : MethodName := ⟨RX10, "<init>", "()V"⟩
abbrev cX10_within : ByteArray := prog_12_method_3_code
def yX10_within : MethodName := ⟨RX10, "within", "(III)Z"⟩
abbrev cX10_size : ByteArray := prog_12_method_4_code
def yX10_size : MethodName := ⟨RX10, "size", "(I)I"⟩
abbrev cX10_less : ByteArray := prog_12_method_5_code
def yX10_less : MethodName := ⟨RX10, "less", "(II)I"⟩
abbrev cX10_more : ByteArray := prog_12_method_6_code
def yX10_more : MethodName := ⟨RX10, "more", "(II)I"⟩
abbrev cX10_letter : ByteArray := prog_12_method_7_code
def yX10_letter : MethodName := ⟨RX10, "letter", "(I)I"⟩
abbrev cX10_blank : ByteArray := prog_12_method_8_code
def yX10_blank : MethodName := ⟨RX10, "blank", "()I"⟩
abbrev cX10_isGood : ByteArray := prog_12_method_9_code
def yX10_isGood : MethodName := ⟨RX10, "isGood", "(I)Z"⟩
abbrev cX10_faultNow : ByteArray := prog_12_method_10_code
def yX10_faultNow : MethodName := ⟨RX10, "faultNow", "()I"⟩
abbrev cX10_fault : ByteArray := prog_12_method_11_code
def yX10_fault : MethodName := ⟨RX10, "fault", "()I"⟩
abbrev cX10_law : ByteArray := prog_12_method_12_code
def yX10_law : MethodName := ⟨RX10, "law", "()I"⟩
abbrev cX10_isPerson : ByteArray := prog_12_method_13_code
def yX10_isPerson : MethodName := ⟨RX10, "isPerson", "(I)Z"⟩
abbrev cX10_areTwo : ByteArray := prog_12_method_14_code
def yX10_areTwo : MethodName := ⟨RX10, "areTwo", "(II)Z"⟩
abbrev cX10_person : ByteArray := prog_12_method_15_code
def yX10_person : MethodName := ⟨RX10, "person", "(II)I"⟩
abbrev cX10_clearPair : ByteArray := prog_12_method_16_code
def yX10_clearPair : MethodName := ⟨RX10, "clearPair", "(I)V"⟩
abbrev cX10_owesAll : ByteArray := prog_12_method_17_code
def yX10_owesAll : MethodName := ⟨RX10, "owesAll", "(II)I"⟩
abbrev cX10_owedBy : ByteArray := prog_12_method_18_code
def yX10_owedBy : MethodName := ⟨RX10, "owedBy", "(II)I"⟩
abbrev cX10_net : ByteArray := prog_12_method_19_code
def yX10_net : MethodName := ⟨RX10, "net", "(II)I"⟩
abbrev cX10_personNow : ByteArray := prog_12_method_20_code
def yX10_personNow : MethodName := ⟨RX10, "personNow", "(II)I"⟩
abbrev cX10_about : ByteArray := prog_12_method_21_code
def yX10_about : MethodName := ⟨RX10, "about", "(II)I"⟩
abbrev cX10_as : ByteArray := prog_12_method_22_code
def yX10_as : MethodName := ⟨RX10, "as", "(II)I"⟩
abbrev cX10_betweenNow : ByteArray := prog_12_method_23_code
def yX10_betweenNow : MethodName := ⟨RX10, "betweenNow", "(III)I"⟩
abbrev cX10_between : ByteArray := prog_12_method_24_code
def yX10_between : MethodName := ⟨RX10, "between", "(III)I"⟩
abbrev cX10_neverThanks : ByteArray := prog_12_method_25_code
def yX10_neverThanks : MethodName := ⟨RX10, "neverThanks", "(I)Z"⟩
abbrev cX10_thank : ByteArray := prog_12_method_26_code
def yX10_thank : MethodName := ⟨RX10, "thank", "(IIII)V"⟩
abbrev cX10_grunt : ByteArray := prog_12_method_27_code
def yX10_grunt : MethodName := ⟨RX10, "grunt", "(III)V"⟩
abbrev cX10_favour : ByteArray := prog_12_method_28_code
def yX10_favour : MethodName := ⟨RX10, "favour", "(IIIZ)I"⟩
abbrev cX10_grows : ByteArray := prog_12_method_29_code
def yX10_grows : MethodName := ⟨RX10, "grows", "(III)I"⟩
abbrev cX10_goWeek : ByteArray := prog_12_method_30_code
def yX10_goWeek : MethodName := ⟨RX10, "goWeek", "(I)I"⟩
abbrev cX10_week : ByteArray := prog_12_method_31_code
def yX10_week : MethodName := ⟨RX10, "week", "()I"⟩
abbrev cX10_pay : ByteArray := prog_12_method_32_code
def yX10_pay : MethodName := ⟨RX10, "pay", "(III)I"⟩
abbrev cX10_setOff : ByteArray := prog_12_method_33_code
def yX10_setOff : MethodName := ⟨RX10, "setOff", "(II)I"⟩
abbrev cX10_ring : ByteArray := prog_12_method_34_code
def yX10_ring : MethodName := ⟨RX10, "ring", "(III)I"⟩
abbrev cX10_forgive : ByteArray := prog_12_method_35_code
def yX10_forgive : MethodName := ⟨RX10, "forgive", "(II)I"⟩
abbrev cX10_bankrupt : ByteArray := prog_12_method_36_code
def yX10_bankrupt : MethodName := ⟨RX10, "bankrupt", "(I)I"⟩
abbrev cX10_copy : ByteArray := prog_12_method_37_code
def yX10_copy : MethodName := ⟨RX10, "copy", "()V"⟩
abbrev cX10_ruinNow : ByteArray := prog_12_method_38_code
def yX10_ruinNow : MethodName := ⟨RX10, "ruinNow", "(I)I"⟩
abbrev cX10_ruin : ByteArray := prog_12_method_39_code
def yX10_ruin : MethodName := ⟨RX10, "ruin", "(I)I"⟩
abbrev cX10_settlingNow : ByteArray := prog_12_method_40_code
def yX10_settlingNow : MethodName := ⟨RX10, "settlingNow", "()I"⟩
abbrev cX10_layGroups : ByteArray := prog_12_method_41_code
def yX10_layGroups : MethodName := ⟨RX10, "layGroups", "(II)V"⟩
abbrev cX10_settling : ByteArray := prog_12_method_42_code
def yX10_settling : MethodName := ⟨RX10, "settling", "()I"⟩
abbrev cX10_ringBy : ByteArray := prog_12_method_43_code
def yX10_ringBy : MethodName := ⟨RX10, "ringBy", "(II)I"⟩
abbrev cX10_bestRingNow : ByteArray := prog_12_method_44_code
def yX10_bestRingNow : MethodName := ⟨RX10, "bestRingNow", "(I)I"⟩
abbrev cX10_bestRing : ByteArray := prog_12_method_45_code
def yX10_bestRing : MethodName := ⟨RX10, "bestRing", "(I)I"⟩
abbrev cX10_offer : ByteArray := prog_12_method_46_code
def yX10_offer : MethodName := ⟨RX10, "offer", "(III)I"⟩
abbrev cX10_forget : ByteArray := prog_12_method_47_code
def yX10_forget : MethodName := ⟨RX10, "forget", "()I"⟩
abbrev cX10_owesBy : ByteArray := prog_12_method_48_code
def yX10_owesBy : MethodName := ⟨RX10, "owesBy", "(IIII)I"⟩
abbrev cX10_acceptNow : ByteArray := prog_12_method_49_code
def yX10_acceptNow : MethodName := ⟨RX10, "acceptNow", "(IIII)I"⟩
abbrev cX10_accept : ByteArray := prog_12_method_50_code
def yX10_accept : MethodName := ⟨RX10, "accept", "(IIII)I"⟩
abbrev cX10_grownNow : ByteArray := prog_12_method_51_code
def yX10_grownNow : MethodName := ⟨RX10, "grownNow", "(IIIII)I"⟩
abbrev cX10_grown : ByteArray := prog_12_method_52_code
def yX10_grown : MethodName := ⟨RX10, "grown", "(IIIII)I"⟩
abbrev cX10_draw : ByteArray := prog_12_method_53_code
def yX10_draw : MethodName := ⟨RX10, "draw", "(I)I"⟩
abbrev cX10_goYear : ByteArray := prog_12_method_54_code
def yX10_goYear : MethodName := ⟨RX10, "goYear", "()V"⟩
abbrev cX10_yearsNow : ByteArray := prog_12_method_55_code
def yX10_yearsNow : MethodName := ⟨RX10, "yearsNow", "(III)I"⟩
abbrev cX10_years : ByteArray := prog_12_method_56_code
def yX10_years : MethodName := ⟨RX10, "years", "(III)I"⟩
abbrev cX10_image : ByteArray := prog_12_method_57_code
def yX10_image : MethodName := ⟨RX10, "image", "()I"⟩
abbrev cX10_restore : ByteArray := prog_12_method_58_code
def yX10_restore : MethodName := ⟨RX10, "restore", "()I"⟩
abbrev cX10_owedAll : ByteArray := prog_12_method_59_code
def yX10_owedAll : MethodName := ⟨RX10, "owedAll", "()I"⟩
abbrev cX10_ruinedMany : ByteArray := prog_12_method_60_code
def yX10_ruinedMany : MethodName := ⟨RX10, "ruinedMany", "()I"⟩
abbrev cX10_howMany : ByteArray := prog_12_method_61_code
def yX10_howMany : MethodName := ⟨RX10, "howMany", "(I)I"⟩
abbrev cX10_count : ByteArray := prog_12_method_62_code
def yX10_count : MethodName := ⟨RX10, "count", "(I)I"⟩
abbrev cX10_mix : ByteArray := prog_12_method_63_code
def yX10_mix : MethodName := ⟨RX10, "mix", "(J)V"⟩
abbrev cX10_mixPerson : ByteArray := prog_12_method_64_code
def yX10_mixPerson : MethodName := ⟨RX10, "mixPerson", "(I)V"⟩
abbrev cX10_digest : ByteArray := prog_12_method_65_code
def yX10_digest : MethodName := ⟨RX10, "digest", "()J"⟩
def RJx29ce0 : String := "java/lang/Enum"
def RJ6 : String := "java/lang/Integer"
abbrev cJ6_numberOfTrailingZeros_0f7a4 : ByteArray := prog_14_method_48_code
def yJ6_numberOfTrailingZeros_0f7a4 : MethodName := ⟨RJ6, "numberOfTrailingZeros", "(I)I"⟩
abbrev cJ6_bitCount_0f7a4 : ByteArray := prog_14_method_49_code
def yJ6_bitCount_0f7a4 : MethodName := ⟨RJ6, "bitCount", "(I)I"⟩
def RJ9 : String := "java/lang/Math"
abbrev cJ9_max_7cf53 : ByteArray := prog_15_method_65_code
def yJ9_max_7cf53 : MethodName := ⟨RJ9, "max", "(II)I"⟩
abbrev cJ9_min_7cf53 : ByteArray := prog_15_method_69_code
def yJ9_min_7cf53 : MethodName := ⟨RJ9, "min", "(II)I"⟩
def RJ10 : String := "java/lang/System"
def RL : String := "ThanksOwedLaw"
abbrev cL_law : ByteArray := code
def yL_law : MethodName := ⟨RL, "law", "([I)Z"⟩
abbrev vwCl : List vw_C := [(RX0, TX0, 2), (RX1, TX1, 1), (RX3, TX3, 4), (RX4, TX4, 4), (RX5, TX5, 2), (RX6, TX6, 4), (RX7, TX7, 2), (RX8, TX8, 8), (RX9, TX9, 13), (RX10, TX10, 36)]
